/-! methods as descriptors; the words of fields, calls, objects: printed by wip/whole/gen04_links.py -/
theorem iwX0 : ∀ w ∈ u_ws RX0 TX0 10, w ∈ ms_big := ms_sub _ [191, 193, 195, 197, 199, 201, 203, 205, 207, 209] (by decide +kernel) (by decide +kernel)
theorem iwX1 : ∀ w ∈ u_ws RX1 TX1 4, w ∈ ms_big := ms_sub _ [84, 86, 88, 90] (by decide +kernel) (by decide +kernel)
theorem iwX2 : ∀ w ∈ u_ws RX2 TX2 5, w ∈ ms_big := ms_sub _ [225, 227, 229, 231, 233] (by decide +kernel) (by decide +kernel)
theorem iwX3 : ∀ w ∈ u_ws RX3 TX3 5, w ∈ ms_big := ms_sub _ [105, 107, 109, 111, 113] (by decide +kernel) (by decide +kernel)
theorem iwX4 : ∀ w ∈ u_ws RX4 TX4 11, w ∈ ms_big := ms_sub _ [152, 154, 156, 158, 160, 162, 164, 166, 168, 170, 172] (by decide +kernel) (by decide +kernel)
theorem iwX5 : ∀ w ∈ u_ws RX5 TX5 6, w ∈ ms_big := ms_sub _ [274, 276, 278, 280, 282, 284] (by decide +kernel) (by decide +kernel)
theorem iwX6 : ∀ w ∈ u_ws RX6 TX6 11, w ∈ ms_big := ms_sub _ [874, 876, 878, 880, 882, 884, 886, 888, 890, 892, 894] (by decide +kernel) (by decide +kernel)
theorem fg_X5_10 : ms_okF RX5 10 5 0 := ⟨RX5, TX5, 6, rfl, by decide, iwX5, (ms_at 268 (by decide +kernel) rfl), rfl⟩
theorem fg_X5_21 : ms_okF RX5 21 5 1 := ⟨RX5, TX5, 6, rfl, by decide, iwX5, (ms_at 269 (by decide +kernel) rfl), rfl⟩
theorem fg_X5_30 : ms_okF RX5 30 5 2 := ⟨RX5, TX5, 6, rfl, by decide, iwX5, (ms_at 270 (by decide +kernel) rfl), rfl⟩
theorem fg_X5_37 : ms_okF RX5 37 5 3 := ⟨RX5, TX5, 6, rfl, by decide, iwX5, (ms_at 271 (by decide +kernel) rfl), rfl⟩
theorem fg_X5_41 : ms_okF RX5 41 5 4 := ⟨RX5, TX5, 6, rfl, by decide, iwX5, (ms_at 272 (by decide +kernel) rfl), rfl⟩
theorem fg_X5_44 : ms_okF RX5 44 5 5 := ⟨RX5, TX5, 6, rfl, by decide, iwX5, (ms_at 273 (by decide +kernel) rfl), rfl⟩
theorem fg_X5_58 : ms_okF RX5 58 1 0 := ⟨RX1, TX1, 4, rfl, by decide, iwX1, (ms_at 78 (by decide +kernel) rfl), rfl⟩
theorem fg_X5_113 : ms_okF RX5 113 4 0 := ⟨RX4, TX4, 11, rfl, by decide, iwX4, (ms_at 130 (by decide +kernel) rfl), rfl⟩
theorem fg_X5_132 : ms_okF RX5 132 0 2 := ⟨RX0, TX0, 10, rfl, by decide, iwX0, (ms_at 181 (by decide +kernel) rfl), rfl⟩
theorem fg_X5_163 : ms_okF RX5 163 0 0 := ⟨RX0, TX0, 10, rfl, by decide, iwX0, (ms_at 177 (by decide +kernel) rfl), rfl⟩
theorem fg_X5_180 : ms_okF RX5 180 4 3 := ⟨RX4, TX4, 11, rfl, by decide, iwX4, (ms_at 139 (by decide +kernel) rfl), rfl⟩
theorem fg_X5_196 : ms_okF RX5 196 0 1 := ⟨RX0, TX0, 10, rfl, by decide, iwX0, (ms_at 179 (by decide +kernel) rfl), rfl⟩
theorem fg_X5_291 : ms_okF RX5 291 2 1 := ⟨RX2, TX2, 5, rfl, by decide, iwX2, (ms_at 221 (by decide +kernel) rfl), rfl⟩
theorem fg_X5_294 : ms_okF RX5 294 2 0 := ⟨RX2, TX2, 5, rfl, by decide, iwX2, (ms_at 219 (by decide +kernel) rfl), rfl⟩
theorem fg_X0_9 : ms_okF RX0 9 0 2 := ⟨RX0, TX0, 10, rfl, by decide, iwX0, (ms_at 180 (by decide +kernel) rfl), rfl⟩
theorem fg_X0_15 : ms_okF RX0 15 0 3 := ⟨RX0, TX0, 10, rfl, by decide, iwX0, (ms_at 182 (by decide +kernel) rfl), rfl⟩
theorem fg_X0_20 : ms_okF RX0 20 0 6 := ⟨RX0, TX0, 10, rfl, by decide, iwX0, (ms_at 187 (by decide +kernel) rfl), rfl⟩
theorem fg_X0_24 : ms_okF RX0 24 0 7 := ⟨RX0, TX0, 10, rfl, by decide, iwX0, (ms_at 188 (by decide +kernel) rfl), rfl⟩
theorem fg_X0_28 : ms_okF RX0 28 0 8 := ⟨RX0, TX0, 10, rfl, by decide, iwX0, (ms_at 189 (by decide +kernel) rfl), rfl⟩
theorem fg_X0_31 : ms_okF RX0 31 0 9 := ⟨RX0, TX0, 10, rfl, by decide, iwX0, (ms_at 190 (by decide +kernel) rfl), rfl⟩
theorem fg_X0_34 : ms_okF RX0 34 0 4 := ⟨RX0, TX0, 10, rfl, by decide, iwX0, (ms_at 184 (by decide +kernel) rfl), rfl⟩
theorem fg_X0_38 : ms_okF RX0 38 0 5 := ⟨RX0, TX0, 10, rfl, by decide, iwX0, (ms_at 186 (by decide +kernel) rfl), rfl⟩
theorem fg_X0_43 : ms_okF RX0 43 0 0 := ⟨RX0, TX0, 10, rfl, by decide, iwX0, (ms_at 175 (by decide +kernel) rfl), rfl⟩
theorem fg_X0_46 : ms_okF RX0 46 0 1 := ⟨RX0, TX0, 10, rfl, by decide, iwX0, (ms_at 178 (by decide +kernel) rfl), rfl⟩
theorem fg_X0_85 : ms_okF RX0 85 1 0 := ⟨RX1, TX1, 4, rfl, by decide, iwX1, (ms_at 80 (by decide +kernel) rfl), rfl⟩
theorem fg_X0_95 : ms_okF RX0 95 4 0 := ⟨RX4, TX4, 11, rfl, by decide, iwX4, (ms_at 131 (by decide +kernel) rfl), rfl⟩
theorem fg_X0_98 : ms_okF RX0 98 4 3 := ⟨RX4, TX4, 11, rfl, by decide, iwX4, (ms_at 140 (by decide +kernel) rfl), rfl⟩
theorem fg_X0_106 : ms_okF RX0 106 4 6 := ⟨RX4, TX4, 11, rfl, by decide, iwX4, (ms_at 146 (by decide +kernel) rfl), rfl⟩
theorem fg_X0_109 : ms_okF RX0 109 4 1 := ⟨RX4, TX4, 11, rfl, by decide, iwX4, (ms_at 133 (by decide +kernel) rfl), rfl⟩
theorem fg_X0_112 : ms_okF RX0 112 4 2 := ⟨RX4, TX4, 11, rfl, by decide, iwX4, (ms_at 136 (by decide +kernel) rfl), rfl⟩
theorem fg_X0_115 : ms_okF RX0 115 4 4 := ⟨RX4, TX4, 11, rfl, by decide, iwX4, (ms_at 142 (by decide +kernel) rfl), rfl⟩
theorem fg_X0_118 : ms_okF RX0 118 4 5 := ⟨RX4, TX4, 11, rfl, by decide, iwX4, (ms_at 144 (by decide +kernel) rfl), rfl⟩
theorem fg_X0_121 : ms_okF RX0 121 4 7 := ⟨RX4, TX4, 11, rfl, by decide, iwX4, (ms_at 148 (by decide +kernel) rfl), rfl⟩
theorem fg_X0_154 : ms_okF RX0 154 4 8 := ⟨RX4, TX4, 11, rfl, by decide, iwX4, (ms_at 149 (by decide +kernel) rfl), rfl⟩
theorem fg_X0_173 : ms_okF RX0 173 4 9 := ⟨RX4, TX4, 11, rfl, by decide, iwX4, (ms_at 150 (by decide +kernel) rfl), rfl⟩
theorem fg_X0_176 : ms_okF RX0 176 4 10 := ⟨RX4, TX4, 11, rfl, by decide, iwX4, (ms_at 151 (by decide +kernel) rfl), rfl⟩
theorem fg_X1_9 : ms_okF RX1 9 1 3 := ⟨RX1, TX1, 4, rfl, by decide, iwX1, (ms_at 83 (by decide +kernel) rfl), rfl⟩
theorem fg_X1_15 : ms_okF RX1 15 1 1 := ⟨RX1, TX1, 4, rfl, by decide, iwX1, (ms_at 81 (by decide +kernel) rfl), rfl⟩
theorem fg_X1_19 : ms_okF RX1 19 1 2 := ⟨RX1, TX1, 4, rfl, by decide, iwX1, (ms_at 82 (by decide +kernel) rfl), rfl⟩
theorem fg_X1_22 : ms_okF RX1 22 1 0 := ⟨RX1, TX1, 4, rfl, by decide, iwX1, (ms_at 77 (by decide +kernel) rfl), rfl⟩
theorem fg_X2_9 : ms_okF RX2 9 2 2 := ⟨RX2, TX2, 5, rfl, by decide, iwX2, (ms_at 222 (by decide +kernel) rfl), rfl⟩
theorem fg_X2_15 : ms_okF RX2 15 2 3 := ⟨RX2, TX2, 5, rfl, by decide, iwX2, (ms_at 223 (by decide +kernel) rfl), rfl⟩
theorem fg_X2_18 : ms_okF RX2 18 2 4 := ⟨RX2, TX2, 5, rfl, by decide, iwX2, (ms_at 224 (by decide +kernel) rfl), rfl⟩
theorem fg_X2_21 : ms_okF RX2 21 2 0 := ⟨RX2, TX2, 5, rfl, by decide, iwX2, (ms_at 218 (by decide +kernel) rfl), rfl⟩
theorem fg_X2_25 : ms_okF RX2 25 2 1 := ⟨RX2, TX2, 5, rfl, by decide, iwX2, (ms_at 220 (by decide +kernel) rfl), rfl⟩
theorem fg_X2_28 : ms_okF RX2 28 0 0 := ⟨RX0, TX0, 10, rfl, by decide, iwX0, (ms_at 176 (by decide +kernel) rfl), rfl⟩
theorem fg_X2_55 : ms_okF RX2 55 4 3 := ⟨RX4, TX4, 11, rfl, by decide, iwX4, (ms_at 138 (by decide +kernel) rfl), rfl⟩
theorem fg_X3_9 : ms_okF RX3 9 3 1 := ⟨RX3, TX3, 5, rfl, by decide, iwX3, (ms_at 101 (by decide +kernel) rfl), rfl⟩
theorem fg_X3_15 : ms_okF RX3 15 3 2 := ⟨RX3, TX3, 5, rfl, by decide, iwX3, (ms_at 102 (by decide +kernel) rfl), rfl⟩
theorem fg_X3_18 : ms_okF RX3 18 3 3 := ⟨RX3, TX3, 5, rfl, by decide, iwX3, (ms_at 103 (by decide +kernel) rfl), rfl⟩
theorem fg_X3_21 : ms_okF RX3 21 3 4 := ⟨RX3, TX3, 5, rfl, by decide, iwX3, (ms_at 104 (by decide +kernel) rfl), rfl⟩
theorem fg_X3_24 : ms_okF RX3 24 3 0 := ⟨RX3, TX3, 5, rfl, by decide, iwX3, (ms_at 100 (by decide +kernel) rfl), rfl⟩
theorem fg_X3_43 : ms_okF RX3 43 1 0 := ⟨RX1, TX1, 4, rfl, by decide, iwX1, (ms_at 79 (by decide +kernel) rfl), rfl⟩
theorem fg_X4_9 : ms_okF RX4 9 4 0 := ⟨RX4, TX4, 11, rfl, by decide, iwX4, (ms_at 129 (by decide +kernel) rfl), rfl⟩
theorem fg_X4_15 : ms_okF RX4 15 4 1 := ⟨RX4, TX4, 11, rfl, by decide, iwX4, (ms_at 132 (by decide +kernel) rfl), rfl⟩
theorem fg_X4_18 : ms_okF RX4 18 4 2 := ⟨RX4, TX4, 11, rfl, by decide, iwX4, (ms_at 134 (by decide +kernel) rfl), rfl⟩
theorem fg_X4_21 : ms_okF RX4 21 4 3 := ⟨RX4, TX4, 11, rfl, by decide, iwX4, (ms_at 137 (by decide +kernel) rfl), rfl⟩
theorem fg_X4_24 : ms_okF RX4 24 4 4 := ⟨RX4, TX4, 11, rfl, by decide, iwX4, (ms_at 141 (by decide +kernel) rfl), rfl⟩
theorem fg_X4_27 : ms_okF RX4 27 4 5 := ⟨RX4, TX4, 11, rfl, by decide, iwX4, (ms_at 143 (by decide +kernel) rfl), rfl⟩
theorem fg_X4_30 : ms_okF RX4 30 4 6 := ⟨RX4, TX4, 11, rfl, by decide, iwX4, (ms_at 145 (by decide +kernel) rfl), rfl⟩
theorem fg_X4_33 : ms_okF RX4 33 4 7 := ⟨RX4, TX4, 11, rfl, by decide, iwX4, (ms_at 147 (by decide +kernel) rfl), rfl⟩
theorem fg_X6_7 : ms_okF RX6 7 6 4 := ⟨RX6, TX6, 11, rfl, by decide, iwX6, (ms_at 867 (by decide +kernel) rfl), rfl⟩
theorem fg_X6_13 : ms_okF RX6 13 6 5 := ⟨RX6, TX6, 11, rfl, by decide, iwX6, (ms_at 868 (by decide +kernel) rfl), rfl⟩
theorem fg_X6_20 : ms_okF RX6 20 6 1 := ⟨RX6, TX6, 11, rfl, by decide, iwX6, (ms_at 864 (by decide +kernel) rfl), rfl⟩
theorem fg_X6_23 : ms_okF RX6 23 6 2 := ⟨RX6, TX6, 11, rfl, by decide, iwX6, (ms_at 865 (by decide +kernel) rfl), rfl⟩
theorem fg_X6_26 : ms_okF RX6 26 6 3 := ⟨RX6, TX6, 11, rfl, by decide, iwX6, (ms_at 866 (by decide +kernel) rfl), rfl⟩
theorem fg_X6_29 : ms_okF RX6 29 6 6 := ⟨RX6, TX6, 11, rfl, by decide, iwX6, (ms_at 869 (by decide +kernel) rfl), rfl⟩
theorem fg_X6_33 : ms_okF RX6 33 6 7 := ⟨RX6, TX6, 11, rfl, by decide, iwX6, (ms_at 870 (by decide +kernel) rfl), rfl⟩
theorem fg_X6_36 : ms_okF RX6 36 6 8 := ⟨RX6, TX6, 11, rfl, by decide, iwX6, (ms_at 871 (by decide +kernel) rfl), rfl⟩
theorem fg_X6_39 : ms_okF RX6 39 6 9 := ⟨RX6, TX6, 11, rfl, by decide, iwX6, (ms_at 872 (by decide +kernel) rfl), rfl⟩
theorem fg_X6_43 : ms_okF RX6 43 6 10 := ⟨RX6, TX6, 11, rfl, by decide, iwX6, (ms_at 873 (by decide +kernel) rfl), rfl⟩
theorem fg_X6_46 : ms_okF RX6 46 6 0 := ⟨RX6, TX6, 11, rfl, by decide, iwX6, (ms_at 863 (by decide +kernel) rfl), rfl⟩
theorem fp_X5_10 : ms_okP RX5 10 5 0 (tyX5 0) true := ⟨RX5, TX5, 6, tyX5, rfl, by decide, iwX5, (ms_at 268 (by decide +kernel) rfl), rfl, tyX5_ok, nmX5, rfl, rfl, fun _ => rfl⟩
theorem fp_X5_21 : ms_okP RX5 21 5 1 (tyX5 1) true := ⟨RX5, TX5, 6, tyX5, rfl, by decide, iwX5, (ms_at 269 (by decide +kernel) rfl), rfl, tyX5_ok, nmX5, rfl, rfl, fun _ => rfl⟩
theorem fp_X5_30 : ms_okP RX5 30 5 2 (tyX5 2) true := ⟨RX5, TX5, 6, tyX5, rfl, by decide, iwX5, (ms_at 270 (by decide +kernel) rfl), rfl, tyX5_ok, nmX5, rfl, rfl, fun _ => rfl⟩
theorem fp_X5_37 : ms_okP RX5 37 5 3 (tyX5 3) true := ⟨RX5, TX5, 6, tyX5, rfl, by decide, iwX5, (ms_at 271 (by decide +kernel) rfl), rfl, tyX5_ok, nmX5, rfl, rfl, fun _ => rfl⟩
theorem fp_X5_41 : ms_okP RX5 41 5 4 (tyX5 4) true := ⟨RX5, TX5, 6, tyX5, rfl, by decide, iwX5, (ms_at 272 (by decide +kernel) rfl), rfl, tyX5_ok, nmX5, rfl, rfl, fun _ => rfl⟩
theorem fp_X5_44 : ms_okP RX5 44 5 5 (tyX5 5) true := ⟨RX5, TX5, 6, tyX5, rfl, by decide, iwX5, (ms_at 273 (by decide +kernel) rfl), rfl, tyX5_ok, nmX5, rfl, rfl, fun _ => rfl⟩
theorem fp_X5_113 : ms_okP RX5 113 4 0 (tyX4 0) false := ⟨RX4, TX4, 11, tyX4, rfl, by decide, iwX4, (ms_at 130 (by decide +kernel) rfl), rfl, tyX4_ok, nmX4, rfl, rfl, fun h => by cases h⟩
theorem fp_X5_132 : ms_okP RX5 132 0 2 (tyX0 2) false := ⟨RX0, TX0, 10, tyX0, rfl, by decide, iwX0, (ms_at 181 (by decide +kernel) rfl), rfl, tyX0_ok, nmX0, rfl, rfl, fun h => by cases h⟩
theorem fp_X5_135 : ms_okP RX5 135 0 3 (tyX0 3) false := ⟨RX0, TX0, 10, tyX0, rfl, by decide, iwX0, (ms_at 183 (by decide +kernel) rfl), rfl, tyX0_ok, nmX0, rfl, rfl, fun h => by cases h⟩
theorem fp_X5_185 : ms_okP RX5 185 4 2 (tyX4 2) false := ⟨RX4, TX4, 11, tyX4, rfl, by decide, iwX4, (ms_at 135 (by decide +kernel) rfl), rfl, tyX4_ok, nmX4, rfl, rfl, fun h => by cases h⟩
theorem fp_X0_9 : ms_okP RX0 9 0 2 (tyX0 2) false := ⟨RX0, TX0, 10, tyX0, rfl, by decide, iwX0, (ms_at 180 (by decide +kernel) rfl), rfl, tyX0_ok, nmX0, rfl, rfl, fun h => by cases h⟩
theorem fp_X0_15 : ms_okP RX0 15 0 3 (tyX0 3) false := ⟨RX0, TX0, 10, tyX0, rfl, by decide, iwX0, (ms_at 182 (by decide +kernel) rfl), rfl, tyX0_ok, nmX0, rfl, rfl, fun h => by cases h⟩
theorem fp_X0_20 : ms_okP RX0 20 0 6 (tyX0 6) true := ⟨RX0, TX0, 10, tyX0, rfl, by decide, iwX0, (ms_at 187 (by decide +kernel) rfl), rfl, tyX0_ok, nmX0, rfl, rfl, fun _ => rfl⟩
theorem fp_X0_24 : ms_okP RX0 24 0 7 (tyX0 7) true := ⟨RX0, TX0, 10, tyX0, rfl, by decide, iwX0, (ms_at 188 (by decide +kernel) rfl), rfl, tyX0_ok, nmX0, rfl, rfl, fun _ => rfl⟩
theorem fp_X0_28 : ms_okP RX0 28 0 8 (tyX0 8) true := ⟨RX0, TX0, 10, tyX0, rfl, by decide, iwX0, (ms_at 189 (by decide +kernel) rfl), rfl, tyX0_ok, nmX0, rfl, rfl, fun _ => rfl⟩
theorem fp_X0_31 : ms_okP RX0 31 0 9 (tyX0 9) true := ⟨RX0, TX0, 10, tyX0, rfl, by decide, iwX0, (ms_at 190 (by decide +kernel) rfl), rfl, tyX0_ok, nmX0, rfl, rfl, fun _ => rfl⟩
theorem fp_X0_34 : ms_okP RX0 34 0 4 (tyX0 4) true := ⟨RX0, TX0, 10, tyX0, rfl, by decide, iwX0, (ms_at 184 (by decide +kernel) rfl), rfl, tyX0_ok, nmX0, rfl, rfl, fun _ => rfl⟩
theorem fp_X0_38 : ms_okP RX0 38 0 5 (tyX0 5) true := ⟨RX0, TX0, 10, tyX0, rfl, by decide, iwX0, (ms_at 186 (by decide +kernel) rfl), rfl, tyX0_ok, nmX0, rfl, rfl, fun _ => rfl⟩
theorem fp_X0_43 : ms_okP RX0 43 0 0 (tyX0 0) false := ⟨RX0, TX0, 10, tyX0, rfl, by decide, iwX0, (ms_at 175 (by decide +kernel) rfl), rfl, tyX0_ok, nmX0, rfl, rfl, fun h => by cases h⟩
theorem fp_X0_46 : ms_okP RX0 46 0 1 (tyX0 1) false := ⟨RX0, TX0, 10, tyX0, rfl, by decide, iwX0, (ms_at 178 (by decide +kernel) rfl), rfl, tyX0_ok, nmX0, rfl, rfl, fun h => by cases h⟩
theorem fp_X0_98 : ms_okP RX0 98 4 3 (tyX4 3) false := ⟨RX4, TX4, 11, tyX4, rfl, by decide, iwX4, (ms_at 140 (by decide +kernel) rfl), rfl, tyX4_ok, nmX4, rfl, rfl, fun h => by cases h⟩
theorem fp_X0_106 : ms_okP RX0 106 4 6 (tyX4 6) false := ⟨RX4, TX4, 11, tyX4, rfl, by decide, iwX4, (ms_at 146 (by decide +kernel) rfl), rfl, tyX4_ok, nmX4, rfl, rfl, fun h => by cases h⟩
theorem fp_X0_115 : ms_okP RX0 115 4 4 (tyX4 4) false := ⟨RX4, TX4, 11, tyX4, rfl, by decide, iwX4, (ms_at 142 (by decide +kernel) rfl), rfl, tyX4_ok, nmX4, rfl, rfl, fun h => by cases h⟩
theorem fp_X0_118 : ms_okP RX0 118 4 5 (tyX4 5) false := ⟨RX4, TX4, 11, tyX4, rfl, by decide, iwX4, (ms_at 144 (by decide +kernel) rfl), rfl, tyX4_ok, nmX4, rfl, rfl, fun h => by cases h⟩
theorem fp_X0_121 : ms_okP RX0 121 4 7 (tyX4 7) false := ⟨RX4, TX4, 11, tyX4, rfl, by decide, iwX4, (ms_at 148 (by decide +kernel) rfl), rfl, tyX4_ok, nmX4, rfl, rfl, fun h => by cases h⟩
theorem fp_X0_154 : ms_okP RX0 154 4 8 (tyX4 8) false := ⟨RX4, TX4, 11, tyX4, rfl, by decide, iwX4, (ms_at 149 (by decide +kernel) rfl), rfl, tyX4_ok, nmX4, rfl, rfl, fun h => by cases h⟩
theorem fp_X0_173 : ms_okP RX0 173 4 9 (tyX4 9) false := ⟨RX4, TX4, 11, tyX4, rfl, by decide, iwX4, (ms_at 150 (by decide +kernel) rfl), rfl, tyX4_ok, nmX4, rfl, rfl, fun h => by cases h⟩
theorem fp_X0_176 : ms_okP RX0 176 4 10 (tyX4 10) false := ⟨RX4, TX4, 11, tyX4, rfl, by decide, iwX4, (ms_at 151 (by decide +kernel) rfl), rfl, tyX4_ok, nmX4, rfl, rfl, fun h => by cases h⟩
theorem fp_X1_9 : ms_okP RX1 9 1 3 (tyX1 3) true := ⟨RX1, TX1, 4, tyX1, rfl, by decide, iwX1, (ms_at 83 (by decide +kernel) rfl), rfl, tyX1_ok, nmX1, rfl, rfl, fun _ => rfl⟩
theorem fp_X1_15 : ms_okP RX1 15 1 1 (tyX1 1) false := ⟨RX1, TX1, 4, tyX1, rfl, by decide, iwX1, (ms_at 81 (by decide +kernel) rfl), rfl, tyX1_ok, nmX1, rfl, rfl, fun h => by cases h⟩
theorem fp_X1_19 : ms_okP RX1 19 1 2 (tyX1 2) false := ⟨RX1, TX1, 4, tyX1, rfl, by decide, iwX1, (ms_at 82 (by decide +kernel) rfl), rfl, tyX1_ok, nmX1, rfl, rfl, fun h => by cases h⟩
theorem fp_X1_22 : ms_okP RX1 22 1 0 (tyX1 0) false := ⟨RX1, TX1, 4, tyX1, rfl, by decide, iwX1, (ms_at 77 (by decide +kernel) rfl), rfl, tyX1_ok, nmX1, rfl, rfl, fun h => by cases h⟩
theorem fp_X2_9 : ms_okP RX2 9 2 2 (tyX2 2) true := ⟨RX2, TX2, 5, tyX2, rfl, by decide, iwX2, (ms_at 222 (by decide +kernel) rfl), rfl, tyX2_ok, nmX2, rfl, rfl, fun _ => rfl⟩
theorem fp_X2_15 : ms_okP RX2 15 2 3 (tyX2 3) true := ⟨RX2, TX2, 5, tyX2, rfl, by decide, iwX2, (ms_at 223 (by decide +kernel) rfl), rfl, tyX2_ok, nmX2, rfl, rfl, fun _ => rfl⟩
theorem fp_X2_18 : ms_okP RX2 18 2 4 (tyX2 4) true := ⟨RX2, TX2, 5, tyX2, rfl, by decide, iwX2, (ms_at 224 (by decide +kernel) rfl), rfl, tyX2_ok, nmX2, rfl, rfl, fun _ => rfl⟩
theorem fp_X2_21 : ms_okP RX2 21 2 0 (tyX2 0) false := ⟨RX2, TX2, 5, tyX2, rfl, by decide, iwX2, (ms_at 218 (by decide +kernel) rfl), rfl, tyX2_ok, nmX2, rfl, rfl, fun h => by cases h⟩
theorem fp_X2_25 : ms_okP RX2 25 2 1 (tyX2 1) false := ⟨RX2, TX2, 5, tyX2, rfl, by decide, iwX2, (ms_at 220 (by decide +kernel) rfl), rfl, tyX2_ok, nmX2, rfl, rfl, fun h => by cases h⟩
theorem fp_X3_9 : ms_okP RX3 9 3 1 (tyX3 1) true := ⟨RX3, TX3, 5, tyX3, rfl, by decide, iwX3, (ms_at 101 (by decide +kernel) rfl), rfl, tyX3_ok, nmX3, rfl, rfl, fun _ => rfl⟩
theorem fp_X3_15 : ms_okP RX3 15 3 2 (tyX3 2) true := ⟨RX3, TX3, 5, tyX3, rfl, by decide, iwX3, (ms_at 102 (by decide +kernel) rfl), rfl, tyX3_ok, nmX3, rfl, rfl, fun _ => rfl⟩
theorem fp_X3_18 : ms_okP RX3 18 3 3 (tyX3 3) true := ⟨RX3, TX3, 5, tyX3, rfl, by decide, iwX3, (ms_at 103 (by decide +kernel) rfl), rfl, tyX3_ok, nmX3, rfl, rfl, fun _ => rfl⟩
theorem fp_X3_21 : ms_okP RX3 21 3 4 (tyX3 4) true := ⟨RX3, TX3, 5, tyX3, rfl, by decide, iwX3, (ms_at 104 (by decide +kernel) rfl), rfl, tyX3_ok, nmX3, rfl, rfl, fun _ => rfl⟩
theorem fp_X3_24 : ms_okP RX3 24 3 0 (tyX3 0) true := ⟨RX3, TX3, 5, tyX3, rfl, by decide, iwX3, (ms_at 100 (by decide +kernel) rfl), rfl, tyX3_ok, nmX3, rfl, rfl, fun _ => rfl⟩
theorem fp_X4_9 : ms_okP RX4 9 4 0 (tyX4 0) false := ⟨RX4, TX4, 11, tyX4, rfl, by decide, iwX4, (ms_at 129 (by decide +kernel) rfl), rfl, tyX4_ok, nmX4, rfl, rfl, fun h => by cases h⟩
theorem fp_X4_15 : ms_okP RX4 15 4 1 (tyX4 1) false := ⟨RX4, TX4, 11, tyX4, rfl, by decide, iwX4, (ms_at 132 (by decide +kernel) rfl), rfl, tyX4_ok, nmX4, rfl, rfl, fun h => by cases h⟩
theorem fp_X4_18 : ms_okP RX4 18 4 2 (tyX4 2) false := ⟨RX4, TX4, 11, tyX4, rfl, by decide, iwX4, (ms_at 134 (by decide +kernel) rfl), rfl, tyX4_ok, nmX4, rfl, rfl, fun h => by cases h⟩
theorem fp_X4_21 : ms_okP RX4 21 4 3 (tyX4 3) false := ⟨RX4, TX4, 11, tyX4, rfl, by decide, iwX4, (ms_at 137 (by decide +kernel) rfl), rfl, tyX4_ok, nmX4, rfl, rfl, fun h => by cases h⟩
theorem fp_X4_24 : ms_okP RX4 24 4 4 (tyX4 4) false := ⟨RX4, TX4, 11, tyX4, rfl, by decide, iwX4, (ms_at 141 (by decide +kernel) rfl), rfl, tyX4_ok, nmX4, rfl, rfl, fun h => by cases h⟩
theorem fp_X4_27 : ms_okP RX4 27 4 5 (tyX4 5) false := ⟨RX4, TX4, 11, tyX4, rfl, by decide, iwX4, (ms_at 143 (by decide +kernel) rfl), rfl, tyX4_ok, nmX4, rfl, rfl, fun h => by cases h⟩
theorem fp_X4_30 : ms_okP RX4 30 4 6 (tyX4 6) false := ⟨RX4, TX4, 11, tyX4, rfl, by decide, iwX4, (ms_at 145 (by decide +kernel) rfl), rfl, tyX4_ok, nmX4, rfl, rfl, fun h => by cases h⟩
theorem fp_X4_33 : ms_okP RX4 33 4 7 (tyX4 7) false := ⟨RX4, TX4, 11, tyX4, rfl, by decide, iwX4, (ms_at 147 (by decide +kernel) rfl), rfl, tyX4_ok, nmX4, rfl, rfl, fun h => by cases h⟩
theorem fp_X6_7 : ms_okP RX6 7 6 4 (tyX6 4) false := ⟨RX6, TX6, 11, tyX6, rfl, by decide, iwX6, (ms_at 867 (by decide +kernel) rfl), rfl, tyX6_ok, nmX6, rfl, rfl, fun h => by cases h⟩
theorem fp_X6_13 : ms_okP RX6 13 6 5 (tyX6 5) false := ⟨RX6, TX6, 11, tyX6, rfl, by decide, iwX6, (ms_at 868 (by decide +kernel) rfl), rfl, tyX6_ok, nmX6, rfl, rfl, fun h => by cases h⟩
theorem fp_X6_20 : ms_okP RX6 20 6 1 (tyX6 1) false := ⟨RX6, TX6, 11, tyX6, rfl, by decide, iwX6, (ms_at 864 (by decide +kernel) rfl), rfl, tyX6_ok, nmX6, rfl, rfl, fun h => by cases h⟩
theorem fp_X6_23 : ms_okP RX6 23 6 2 (tyX6 2) false := ⟨RX6, TX6, 11, tyX6, rfl, by decide, iwX6, (ms_at 865 (by decide +kernel) rfl), rfl, tyX6_ok, nmX6, rfl, rfl, fun h => by cases h⟩
theorem fp_X6_26 : ms_okP RX6 26 6 3 (tyX6 3) false := ⟨RX6, TX6, 11, tyX6, rfl, by decide, iwX6, (ms_at 866 (by decide +kernel) rfl), rfl, tyX6_ok, nmX6, rfl, rfl, fun h => by cases h⟩
theorem fp_X6_29 : ms_okP RX6 29 6 6 (tyX6 6) false := ⟨RX6, TX6, 11, tyX6, rfl, by decide, iwX6, (ms_at 869 (by decide +kernel) rfl), rfl, tyX6_ok, nmX6, rfl, rfl, fun h => by cases h⟩
theorem fp_X6_33 : ms_okP RX6 33 6 7 (tyX6 7) false := ⟨RX6, TX6, 11, tyX6, rfl, by decide, iwX6, (ms_at 870 (by decide +kernel) rfl), rfl, tyX6_ok, nmX6, rfl, rfl, fun h => by cases h⟩
theorem fp_X6_36 : ms_okP RX6 36 6 8 (tyX6 8) false := ⟨RX6, TX6, 11, tyX6, rfl, by decide, iwX6, (ms_at 871 (by decide +kernel) rfl), rfl, tyX6_ok, nmX6, rfl, rfl, fun h => by cases h⟩
theorem fp_X6_39 : ms_okP RX6 39 6 9 (tyX6 9) false := ⟨RX6, TX6, 11, tyX6, rfl, by decide, iwX6, (ms_at 872 (by decide +kernel) rfl), rfl, tyX6_ok, nmX6, rfl, rfl, fun h => by cases h⟩
theorem fp_X6_43 : ms_okP RX6 43 6 10 (tyX6 10) false := ⟨RX6, TX6, 11, tyX6, rfl, by decide, iwX6, (ms_at 873 (by decide +kernel) rfl), rfl, tyX6_ok, nmX6, rfl, rfl, fun h => by cases h⟩
theorem fp_X6_46 : ms_okP RX6 46 6 0 (tyX6 0) false := ⟨RX6, TX6, 11, tyX6, rfl, by decide, iwX6, (ms_at 863 (by decide +kernel) rfl), rfl, tyX6_ok, nmX6, rfl, rfl, fun h => by cases h⟩
theorem nw_X5_7 : ms_okN RX5 7 1 [.int 0, .int 0, .int 0, .null] := ⟨RX1, TX1, 4, tyX1, rfl, iwX1, tyX1_ok, (ms_at 71 (by decide +kernel) rfl), (ms_at 72 (by decide +kernel) rfl), (ms_at 49 (by decide +kernel) rfl), rfl⟩
theorem nw_X5_16 : ms_okN RX5 16 3 [.null, .null, .null, .null, .null] := ⟨RX3, TX3, 5, tyX3, rfl, iwX3, tyX3_ok, (ms_at 94 (by decide +kernel) rfl), (ms_at 95 (by decide +kernel) rfl), (ms_at 50 (by decide +kernel) rfl), rfl⟩
theorem nw_X5_25 : ms_okN RX5 25 0 [.int 0, .int 0, .int 0, .int 0, .null, .null, .null, .null, .null, .null] := ⟨RX0, TX0, 10, tyX0, rfl, iwX0, tyX0_ok, (ms_at 116 (by decide +kernel) rfl), (ms_at 117 (by decide +kernel) rfl), (ms_at 51 (by decide +kernel) rfl), rfl⟩
theorem nw_X5_34 : ms_okN RX5 34 2 [.int 0, .int 0, .null, .null, .null] := ⟨RX2, TX2, 5, tyX2, rfl, iwX2, tyX2_ok, (ms_at 212 (by decide +kernel) rfl), (ms_at 213 (by decide +kernel) rfl), (ms_at 53 (by decide +kernel) rfl), rfl⟩
theorem nw_X0_18 : ms_okN RX0 18 4 [.int 0, .int 0, .int 0, .int 0, .int 0, .int 0, .int 0, .int 0, .int 0, .int 0, .int 0] := ⟨RX4, TX4, 11, tyX4, rfl, iwX4, tyX4_ok, (ms_at 122 (by decide +kernel) rfl), (ms_at 124 (by decide +kernel) rfl), (ms_at 52 (by decide +kernel) rfl), rfl⟩
theorem nw_L_8 : ms_okN RL 8 5 [.null, .null, .null, .null, .null, .null] := ⟨RX5, TX5, 6, tyX5, rfl, iwX5, tyX5_ok, (ms_at 63 (by decide +kernel) rfl), (ms_at 64 (by decide +kernel) rfl), (ms_at 48 (by decide +kernel) rfl), rfl⟩
theorem nw_L_84 : ms_okN RL 84 6 [.int 0, .int 0, .int 0, .int 0, .int 0, .int 0, .null, .null, .int 0, .null, .null] := ⟨RX6, TX6, 11, tyX6, rfl, iwX6, tyX6_ok, (ms_at 853 (by decide +kernel) rfl), (ms_at 854 (by decide +kernel) rfl), (ms_at 54 (by decide +kernel) rfl), rfl⟩
abbrev m_X0_init : ms_D := (yX0_init, cX0_init, 4, none, 2, 40, [], none)
theorem mw_X0_init : ∀ w ∈ [Cond.instanceMethod yX0_init, Cond.initialized RX0, ms_cd m_X0_init], w ∈ ms_big := ms_sub _ [119, 51, 120] (by decide +kernel) (by decide +kernel)
theorem my_X0_init : ms_okY m_X0_init 2 := ⟨by decide, by decide, by decide +kernel⟩
abbrev m_X0_clear : ms_D := (yX0_clear, cX0_clear, 2, none, 0, 0, [], none)
theorem mw_X0_clear : ∀ w ∈ [Cond.instanceMethod yX0_clear, Cond.selects RX0 yX0_clear yX0_clear, Cond.initialized RX0, ms_cd m_X0_clear], w ∈ ms_big := ms_sub _ [265, 266, 51, 267] (by decide +kernel) (by decide +kernel)
theorem my_X0_clear : ms_okY m_X0_clear 0 := ⟨by decide, by decide, by decide +kernel⟩
abbrev m_X0_copyFrom : ms_D := (yX0_copyFrom, cX0_copyFrom, 3, none, 2, 48, [], none)
theorem mw_X0_copyFrom : ∀ w ∈ [Cond.instanceMethod yX0_copyFrom, Cond.selects RX0 yX0_copyFrom yX0_copyFrom, Cond.initialized RX0, ms_cd m_X0_copyFrom], w ∈ ms_big := ms_sub _ [796, 797, 51, 798] (by decide +kernel) (by decide +kernel)
theorem my_X0_copyFrom : ms_okY m_X0_copyFrom 1 := ⟨by decide, by decide, by decide +kernel⟩
abbrev m_X0_copyWalker : ms_D := (yX0_copyWalker, cX0_copyWalker, 2, none, 1, 21, [], none)
theorem mw_X0_copyWalker : ∀ w ∈ [Cond.static yX0_copyWalker, Cond.initialized RX0, ms_cd m_X0_copyWalker], w ∈ ms_big := ms_sub _ [801, 51, 802] (by decide +kernel) (by decide +kernel)
theorem my_X0_copyWalker : ms_okY m_X0_copyWalker 2 := ⟨by decide, by decide, by decide +kernel⟩
abbrev m_X0_get : ms_D := (yX0_get, cX0_get, 3, (some (.object "StarlingSquare$Walker")), 0, 0, [], none)
theorem mw_X0_get : ∀ w ∈ [Cond.instanceMethod yX0_get, Cond.selects RX0 yX0_get yX0_get, Cond.initialized RX0, ms_cd m_X0_get], w ∈ ms_big := ms_sub _ [300, 301, 51, 302] (by decide +kernel) (by decide +kernel)
theorem my_X0_get : ms_okY m_X0_get 1 := ⟨by decide, by decide, by decide +kernel⟩
abbrev m_X0_numberOn : ms_D := (yX0_numberOn, cX0_numberOn, 2, (some .int), 0, 0, [], none)
theorem mw_X0_numberOn : ∀ w ∈ [Cond.instanceMethod yX0_numberOn, Cond.selects RX0 yX0_numberOn yX0_numberOn, Cond.initialized RX0, ms_cd m_X0_numberOn], w ∈ ms_big := ms_sub _ [341, 342, 51, 343] (by decide +kernel) (by decide +kernel)
theorem my_X0_numberOn : ms_okY m_X0_numberOn 1 := ⟨by decide, by decide, by decide +kernel⟩
abbrev m_X0_isAnyoneIn : ms_D := (yX0_isAnyoneIn, cX0_isAnyoneIn, 7, (some .boolean), 1, 23, [], none)
theorem mw_X0_isAnyoneIn : ∀ w ∈ [Cond.instanceMethod yX0_isAnyoneIn, Cond.selects RX0 yX0_isAnyoneIn yX0_isAnyoneIn, Cond.initialized RX0, ms_cd m_X0_isAnyoneIn], w ∈ ms_big := ms_sub _ [537, 538, 51, 539] (by decide +kernel) (by decide +kernel)
theorem my_X0_isAnyoneIn : ms_okY m_X0_isAnyoneIn 4 := ⟨by decide, by decide, by decide +kernel⟩
abbrev m_X0_add : ms_D := (yX0_add, cX0_add, 7, (some .int), 1, 24, [], none)
theorem mw_X0_add : ∀ w ∈ [Cond.instanceMethod yX0_add, Cond.selects RX0 yX0_add yX0_add, Cond.initialized RX0, ms_cd m_X0_add], w ∈ ms_big := ms_sub _ [655, 656, 51, 657] (by decide +kernel) (by decide +kernel)
theorem my_X0_add : ms_okY m_X0_add 4 := ⟨by decide, by decide, by decide +kernel⟩
abbrev m_X0_heatOf : ms_D := (yX0_heatOf, cX0_heatOf, 2, (some .int), 0, 0, [], none)
theorem mw_X0_heatOf : ∀ w ∈ [Cond.instanceMethod yX0_heatOf, Cond.selects RX0 yX0_heatOf yX0_heatOf, Cond.initialized RX0, ms_cd m_X0_heatOf], w ∈ ms_big := ms_sub _ [377, 378, 51, 379] (by decide +kernel) (by decide +kernel)
theorem my_X0_heatOf : ms_okY m_X0_heatOf 1 := ⟨by decide, by decide, by decide +kernel⟩
abbrev m_X0_hottest : ms_D := (yX0_hottest, cX0_hottest, 3, (some .int), 1, 21, [], none)
theorem mw_X0_hottest : ∀ w ∈ [Cond.instanceMethod yX0_hottest, Cond.selects RX0 yX0_hottest yX0_hottest, Cond.initialized RX0, ms_cd m_X0_hottest], w ∈ ms_big := ms_sub _ [373, 374, 51, 375] (by decide +kernel) (by decide +kernel)
theorem my_X0_hottest : ms_okY m_X0_hottest 0 := ⟨by decide, by decide, by decide +kernel⟩
abbrev m_X0_countOut : ms_D := (yX0_countOut, cX0_countOut, 4, (some .int), 1, 22, [], none)
theorem mw_X0_countOut : ∀ w ∈ [Cond.instanceMethod yX0_countOut, Cond.selects RX0 yX0_countOut yX0_countOut, Cond.initialized RX0, ms_cd m_X0_countOut], w ∈ ms_big := ms_sub _ [296, 297, 51, 298] (by decide +kernel) (by decide +kernel)
theorem my_X0_countOut : ms_okY m_X0_countOut 0 := ⟨by decide, by decide, by decide +kernel⟩
abbrev m_X0_countLost : ms_D := (yX0_countLost, cX0_countLost, 4, (some .int), 2, 43, [], none)
theorem mw_X0_countLost : ∀ w ∈ [Cond.instanceMethod yX0_countLost, Cond.selects RX0 yX0_countLost yX0_countLost, Cond.initialized RX0, ms_cd m_X0_countLost], w ∈ ms_big := ms_sub _ [354, 355, 51, 356] (by decide +kernel) (by decide +kernel)
theorem my_X0_countLost : ms_okY m_X0_countLost 0 := ⟨by decide, by decide, by decide +kernel⟩
abbrev m_X0_countSteps : ms_D := (yX0_countSteps, cX0_countSteps, 5, (some .int), 1, 22, [], none)
theorem mw_X0_countSteps : ∀ w ∈ [Cond.instanceMethod yX0_countSteps, Cond.selects RX0 yX0_countSteps yX0_countSteps, Cond.initialized RX0, ms_cd m_X0_countSteps], w ∈ ms_big := ms_sub _ [308, 309, 51, 310] (by decide +kernel) (by decide +kernel)
theorem my_X0_countSteps : ms_okY m_X0_countSteps 1 := ⟨by decide, by decide, by decide +kernel⟩
abbrev m_X0_walkerFigure : ms_D := (yX0_walkerFigure, cX0_walkerFigure, 3, (some .int), 2, 43, [], none)
theorem mw_X0_walkerFigure : ∀ w ∈ [Cond.instanceMethod yX0_walkerFigure, Cond.selects RX0 yX0_walkerFigure yX0_walkerFigure, Cond.initialized RX0, ms_cd m_X0_walkerFigure], w ∈ ms_big := ms_sub _ [393, 394, 51, 395] (by decide +kernel) (by decide +kernel)
theorem my_X0_walkerFigure : ms_okY m_X0_walkerFigure 2 := ⟨by decide, by decide, by decide +kernel⟩
abbrev m_X0_countRound : ms_D := (yX0_countRound, cX0_countRound, 4, (some .int), 1, 23, [], none)
theorem mw_X0_countRound : ∀ w ∈ [Cond.instanceMethod yX0_countRound, Cond.selects RX0 yX0_countRound yX0_countRound, Cond.initialized RX0, ms_cd m_X0_countRound], w ∈ ms_big := ms_sub _ [406, 407, 51, 408] (by decide +kernel) (by decide +kernel)
theorem my_X0_countRound : ms_okY m_X0_countRound 1 := ⟨by decide, by decide, by decide +kernel⟩
abbrev m_X0_countFacing : ms_D := (yX0_countFacing, cX0_countFacing, 6, (some .int), 1, 23, [], none)
theorem mw_X0_countFacing : ∀ w ∈ [Cond.instanceMethod yX0_countFacing, Cond.selects RX0 yX0_countFacing yX0_countFacing, Cond.initialized RX0, ms_cd m_X0_countFacing], w ∈ ms_big := ms_sub _ [413, 7, 51, 414] (by decide +kernel) (by decide +kernel)
theorem my_X0_countFacing : ms_okY m_X0_countFacing 2 := ⟨by decide, by decide, by decide +kernel⟩
abbrev m_X0_costOf : ms_D := (yX0_costOf, cX0_costOf, 6, (some .int), 2, 48, [], none)
theorem mw_X0_costOf : ∀ w ∈ [Cond.instanceMethod yX0_costOf, Cond.selects RX0 yX0_costOf yX0_costOf, Cond.initialized RX0, ms_cd m_X0_costOf], w ∈ ms_big := ms_sub _ [402, 403, 51, 404] (by decide +kernel) (by decide +kernel)
theorem my_X0_costOf : ms_okY m_X0_costOf 2 := ⟨by decide, by decide, by decide +kernel⟩
abbrev m_X0_bestSide : ms_D := (yX0_bestSide, cX0_bestSide, 6, (some .int), 3, 73, [], none)
theorem mw_X0_bestSide : ∀ w ∈ [Cond.instanceMethod yX0_bestSide, Cond.selects RX0 yX0_bestSide yX0_bestSide, Cond.initialized RX0, ms_cd m_X0_bestSide], w ∈ ms_big := ms_sub _ [695, 696, 51, 697] (by decide +kernel) (by decide +kernel)
theorem my_X0_bestSide : ms_okY m_X0_bestSide 1 := ⟨by decide, by decide, by decide +kernel⟩
abbrev m_X0_outAfter : ms_D := (yX0_outAfter, cX0_outAfter, 3, (some .int), 5, 120, [], none)
theorem mw_X0_outAfter : ∀ w ∈ [Cond.instanceMethod yX0_outAfter, Cond.selects RX0 yX0_outAfter yX0_outAfter, Cond.initialized RX0, ms_cd m_X0_outAfter], w ∈ ms_big := ms_sub _ [682, 683, 51, 684] (by decide +kernel) (by decide +kernel)
theorem my_X0_outAfter : ms_okY m_X0_outAfter 1 := ⟨by decide, by decide, by decide +kernel⟩
abbrev m_X0_ticksTillOut : ms_D := (yX0_ticksTillOut, cX0_ticksTillOut, 5, (some .int), 5, 120, [], none)
theorem mw_X0_ticksTillOut : ∀ w ∈ [Cond.instanceMethod yX0_ticksTillOut, Cond.selects RX0 yX0_ticksTillOut yX0_ticksTillOut, Cond.initialized RX0, ms_cd m_X0_ticksTillOut], w ∈ ms_big := ms_sub _ [808, 809, 51, 810] (by decide +kernel) (by decide +kernel)
theorem my_X0_ticksTillOut : ms_okY m_X0_ticksTillOut 2 := ⟨by decide, by decide, by decide +kernel⟩
abbrev m_X0_ticksTillJam : ms_D := (yX0_ticksTillJam, cX0_ticksTillJam, 3, (some .int), 5, 120, [], none)
theorem mw_X0_ticksTillJam : ∀ w ∈ [Cond.instanceMethod yX0_ticksTillJam, Cond.selects RX0 yX0_ticksTillJam yX0_ticksTillJam, Cond.initialized RX0, ms_cd m_X0_ticksTillJam], w ∈ ms_big := ms_sub _ [834, 835, 51, 836] (by decide +kernel) (by decide +kernel)
theorem my_X0_ticksTillJam : ms_okY m_X0_ticksTillJam 1 := ⟨by decide, by decide, by decide +kernel⟩
abbrev m_X0_isJammed : ms_D := (yX0_isJammed, cX0_isJammed, 2, (some .boolean), 1, 20, [], none)
theorem mw_X0_isJammed : ∀ w ∈ [Cond.instanceMethod yX0_isJammed, Cond.selects RX0 yX0_isJammed yX0_isJammed, Cond.initialized RX0, ms_cd m_X0_isJammed], w ∈ ms_big := ms_sub _ [325, 326, 51, 327] (by decide +kernel) (by decide +kernel)
theorem my_X0_isJammed : ms_okY m_X0_isJammed 1 := ⟨by decide, by decide, by decide +kernel⟩
abbrev m_X0_hasJam : ms_D := (yX0_hasJam, cX0_hasJam, 2, (some .boolean), 2, 41, [], none)
theorem mw_X0_hasJam : ∀ w ∈ [Cond.instanceMethod yX0_hasJam, Cond.selects RX0 yX0_hasJam yX0_hasJam, Cond.initialized RX0, ms_cd m_X0_hasJam], w ∈ ms_big := ms_sub _ [839, 21, 51, 840] (by decide +kernel) (by decide +kernel)
theorem my_X0_hasJam : ms_okY m_X0_hasJam 0 := ⟨by decide, by decide, by decide +kernel⟩
abbrev m_X0_step : ms_D := (yX0_step, cX0_step, 3, none, 4, 98, [], none)
theorem mw_X0_step : ∀ w ∈ [Cond.instanceMethod yX0_step, Cond.selects RX0 yX0_step yX0_step, Cond.initialized RX0, ms_cd m_X0_step], w ∈ ms_big := ms_sub _ [687, 14, 51, 688] (by decide +kernel) (by decide +kernel)
theorem my_X0_step : ms_okY m_X0_step 0 := ⟨by decide, by decide, by decide +kernel⟩
abbrev m_X0_aim : ms_D := (yX0_aim, cX0_aim, 3, none, 1, 23, [], none)
theorem mw_X0_aim : ∀ w ∈ [Cond.instanceMethod yX0_aim, Cond.selects RX0 yX0_aim yX0_aim, Cond.initialized RX0, ms_cd m_X0_aim], w ∈ ms_big := ms_sub _ [701, 15, 51, 702] (by decide +kernel) (by decide +kernel)
theorem my_X0_aim : ms_okY m_X0_aim 2 := ⟨by decide, by decide, by decide +kernel⟩
abbrev m_X0_claim : ms_D := (yX0_claim, cX0_claim, 4, none, 1, 22, [], none)
theorem mw_X0_claim : ∀ w ∈ [Cond.instanceMethod yX0_claim, Cond.selects RX0 yX0_claim yX0_claim, Cond.initialized RX0, ms_cd m_X0_claim], w ∈ ms_big := ms_sub _ [705, 16, 51, 706] (by decide +kernel) (by decide +kernel)
theorem my_X0_claim : ms_okY m_X0_claim 1 := ⟨by decide, by decide, by decide +kernel⟩
abbrev m_X0_goOrWait : ms_D := (yX0_goOrWait, cX0_goOrWait, 3, none, 3, 65, [], none)
theorem mw_X0_goOrWait : ∀ w ∈ [Cond.instanceMethod yX0_goOrWait, Cond.selects RX0 yX0_goOrWait yX0_goOrWait, Cond.initialized RX0, ms_cd m_X0_goOrWait], w ∈ ms_big := ms_sub _ [709, 17, 51, 710] (by decide +kernel) (by decide +kernel)
theorem my_X0_goOrWait : ms_okY m_X0_goOrWait 1 := ⟨by decide, by decide, by decide +kernel⟩
abbrev m_X0_go : ms_D := (yX0_go, cX0_go, 3, none, 2, 43, [], none)
theorem mw_X0_go : ∀ w ∈ [Cond.instanceMethod yX0_go, Cond.selects RX0 yX0_go yX0_go, Cond.initialized RX0, ms_cd m_X0_go], w ∈ ms_big := ms_sub _ [713, 18, 51, 714] (by decide +kernel) (by decide +kernel)
theorem my_X0_go : ms_okY m_X0_go 2 := ⟨by decide, by decide, by decide +kernel⟩
abbrev m_X1_init : ms_D := (yX1_init, cX1_init, 1, none, 1, 20, [], none)
theorem mw_X1_init : ∀ w ∈ [Cond.instanceMethod yX1_init, Cond.initialized RX1, ms_cd m_X1_init], w ∈ ms_big := ms_sub _ [74, 49, 75] (by decide +kernel) (by decide +kernel)
theorem my_X1_init : ms_okY m_X1_init 0 := ⟨by decide, by decide, by decide +kernel⟩
abbrev m_X1_shape : ms_D := (yX1_shape, cX1_shape, 5, none, 2, 47, [], none)
theorem mw_X1_shape : ∀ w ∈ [Cond.instanceMethod yX1_shape, Cond.selects RX1 yX1_shape yX1_shape, Cond.initialized RX1, ms_cd m_X1_shape], w ∈ ms_big := ms_sub _ [241, 242, 49, 243] (by decide +kernel) (by decide +kernel)
theorem my_X1_shape : ms_okY m_X1_shape 2 := ⟨by decide, by decide, by decide +kernel⟩
abbrev m_X1_link : ms_D := (yX1_link, cX1_link, 5, none, 1, 23, [], none)
theorem mw_X1_link : ∀ w ∈ [Cond.instanceMethod yX1_link, Cond.selects RX1 yX1_link yX1_link, Cond.initialized RX1, ms_cd m_X1_link], w ∈ ms_big := ms_sub _ [246, 1, 49, 247] (by decide +kernel) (by decide +kernel)
theorem my_X1_link : ms_okY m_X1_link 2 := ⟨by decide, by decide, by decide +kernel⟩
abbrev m_X1_has : ms_D := (yX1_has, cX1_has, 2, (some .boolean), 0, 0, [], none)
theorem mw_X1_has : ∀ w ∈ [Cond.instanceMethod yX1_has, Cond.selects RX1 yX1_has yX1_has, Cond.initialized RX1, ms_cd m_X1_has], w ∈ ms_big := ms_sub _ [253, 254, 49, 255] (by decide +kernel) (by decide +kernel)
theorem my_X1_has : ms_okY m_X1_has 1 := ⟨by decide, by decide, by decide +kernel⟩
abbrev m_X1_number : ms_D := (yX1_number, cX1_number, 4, (some .int), 0, 0, [], none)
theorem mw_X1_number : ∀ w ∈ [Cond.instanceMethod yX1_number, Cond.selects RX1 yX1_number yX1_number, Cond.initialized RX1, ms_cd m_X1_number], w ∈ ms_big := ms_sub _ [249, 250, 49, 251] (by decide +kernel) (by decide +kernel)
theorem my_X1_number : ms_okY m_X1_number 2 := ⟨by decide, by decide, by decide +kernel⟩
abbrev m_X1_next : ms_D := (yX1_next, cX1_next, 4, (some .int), 0, 0, [], none)
theorem mw_X1_next : ∀ w ∈ [Cond.instanceMethod yX1_next, Cond.selects RX1 yX1_next yX1_next, Cond.initialized RX1, ms_cd m_X1_next], w ∈ ms_big := ms_sub _ [337, 338, 49, 339] (by decide +kernel) (by decide +kernel)
theorem my_X1_next : ms_okY m_X1_next 2 := ⟨by decide, by decide, by decide +kernel⟩
abbrev m_X2_init : ms_D := (yX2_init, cX2_init, 1, none, 1, 20, [], none)
theorem mw_X2_init : ∀ w ∈ [Cond.instanceMethod yX2_init, Cond.initialized RX2, ms_cd m_X2_init], w ∈ ms_big := ms_sub _ [215, 53, 216] (by decide +kernel) (by decide +kernel)
theorem my_X2_init : ms_okY m_X2_init 0 := ⟨by decide, by decide, by decide +kernel⟩
abbrev m_X2_find : ms_D := (yX2_find, cX2_find, 3, none, 5, 114, [], none)
theorem mw_X2_find : ∀ w ∈ [Cond.instanceMethod yX2_find, Cond.selects RX2 yX2_find yX2_find, Cond.initialized RX2, ms_cd m_X2_find], w ∈ ms_big := ms_sub _ [316, 317, 53, 318] (by decide +kernel) (by decide +kernel)
theorem my_X2_find : ms_okY m_X2_find 1 := ⟨by decide, by decide, by decide +kernel⟩
abbrev m_X2_isNewOne : ms_D := (yX2_isNewOne, cX2_isNewOne, 3, (some .boolean), 2, 41, [], none)
theorem mw_X2_isNewOne : ∀ w ∈ [Cond.instanceMethod yX2_isNewOne, Cond.selects RX2 yX2_isNewOne yX2_isNewOne, Cond.initialized RX2, ms_cd m_X2_isNewOne], w ∈ ms_big := ms_sub _ [321, 2, 53, 322] (by decide +kernel) (by decide +kernel)
theorem my_X2_isNewOne : ms_okY m_X2_isNewOne 2 := ⟨by decide, by decide, by decide +kernel⟩
abbrev m_X2_gather : ms_D := (yX2_gather, cX2_gather, 5, (some .int), 4, 90, [], none)
theorem mw_X2_gather : ∀ w ∈ [Cond.instanceMethod yX2_gather, Cond.selects RX2 yX2_gather yX2_gather, Cond.initialized RX2, ms_cd m_X2_gather], w ∈ ms_big := ms_sub _ [330, 3, 53, 331] (by decide +kernel) (by decide +kernel)
theorem my_X2_gather : ms_okY m_X2_gather 2 := ⟨by decide, by decide, by decide +kernel⟩
abbrev m_X2_gatherBeside : ms_D := (yX2_gatherBeside, cX2_gatherBeside, 8, (some .int), 3, 63, [], none)
theorem mw_X2_gatherBeside : ∀ w ∈ [Cond.instanceMethod yX2_gatherBeside, Cond.selects RX2 yX2_gatherBeside yX2_gatherBeside, Cond.initialized RX2, ms_cd m_X2_gatherBeside], w ∈ ms_big := ms_sub _ [334, 4, 53, 335] (by decide +kernel) (by decide +kernel)
theorem my_X2_gatherBeside : ms_okY m_X2_gatherBeside 3 := ⟨by decide, by decide, by decide +kernel⟩
abbrev m_X2_greatest : ms_D := (yX2_greatest, cX2_greatest, 3, (some .int), 1, 21, [], none)
theorem mw_X2_greatest : ∀ w ∈ [Cond.instanceMethod yX2_greatest, Cond.selects RX2 yX2_greatest yX2_greatest, Cond.initialized RX2, ms_cd m_X2_greatest], w ∈ ms_big := ms_sub _ [366, 367, 53, 368] (by decide +kernel) (by decide +kernel)
theorem my_X2_greatest : ms_okY m_X2_greatest 0 := ⟨by decide, by decide, by decide +kernel⟩
abbrev m_X2_sizeAround : ms_D := (yX2_sizeAround, cX2_sizeAround, 3, (some .int), 0, 0, [], none)
theorem mw_X2_sizeAround : ∀ w ∈ [Cond.instanceMethod yX2_sizeAround, Cond.selects RX2 yX2_sizeAround yX2_sizeAround, Cond.initialized RX2, ms_cd m_X2_sizeAround], w ∈ ms_big := ms_sub _ [397, 398, 53, 399] (by decide +kernel) (by decide +kernel)
theorem my_X2_sizeAround : ms_okY m_X2_sizeAround 1 := ⟨by decide, by decide, by decide +kernel⟩
abbrev m_X3_init : ms_D := (yX3_init, cX3_init, 2, none, 1, 20, [], none)
theorem mw_X3_init : ∀ w ∈ [Cond.instanceMethod yX3_init, Cond.initialized RX3, ms_cd m_X3_init], w ∈ ms_big := ms_sub _ [97, 50, 98] (by decide +kernel) (by decide +kernel)
theorem my_X3_init : ms_okY m_X3_init 1 := ⟨by decide, by decide, by decide +kernel⟩
abbrev m_X3_clear : ms_D := (yX3_clear, cX3_clear, 2, none, 0, 0, [], none)
theorem mw_X3_clear : ∀ w ∈ [Cond.instanceMethod yX3_clear, Cond.selects RX3 yX3_clear yX3_clear, Cond.initialized RX3, ms_cd m_X3_clear], w ∈ ms_big := ms_sub _ [261, 262, 50, 263] (by decide +kernel) (by decide +kernel)
theorem my_X3_clear : ms_okY m_X3_clear 0 := ⟨by decide, by decide, by decide +kernel⟩
abbrev m_X3_copyFrom : ms_D := (yX3_copyFrom, cX3_copyFrom, 2, none, 1, 48, [], none)
theorem mw_X3_copyFrom : ∀ w ∈ [Cond.instanceMethod yX3_copyFrom, Cond.selects RX3 yX3_copyFrom yX3_copyFrom, Cond.initialized RX3, ms_cd m_X3_copyFrom], w ∈ ms_big := ms_sub _ [789, 790, 50, 791] (by decide +kernel) (by decide +kernel)
theorem my_X3_copyFrom : ms_okY m_X3_copyFrom 1 := ⟨by decide, by decide, by decide +kernel⟩
abbrev m_X3_isFree : ms_D := (yX3_isFree, cX3_isFree, 2, (some .boolean), 1, 21, [], none)
theorem mw_X3_isFree : ∀ w ∈ [Cond.instanceMethod yX3_isFree, Cond.selects RX3 yX3_isFree yX3_isFree, Cond.initialized RX3, ms_cd m_X3_isFree], w ∈ ms_big := ms_sub _ [424, 425, 50, 426] (by decide +kernel) (by decide +kernel)
theorem my_X3_isFree : ms_okY m_X3_isFree 1 := ⟨by decide, by decide, by decide +kernel⟩
abbrev m_X3_isMarked : ms_D := (yX3_isMarked, cX3_isMarked, 3, (some .boolean), 1, 21, [], none)
theorem mw_X3_isMarked : ∀ w ∈ [Cond.instanceMethod yX3_isMarked, Cond.selects RX3 yX3_isMarked yX3_isMarked, Cond.initialized RX3, ms_cd m_X3_isMarked], w ∈ ms_big := ms_sub _ [571, 572, 50, 573] (by decide +kernel) (by decide +kernel)
theorem my_X3_isMarked : ms_okY m_X3_isMarked 2 := ⟨by decide, by decide, by decide +kernel⟩
abbrev m_X3_distance : ms_D := (yX3_distance, cX3_distance, 3, (some .int), 1, 21, [], none)
theorem mw_X3_distance : ∀ w ∈ [Cond.instanceMethod yX3_distance, Cond.selects RX3 yX3_distance yX3_distance, Cond.initialized RX3, ms_cd m_X3_distance], w ∈ ms_big := ms_sub _ [358, 359, 50, 360] (by decide +kernel) (by decide +kernel)
theorem my_X3_distance : ms_okY m_X3_distance 2 := ⟨by decide, by decide, by decide +kernel⟩
abbrev m_X3_build : ms_D := (yX3_build, cX3_build, 3, none, 1, 21, [], none)
theorem mw_X3_build : ∀ w ∈ [Cond.instanceMethod yX3_build, Cond.selects RX3 yX3_build yX3_build, Cond.initialized RX3, ms_cd m_X3_build], w ∈ ms_big := ms_sub _ [558, 559, 50, 560] (by decide +kernel) (by decide +kernel)
theorem my_X3_build : ms_okY m_X3_build 2 := ⟨by decide, by decide, by decide +kernel⟩
abbrev m_X3_turnMark : ms_D := (yX3_turnMark, cX3_turnMark, 3, none, 1, 21, [], none)
theorem mw_X3_turnMark : ∀ w ∈ [Cond.instanceMethod yX3_turnMark, Cond.selects RX3 yX3_turnMark yX3_turnMark, Cond.initialized RX3, ms_cd m_X3_turnMark], w ∈ ms_big := ms_sub _ [602, 603, 50, 604] (by decide +kernel) (by decide +kernel)
theorem my_X3_turnMark : ms_okY m_X3_turnMark 2 := ⟨by decide, by decide, by decide +kernel⟩
abbrev m_X3_countWalls : ms_D := (yX3_countWalls, cX3_countWalls, 3, (some .int), 2, 42, [], none)
theorem mw_X3_countWalls : ∀ w ∈ [Cond.instanceMethod yX3_countWalls, Cond.selects RX3 yX3_countWalls yX3_countWalls, Cond.initialized RX3, ms_cd m_X3_countWalls], w ∈ ms_big := ms_sub _ [588, 589, 50, 590] (by decide +kernel) (by decide +kernel)
theorem my_X3_countWalls : ms_okY m_X3_countWalls 0 := ⟨by decide, by decide, by decide +kernel⟩
abbrev m_X3_countMarks : ms_D := (yX3_countMarks, cX3_countMarks, 4, (some .int), 2, 43, [], none)
theorem mw_X3_countMarks : ∀ w ∈ [Cond.instanceMethod yX3_countMarks, Cond.selects RX3 yX3_countMarks yX3_countMarks, Cond.initialized RX3, ms_cd m_X3_countMarks], w ∈ ms_big := ms_sub _ [607, 608, 50, 609] (by decide +kernel) (by decide +kernel)
theorem my_X3_countMarks : ms_okY m_X3_countMarks 1 := ⟨by decide, by decide, by decide +kernel⟩
abbrev m_X3_greatestDistance : ms_D := (yX3_greatestDistance, cX3_greatestDistance, 4, (some .int), 2, 43, [], none)
theorem mw_X3_greatestDistance : ∀ w ∈ [Cond.instanceMethod yX3_greatestDistance, Cond.selects RX3 yX3_greatestDistance yX3_greatestDistance, Cond.initialized RX3, ms_cd m_X3_greatestDistance], w ∈ ms_big := ms_sub _ [382, 383, 50, 384] (by decide +kernel) (by decide +kernel)
theorem my_X3_greatestDistance : ms_okY m_X3_greatestDistance 1 := ⟨by decide, by decide, by decide +kernel⟩
abbrev m_X3_measureAll : ms_D := (yX3_measureAll, cX3_measureAll, 2, none, 4, 94, [], none)
theorem mw_X3_measureAll : ∀ w ∈ [Cond.instanceMethod yX3_measureAll, Cond.selects RX3 yX3_measureAll yX3_measureAll, Cond.initialized RX3, ms_cd m_X3_measureAll], w ∈ ms_big := ms_sub _ [562, 563, 50, 564] (by decide +kernel) (by decide +kernel)
theorem my_X3_measureAll : ms_okY m_X3_measureAll 0 := ⟨by decide, by decide, by decide +kernel⟩
abbrev m_X3_measure : ms_D := (yX3_measure, cX3_measure, 5, none, 3, 70, [], none)
theorem mw_X3_measure : ∀ w ∈ [Cond.instanceMethod yX3_measure, Cond.selects RX3 yX3_measure yX3_measure, Cond.initialized RX3, ms_cd m_X3_measure], w ∈ ms_big := ms_sub _ [566, 567, 50, 568] (by decide +kernel) (by decide +kernel)
theorem my_X3_measure : ms_okY m_X3_measure 1 := ⟨by decide, by decide, by decide +kernel⟩
abbrev m_X3_spread : ms_D := (yX3_spread, cX3_spread, 7, (some .int), 2, 44, [], none)
theorem mw_X3_spread : ∀ w ∈ [Cond.instanceMethod yX3_spread, Cond.selects RX3 yX3_spread yX3_spread, Cond.initialized RX3, ms_cd m_X3_spread], w ∈ ms_big := ms_sub _ [584, 13, 50, 585] (by decide +kernel) (by decide +kernel)
theorem my_X3_spread : ms_okY m_X3_spread 3 := ⟨by decide, by decide, by decide +kernel⟩
abbrev m_X3_keepDistance : ms_D := (yX3_keepDistance, cX3_keepDistance, 4, none, 1, 21, [], none)
theorem mw_X3_keepDistance : ∀ w ∈ [Cond.instanceMethod yX3_keepDistance, Cond.selects RX3 yX3_keepDistance yX3_keepDistance, Cond.initialized RX3, ms_cd m_X3_keepDistance], w ∈ ms_big := ms_sub _ [576, 11, 50, 577] (by decide +kernel) (by decide +kernel)
theorem my_X3_keepDistance : ms_okY m_X3_keepDistance 3 := ⟨by decide, by decide, by decide +kernel⟩
abbrev m_X3_enqueue : ms_D := (yX3_enqueue, cX3_enqueue, 3, (some .int), 0, 0, [], none)
theorem mw_X3_enqueue : ∀ w ∈ [Cond.instanceMethod yX3_enqueue, Cond.selects RX3 yX3_enqueue yX3_enqueue, Cond.initialized RX3, ms_cd m_X3_enqueue], w ∈ ms_big := ms_sub _ [580, 12, 50, 581] (by decide +kernel) (by decide +kernel)
theorem my_X3_enqueue : ms_okY m_X3_enqueue 2 := ⟨by decide, by decide, by decide +kernel⟩
abbrev m_X3_fieldOnWay : ms_D := (yX3_fieldOnWay, cX3_fieldOnWay, 7, (some .int), 3, 68, [], none)
theorem mw_X3_fieldOnWay : ∀ w ∈ [Cond.instanceMethod yX3_fieldOnWay, Cond.selects RX3 yX3_fieldOnWay yX3_fieldOnWay, Cond.initialized RX3, ms_cd m_X3_fieldOnWay], w ∈ ms_big := ms_sub _ [759, 760, 50, 761] (by decide +kernel) (by decide +kernel)
theorem my_X3_fieldOnWay : ms_okY m_X3_fieldOnWay 3 := ⟨by decide, by decide, by decide +kernel⟩
abbrev m_X3_nearer : ms_D := (yX3_nearer, cX3_nearer, 6, (some .int), 2, 43, [], none)
theorem mw_X3_nearer : ∀ w ∈ [Cond.instanceMethod yX3_nearer, Cond.selects RX3 yX3_nearer yX3_nearer, Cond.initialized RX3, ms_cd m_X3_nearer], w ∈ ms_big := ms_sub _ [764, 19, 50, 765] (by decide +kernel) (by decide +kernel)
theorem my_X3_nearer : ms_okY m_X3_nearer 2 := ⟨by decide, by decide, by decide +kernel⟩
abbrev m_X4_init : ms_D := (yX4_init, cX4_init, 1, none, 1, 20, [], none)
theorem mw_X4_init : ∀ w ∈ [Cond.instanceMethod yX4_init, Cond.initialized RX4, ms_cd m_X4_init], w ∈ ms_big := ms_sub _ [126, 52, 127] (by decide +kernel) (by decide +kernel)
theorem my_X4_init : ms_okY m_X4_init 0 := ⟨by decide, by decide, by decide +kernel⟩
abbrev m_X4_come : ms_D := (yX4_come, cX4_come, 5, none, 0, 0, [], none)
theorem mw_X4_come : ∀ w ∈ [Cond.instanceMethod yX4_come, Cond.selects RX4 yX4_come yX4_come, Cond.initialized RX4, ms_cd m_X4_come], w ∈ ms_big := ms_sub _ [660, 661, 52, 662] (by decide +kernel) (by decide +kernel)
theorem my_X4_come : ms_okY m_X4_come 4 := ⟨by decide, by decide, by decide +kernel⟩
abbrev m_X4_copyFrom : ms_D := (yX4_copyFrom, cX4_copyFrom, 2, none, 0, 0, [], none)
theorem mw_X4_copyFrom : ∀ w ∈ [Cond.instanceMethod yX4_copyFrom, Cond.selects RX4 yX4_copyFrom yX4_copyFrom, Cond.initialized RX4, ms_cd m_X4_copyFrom], w ∈ ms_big := ms_sub _ [804, 805, 52, 806] (by decide +kernel) (by decide +kernel)
theorem my_X4_copyFrom : ms_okY m_X4_copyFrom 1 := ⟨by decide, by decide, by decide +kernel⟩
abbrev m_X4_isOut : ms_D := (yX4_isOut, cX4_isOut, 1, (some .boolean), 0, 0, [], none)
theorem mw_X4_isOut : ∀ w ∈ [Cond.instanceMethod yX4_isOut, Cond.selects RX4 yX4_isOut yX4_isOut, Cond.initialized RX4, ms_cd m_X4_isOut], w ∈ ms_big := ms_sub _ [304, 305, 52, 306] (by decide +kernel) (by decide +kernel)
theorem my_X4_isOut : ms_okY m_X4_isOut 0 := ⟨by decide, by decide, by decide +kernel⟩
abbrev m_X4_isTurnAt : ms_D := (yX4_isTurnAt, cX4_isTurnAt, 2, (some .boolean), 1, 20, [], none)
theorem mw_X4_isTurnAt : ∀ w ∈ [Cond.instanceMethod yX4_isTurnAt, Cond.selects RX4 yX4_isTurnAt yX4_isTurnAt, Cond.initialized RX4, ms_cd m_X4_isTurnAt], w ∈ ms_big := ms_sub _ [690, 691, 52, 692] (by decide +kernel) (by decide +kernel)
theorem my_X4_isTurnAt : ms_okY m_X4_isTurnAt 1 := ⟨by decide, by decide, by decide +kernel⟩
abbrev m_X5_init : ms_D := (yX5_init, cX5_init, 1, none, 4, 93, [], none)
theorem mw_X5_init : ∀ w ∈ [Cond.instanceMethod yX5_init, Cond.initialized RX5, ms_cd m_X5_init], w ∈ ms_big := ms_sub _ [66, 48, 67] (by decide +kernel) (by decide +kernel)
theorem my_X5_init : ms_okY m_X5_init 0 := ⟨by decide, by decide, by decide +kernel⟩
abbrev m_X5_reset : ms_D := (yX5_reset, cX5_reset, 3, (some .int), 6, 93, [], none)
theorem mw_X5_reset : ∀ w ∈ [Cond.instanceMethod yX5_reset, Cond.selects RX5 yX5_reset yX5_reset, Cond.initialized RX5, ms_cd m_X5_reset], w ∈ ms_big := ms_sub _ [435, 436, 48, 437] (by decide +kernel) (by decide +kernel)
theorem my_X5_reset : ms_okY m_X5_reset 2 := ⟨by decide, by decide, by decide +kernel⟩
abbrev m_X5_wall : ms_D := (yX5_wall, cX5_wall, 12, (some .int), 6, 115, [], none)
theorem mw_X5_wall : ∀ w ∈ [Cond.instanceMethod yX5_wall, Cond.selects RX5 yX5_wall yX5_wall, Cond.initialized RX5, ms_cd m_X5_wall], w ∈ ms_big := ms_sub _ [512, 513, 48, 514] (by decide +kernel) (by decide +kernel)
theorem my_X5_wall : ms_okY m_X5_wall 5 := ⟨by decide, by decide, by decide +kernel⟩
abbrev m_X5_mark : ms_D := (yX5_mark, cX5_mark, 6, (some .int), 6, 94, [], none)
theorem mw_X5_mark : ∀ w ∈ [Cond.instanceMethod yX5_mark, Cond.selects RX5 yX5_mark yX5_mark, Cond.initialized RX5, ms_cd m_X5_mark], w ∈ ms_big := ms_sub _ [595, 596, 48, 597] (by decide +kernel) (by decide +kernel)
theorem my_X5_mark : ms_okY m_X5_mark 3 := ⟨by decide, by decide, by decide +kernel⟩
abbrev m_X5_set : ms_D := (yX5_set, cX5_set, 4, (some .int), 6, 90, [], none)
theorem mw_X5_set : ∀ w ∈ [Cond.instanceMethod yX5_set, Cond.selects RX5 yX5_set yX5_set, Cond.initialized RX5, ms_cd m_X5_set], w ∈ ms_big := ms_sub _ [614, 615, 48, 616] (by decide +kernel) (by decide +kernel)
theorem my_X5_set : ms_okY m_X5_set 2 := ⟨by decide, by decide, by decide +kernel⟩
abbrev m_X5_field : ms_D := (yX5_field, cX5_field, 5, (some .int), 6, 90, [], none)
theorem mw_X5_field : ∀ w ∈ [Cond.instanceMethod yX5_field, Cond.selects RX5 yX5_field yX5_field, Cond.initialized RX5, ms_cd m_X5_field], w ∈ ms_big := ms_sub _ [622, 623, 48, 624] (by decide +kernel) (by decide +kernel)
theorem my_X5_field : ms_okY m_X5_field 3 := ⟨by decide, by decide, by decide +kernel⟩
abbrev m_X5_far : ms_D := (yX5_far, cX5_far, 5, (some .int), 6, 90, [], none)
theorem mw_X5_far : ∀ w ∈ [Cond.instanceMethod yX5_far, Cond.selects RX5 yX5_far yX5_far, Cond.initialized RX5, ms_cd m_X5_far], w ∈ ms_big := ms_sub _ [630, 631, 48, 632] (by decide +kernel) (by decide +kernel)
theorem my_X5_far : ms_okY m_X5_far 3 := ⟨by decide, by decide, by decide +kernel⟩
abbrev m_X5_farthest : ms_D := (yX5_farthest, cX5_farthest, 2, (some .int), 6, 90, [], none)
theorem mw_X5_farthest : ∀ w ∈ [Cond.instanceMethod yX5_farthest, Cond.selects RX5 yX5_farthest yX5_farthest, Cond.initialized RX5, ms_cd m_X5_farthest], w ∈ ms_big := ms_sub _ [637, 638, 48, 639] (by decide +kernel) (by decide +kernel)
theorem my_X5_farthest : ms_okY m_X5_farthest 1 := ⟨by decide, by decide, by decide +kernel⟩
abbrev m_X5_walker : ms_D := (yX5_walker, cX5_walker, 8, (some .int), 6, 90, [], none)
theorem mw_X5_walker : ∀ w ∈ [Cond.instanceMethod yX5_walker, Cond.selects RX5 yX5_walker yX5_walker, Cond.initialized RX5, ms_cd m_X5_walker], w ∈ ms_big := ms_sub _ [645, 646, 48, 647] (by decide +kernel) (by decide +kernel)
theorem my_X5_walker : ms_okY m_X5_walker 5 := ⟨by decide, by decide, by decide +kernel⟩
abbrev m_X5_turnTo : ms_D := (yX5_turnTo, cX5_turnTo, 6, (some .int), 6, 90, [], none)
theorem mw_X5_turnTo : ∀ w ∈ [Cond.instanceMethod yX5_turnTo, Cond.selects RX5 yX5_turnTo yX5_turnTo, Cond.initialized RX5, ms_cd m_X5_turnTo], w ∈ ms_big := ms_sub _ [667, 668, 48, 669] (by decide +kernel) (by decide +kernel)
theorem my_X5_turnTo : ms_okY m_X5_turnTo 3 := ⟨by decide, by decide, by decide +kernel⟩
abbrev m_X5_tick : ms_D := (yX5_tick, cX5_tick, 3, (some .int), 6, 142, [], none)
theorem mw_X5_tick : ∀ w ∈ [Cond.instanceMethod yX5_tick, Cond.selects RX5 yX5_tick yX5_tick, Cond.initialized RX5, ms_cd m_X5_tick], w ∈ ms_big := ms_sub _ [677, 678, 48, 679] (by decide +kernel) (by decide +kernel)
theorem my_X5_tick : ms_okY m_X5_tick 1 := ⟨by decide, by decide, by decide +kernel⟩
abbrev m_X5_clock : ms_D := (yX5_clock, cX5_clock, 1, (some .int), 0, 0, [], none)
theorem mw_X5_clock : ∀ w ∈ [Cond.instanceMethod yX5_clock, Cond.selects RX5 yX5_clock yX5_clock, Cond.initialized RX5, ms_cd m_X5_clock], w ∈ ms_big := ms_sub _ [288, 289, 48, 290] (by decide +kernel) (by decide +kernel)
theorem my_X5_clock : ms_okY m_X5_clock 0 := ⟨by decide, by decide, by decide +kernel⟩
abbrev m_X5_many : ms_D := (yX5_many, cX5_many, 2, (some .int), 6, 136, [], none)
theorem mw_X5_many : ∀ w ∈ [Cond.instanceMethod yX5_many, Cond.selects RX5 yX5_many yX5_many, Cond.initialized RX5, ms_cd m_X5_many], w ∈ ms_big := ms_sub _ [721, 722, 48, 723] (by decide +kernel) (by decide +kernel)
theorem my_X5_many : ms_okY m_X5_many 1 := ⟨by decide, by decide, by decide +kernel⟩
abbrev m_X5_ofWalker : ms_D := (yX5_ofWalker, cX5_ofWalker, 4, (some .int), 6, 90, [], none)
theorem mw_X5_ofWalker : ∀ w ∈ [Cond.instanceMethod yX5_ofWalker, Cond.selects RX5 yX5_ofWalker yX5_ofWalker, Cond.initialized RX5, ms_cd m_X5_ofWalker], w ∈ ms_big := ms_sub _ [729, 730, 48, 731] (by decide +kernel) (by decide +kernel)
theorem my_X5_ofWalker : ms_okY m_X5_ofWalker 2 := ⟨by decide, by decide, by decide +kernel⟩
abbrev m_X5_cost : ms_D := (yX5_cost, cX5_cost, 4, (some .int), 6, 90, [], none)
theorem mw_X5_cost : ∀ w ∈ [Cond.instanceMethod yX5_cost, Cond.selects RX5 yX5_cost yX5_cost, Cond.initialized RX5, ms_cd m_X5_cost], w ∈ ms_big := ms_sub _ [737, 738, 48, 739] (by decide +kernel) (by decide +kernel)
theorem my_X5_cost : ms_okY m_X5_cost 2 := ⟨by decide, by decide, by decide +kernel⟩
abbrev m_X5_wants : ms_D := (yX5_wants, cX5_wants, 3, (some .int), 6, 98, [], none)
theorem mw_X5_wants : ∀ w ∈ [Cond.instanceMethod yX5_wants, Cond.selects RX5 yX5_wants yX5_wants, Cond.initialized RX5, ms_cd m_X5_wants], w ∈ ms_big := ms_sub _ [746, 747, 48, 748] (by decide +kernel) (by decide +kernel)
theorem my_X5_wants : ms_okY m_X5_wants 1 := ⟨by decide, by decide, by decide +kernel⟩
abbrev m_X5_way : ms_D := (yX5_way, cX5_way, 4, (some .int), 6, 94, [], none)
theorem mw_X5_way : ∀ w ∈ [Cond.instanceMethod yX5_way, Cond.selects RX5 yX5_way yX5_way, Cond.initialized RX5, ms_cd m_X5_way], w ∈ ms_big := ms_sub _ [754, 755, 48, 756] (by decide +kernel) (by decide +kernel)
theorem my_X5_way : ms_okY m_X5_way 2 := ⟨by decide, by decide, by decide +kernel⟩
abbrev m_X5_jam : ms_D := (yX5_jam, cX5_jam, 2, (some .int), 6, 136, [], none)
theorem mw_X5_jam : ∀ w ∈ [Cond.instanceMethod yX5_jam, Cond.selects RX5 yX5_jam yX5_jam, Cond.initialized RX5, ms_cd m_X5_jam], w ∈ ms_big := ms_sub _ [770, 771, 48, 772] (by decide +kernel) (by decide +kernel)
theorem my_X5_jam : ms_okY m_X5_jam 1 := ⟨by decide, by decide, by decide +kernel⟩
abbrev m_X5_meanSteps : ms_D := (yX5_meanSteps, cX5_meanSteps, 2, (some .double), 2, 46, [], none)
theorem mw_X5_meanSteps : ∀ w ∈ [Cond.instanceMethod yX5_meanSteps, Cond.selects RX5 yX5_meanSteps yX5_meanSteps, Cond.initialized RX5, ms_cd m_X5_meanSteps], w ∈ ms_big := ms_sub _ [292, 293, 48, 294] (by decide +kernel) (by decide +kernel)
theorem my_X5_meanSteps : ms_okY m_X5_meanSteps 0 := ⟨by decide, by decide, by decide +kernel⟩
abbrev m_X5_outIn : ms_D := (yX5_outIn, cX5_outIn, 3, (some .int), 6, 144, [], none)
theorem mw_X5_outIn : ∀ w ∈ [Cond.instanceMethod yX5_outIn, Cond.selects RX5 yX5_outIn yX5_outIn, Cond.initialized RX5, ms_cd m_X5_outIn], w ∈ ms_big := ms_sub _ [777, 778, 48, 779] (by decide +kernel) (by decide +kernel)
theorem my_X5_outIn : ms_okY m_X5_outIn 2 := ⟨by decide, by decide, by decide +kernel⟩
abbrev m_X5_outWith : ms_D := (yX5_outWith, cX5_outWith, 3, (some .int), 6, 142, [], none)
theorem mw_X5_outWith : ∀ w ∈ [Cond.instanceMethod yX5_outWith, Cond.selects RX5 yX5_outWith yX5_outWith, Cond.initialized RX5, ms_cd m_X5_outWith], w ∈ ms_big := ms_sub _ [815, 816, 48, 817] (by decide +kernel) (by decide +kernel)
theorem my_X5_outWith : ms_okY m_X5_outWith 2 := ⟨by decide, by decide, by decide +kernel⟩
abbrev m_X5_outBy : ms_D := (yX5_outBy, cX5_outBy, 6, (some .int), 6, 142, [], none)
theorem mw_X5_outBy : ∀ w ∈ [Cond.instanceMethod yX5_outBy, Cond.selects RX5 yX5_outBy yX5_outBy, Cond.initialized RX5, ms_cd m_X5_outBy], w ∈ ms_big := ms_sub _ [823, 824, 48, 825] (by decide +kernel) (by decide +kernel)
theorem my_X5_outBy : ms_okY m_X5_outBy 3 := ⟨by decide, by decide, by decide +kernel⟩
abbrev m_X5_jamIn : ms_D := (yX5_jamIn, cX5_jamIn, 2, (some .int), 6, 142, [], none)
theorem mw_X5_jamIn : ∀ w ∈ [Cond.instanceMethod yX5_jamIn, Cond.selects RX5 yX5_jamIn yX5_jamIn, Cond.initialized RX5, ms_cd m_X5_jamIn], w ∈ ms_big := ms_sub _ [830, 831, 48, 832] (by decide +kernel) (by decide +kernel)
theorem my_X5_jamIn : ms_okY m_X5_jamIn 1 := ⟨by decide, by decide, by decide +kernel⟩
abbrev m_X5_farWith : ms_D := (yX5_farWith, cX5_farWith, 5, (some .int), 6, 94, [], none)
theorem mw_X5_farWith : ∀ w ∈ [Cond.instanceMethod yX5_farWith, Cond.selects RX5 yX5_farWith yX5_farWith, Cond.initialized RX5, ms_cd m_X5_farWith], w ∈ ms_big := ms_sub _ [846, 847, 48, 848] (by decide +kernel) (by decide +kernel)
theorem my_X5_farWith : ms_okY m_X5_farWith 3 := ⟨by decide, by decide, by decide +kernel⟩
abbrev m_X5_digest : ms_D := (yX5_digest, cX5_digest, 4, (some .long), 6, 136, [], none)
theorem mw_X5_digest : ∀ w ∈ [Cond.instanceMethod yX5_digest, Cond.selects RX5 yX5_digest yX5_digest, Cond.initialized RX5, ms_cd m_X5_digest], w ∈ ms_big := ms_sub _ [312, 313, 48, 314] (by decide +kernel) (by decide +kernel)
theorem my_X5_digest : ms_okY m_X5_digest 0 := ⟨by decide, by decide, by decide +kernel⟩
abbrev m_X5_makeNew : ms_D := (yX5_makeNew, cX5_makeNew, 3, none, 3, 71, [], none)
theorem mw_X5_makeNew : ∀ w ∈ [Cond.instanceMethod yX5_makeNew, Cond.selects RX5 yX5_makeNew yX5_makeNew, Cond.initialized RX5, ms_cd m_X5_makeNew], w ∈ ms_big := ms_sub _ [238, 0, 48, 239] (by decide +kernel) (by decide +kernel)
theorem my_X5_makeNew : ms_okY m_X5_makeNew 2 := ⟨by decide, by decide, by decide +kernel⟩
abbrev m_X5_copyToTrial : ms_D := (yX5_copyToTrial, cX5_copyToTrial, 1, none, 3, 70, [], none)
theorem mw_X5_copyToTrial : ∀ w ∈ [Cond.instanceMethod yX5_copyToTrial, Cond.selects RX5 yX5_copyToTrial yX5_copyToTrial, Cond.initialized RX5, ms_cd m_X5_copyToTrial], w ∈ ms_big := ms_sub _ [786, 20, 48, 787] (by decide +kernel) (by decide +kernel)
theorem my_X5_copyToTrial : ms_okY m_X5_copyToTrial 0 := ⟨by decide, by decide, by decide +kernel⟩
abbrev m_X5_fieldFigure : ms_D := (yX5_fieldFigure, cX5_fieldFigure, 3, (some .int), 2, 46, [], none)
theorem mw_X5_fieldFigure : ∀ w ∈ [Cond.instanceMethod yX5_fieldFigure, Cond.selects RX5 yX5_fieldFigure yX5_fieldFigure, Cond.initialized RX5, ms_cd m_X5_fieldFigure], w ∈ ms_big := ms_sub _ [421, 9, 48, 422] (by decide +kernel) (by decide +kernel)
theorem my_X5_fieldFigure : ms_okY m_X5_fieldFigure 2 := ⟨by decide, by decide, by decide +kernel⟩
abbrev m_X5_crowdFigure : ms_D := (yX5_crowdFigure, cX5_crowdFigure, 2, (some .int), 3, 66, [], none)
theorem mw_X5_crowdFigure : ∀ w ∈ [Cond.instanceMethod yX5_crowdFigure, Cond.selects RX5 yX5_crowdFigure yX5_crowdFigure, Cond.initialized RX5, ms_cd m_X5_crowdFigure], w ∈ ms_big := ms_sub _ [351, 5, 48, 352] (by decide +kernel) (by decide +kernel)
theorem my_X5_crowdFigure : ms_okY m_X5_crowdFigure 1 := ⟨by decide, by decide, by decide +kernel⟩
abbrev m_X5_countOtherwiseFar : ms_D := (yX5_countOtherwiseFar, cX5_countOtherwiseFar, 6, (some .int), 2, 43, [], none)
theorem mw_X5_countOtherwiseFar : ∀ w ∈ [Cond.instanceMethod yX5_countOtherwiseFar, Cond.selects RX5 yX5_countOtherwiseFar yX5_countOtherwiseFar, Cond.initialized RX5, ms_cd m_X5_countOtherwiseFar], w ∈ ms_big := ms_sub _ [851, 22, 48, 852] (by decide +kernel) (by decide +kernel)
theorem my_X5_countOtherwiseFar : ms_okY m_X5_countOtherwiseFar 2 := ⟨by decide, by decide, by decide +kernel⟩
abbrev m_X5_mixWalker : ms_D := (yX5_mixWalker, cX5_mixWalker, 8, (some .long), 3, 73, [], none)
theorem mw_X5_mixWalker : ∀ w ∈ [Cond.instanceMethod yX5_mixWalker, Cond.selects RX5 yX5_mixWalker yX5_mixWalker, Cond.initialized RX5, ms_cd m_X5_mixWalker], w ∈ ms_big := ms_sub _ [389, 6, 48, 390] (by decide +kernel) (by decide +kernel)
theorem my_X5_mixWalker : ms_okY m_X5_mixWalker 2 := ⟨by decide, by decide, by decide +kernel⟩
abbrev m_X5_mixField : ms_D := (yX5_mixField, cX5_mixField, 7, (some .long), 3, 68, [], none)
theorem mw_X5_mixField : ∀ w ∈ [Cond.instanceMethod yX5_mixField, Cond.selects RX5 yX5_mixField yX5_mixField, Cond.initialized RX5, ms_cd m_X5_mixField], w ∈ ms_big := ms_sub _ [417, 8, 48, 418] (by decide +kernel) (by decide +kernel)
theorem my_X5_mixField : ms_okY m_X5_mixField 2 := ⟨by decide, by decide, by decide +kernel⟩
abbrev m_X5_mix : ms_D := (yX5_mix, cX5_mix, 3, (some .long), 0, 0, [], none)
theorem mw_X5_mix : ∀ w ∈ [Cond.static yX5_mix, Cond.initialized RX5, ms_cd m_X5_mix], w ∈ ms_big := ms_sub _ [346, 48, 347] (by decide +kernel) (by decide +kernel)
theorem my_X5_mix : ms_okY m_X5_mix 2 := ⟨by decide, by decide, by decide +kernel⟩
abbrev m_X5_isGoal : ms_D := (yX5_isGoal, cX5_isGoal, 1, (some .boolean), 0, 0, [], none)
theorem mw_X5_isGoal : ∀ w ∈ [Cond.static yX5_isGoal, Cond.initialized RX5, ms_cd m_X5_isGoal], w ∈ ms_big := ms_sub _ [362, 48, 363] (by decide +kernel) (by decide +kernel)
theorem my_X5_isGoal : ms_okY m_X5_isGoal 1 := ⟨by decide, by decide, by decide +kernel⟩
abbrev m_X5_isMood : ms_D := (yX5_isMood, cX5_isMood, 1, (some .boolean), 0, 0, [], none)
theorem mw_X5_isMood : ∀ w ∈ [Cond.static yX5_isMood, Cond.initialized RX5, ms_cd m_X5_isMood], w ∈ ms_big := ms_sub _ [649, 48, 650] (by decide +kernel) (by decide +kernel)
theorem my_X5_isMood : ms_okY m_X5_isMood 1 := ⟨by decide, by decide, by decide +kernel⟩
abbrev m_X5_isAhead : ms_D := (yX5_isAhead, cX5_isAhead, 1, (some .boolean), 0, 0, [], none)
theorem mw_X5_isAhead : ∀ w ∈ [Cond.static yX5_isAhead, Cond.initialized RX5, ms_cd m_X5_isAhead], w ∈ ms_big := ms_sub _ [781, 48, 782] (by decide +kernel) (by decide +kernel)
theorem my_X5_isAhead : ms_okY m_X5_isAhead 1 := ⟨by decide, by decide, by decide +kernel⟩
abbrev m_X6_init : ms_D := (yX6_init, cX6_init, 1, none, 1, 22, [], none)
theorem mw_X6_init : ∀ w ∈ [Cond.instanceMethod yX6_init, Cond.initialized RX6, ms_cd m_X6_init], w ∈ ms_big := ms_sub _ [856, 54, 857] (by decide +kernel) (by decide +kernel)
theorem my_X6_init : ms_okY m_X6_init 0 := ⟨by decide, by decide, by decide +kernel⟩
abbrev m_X6_make : ms_D := (yX6_make, cX6_make, 3, none, 0, 0, [], none)
theorem mw_X6_make : ∀ w ∈ [Cond.instanceMethod yX6_make, Cond.selects RX6 yX6_make yX6_make, Cond.initialized RX6, ms_cd m_X6_make], w ∈ ms_big := ms_sub _ [861, 23, 54, 862] (by decide +kernel) (by decide +kernel)
theorem my_X6_make : ms_okY m_X6_make 2 := ⟨by decide, by decide, by decide +kernel⟩
abbrev m_X6_thrown : ms_D := (yX6_thrown, cX6_thrown, 1, (some .int), 0, 0, [], none)
theorem mw_X6_thrown : ∀ w ∈ [Cond.instanceMethod yX6_thrown, Cond.selects RX6 yX6_thrown yX6_thrown, Cond.initialized RX6, ms_cd m_X6_thrown], w ∈ ms_big := ms_sub _ [899, 900, 54, 901] (by decide +kernel) (by decide +kernel)
theorem my_X6_thrown : ms_okY m_X6_thrown 0 := ⟨by decide, by decide, by decide +kernel⟩
abbrev m_X6_no : ms_D := (yX6_no, cX6_no, 2, (some .int), 0, 0, [], none)
theorem mw_X6_no : ∀ w ∈ [Cond.instanceMethod yX6_no, Cond.selects RX6 yX6_no yX6_no, Cond.initialized RX6, ms_cd m_X6_no], w ∈ ms_big := ms_sub _ [911, 24, 54, 912] (by decide +kernel) (by decide +kernel)
theorem my_X6_no : ms_okY m_X6_no 1 := ⟨by decide, by decide, by decide +kernel⟩
abbrev m_X6_ok : ms_D := (yX6_ok, cX6_ok, 2, (some .int), 0, 0, [], none)
theorem mw_X6_ok : ∀ w ∈ [Cond.instanceMethod yX6_ok, Cond.selects RX6 yX6_ok yX6_ok, Cond.initialized RX6, ms_cd m_X6_ok], w ∈ ms_big := ms_sub _ [1021, 38, 54, 1022] (by decide +kernel) (by decide +kernel)
theorem my_X6_ok : ms_okY m_X6_ok 1 := ⟨by decide, by decide, by decide +kernel⟩
abbrev m_X6_isIn : ms_D := (yX6_isIn, cX6_isIn, 3, (some .boolean), 0, 0, [], none)
theorem mw_X6_isIn : ∀ w ∈ [Cond.static yX6_isIn, Cond.initialized RX6, ms_cd m_X6_isIn], w ∈ ms_big := ms_sub _ [907, 54, 908] (by decide +kernel) (by decide +kernel)
theorem my_X6_isIn : ms_okY m_X6_isIn 3 := ⟨by decide, by decide, by decide +kernel⟩
abbrev m_X6_isField : ms_D := (yX6_isField, cX6_isField, 3, (some .boolean), 1, 22, [], none)
theorem mw_X6_isField : ∀ w ∈ [Cond.instanceMethod yX6_isField, Cond.selects RX6 yX6_isField yX6_isField, Cond.initialized RX6, ms_cd m_X6_isField], w ∈ ms_big := ms_sub _ [919, 25, 54, 920] (by decide +kernel) (by decide +kernel)
theorem my_X6_isField : ms_okY m_X6_isField 2 := ⟨by decide, by decide, by decide +kernel⟩
abbrev m_X6_isGoal : ms_D := (yX6_isGoal, cX6_isGoal, 1, (some .boolean), 1, 22, [], none)
theorem mw_X6_isGoal : ∀ w ∈ [Cond.static yX6_isGoal, Cond.initialized RX6, ms_cd m_X6_isGoal], w ∈ ms_big := ms_sub _ [932, 54, 933] (by decide +kernel) (by decide +kernel)
theorem my_X6_isGoal : ms_okY m_X6_isGoal 1 := ⟨by decide, by decide, by decide +kernel⟩
abbrev m_X6_isWalker : ms_D := (yX6_isWalker, cX6_isWalker, 2, (some .boolean), 1, 22, [], none)
theorem mw_X6_isWalker : ∀ w ∈ [Cond.instanceMethod yX6_isWalker, Cond.selects RX6 yX6_isWalker yX6_isWalker, Cond.initialized RX6, ms_cd m_X6_isWalker], w ∈ ms_big := ms_sub _ [987, 32, 54, 988] (by decide +kernel) (by decide +kernel)
theorem my_X6_isWalker : ms_okY m_X6_isWalker 1 := ⟨by decide, by decide, by decide +kernel⟩
abbrev m_X6_isOn : ms_D := (yX6_isOn, cX6_isOn, 2, (some .boolean), 2, 43, [], none)
theorem mw_X6_isOn : ∀ w ∈ [Cond.instanceMethod yX6_isOn, Cond.selects RX6 yX6_isOn yX6_isOn, Cond.initialized RX6, ms_cd m_X6_isOn], w ∈ ms_big := ms_sub _ [991, 33, 54, 992] (by decide +kernel) (by decide +kernel)
theorem my_X6_isOn : ms_okY m_X6_isOn 1 := ⟨by decide, by decide, by decide +kernel⟩
abbrev m_X6_beside : ms_D := (yX6_beside, cX6_beside, 5, (some .int), 2, 44, [], none)
theorem mw_X6_beside : ∀ w ∈ [Cond.instanceMethod yX6_beside, Cond.selects RX6 yX6_beside yX6_beside, Cond.initialized RX6, ms_cd m_X6_beside], w ∈ ms_big := ms_sub _ [967, 31, 54, 968] (by decide +kernel) (by decide +kernel)
theorem my_X6_beside : ms_okY m_X6_beside 2 := ⟨by decide, by decide, by decide +kernel⟩
abbrev m_X6_areRound : ms_D := (yX6_areRound, cX6_areRound, 3, (some .boolean), 1, 21, [], none)
theorem mw_X6_areRound : ∀ w ∈ [Cond.instanceMethod yX6_areRound, Cond.selects RX6 yX6_areRound yX6_areRound, Cond.initialized RX6, ms_cd m_X6_areRound], w ∈ ms_big := ms_sub _ [952, 29, 54, 953] (by decide +kernel) (by decide +kernel)
theorem my_X6_areRound : ms_okY m_X6_areRound 2 := ⟨by decide, by decide, by decide +kernel⟩
abbrev m_X6_walkerOn : ms_D := (yX6_walkerOn, cX6_walkerOn, 3, (some .int), 0, 0, [], none)
theorem mw_X6_walkerOn : ∀ w ∈ [Cond.instanceMethod yX6_walkerOn, Cond.selects RX6 yX6_walkerOn yX6_walkerOn, Cond.initialized RX6, ms_cd m_X6_walkerOn], w ∈ ms_big := ms_sub _ [925, 26, 54, 926] (by decide +kernel) (by decide +kernel)
theorem my_X6_walkerOn : ms_okY m_X6_walkerOn 1 := ⟨by decide, by decide, by decide +kernel⟩
abbrev m_X6_round : ms_D := (yX6_round, cX6_round, 5, (some .int), 2, 43, [], none)
theorem mw_X6_round : ∀ w ∈ [Cond.instanceMethod yX6_round, Cond.selects RX6 yX6_round yX6_round, Cond.initialized RX6, ms_cd m_X6_round], w ∈ ms_big := ms_sub _ [948, 28, 54, 949] (by decide +kernel) (by decide +kernel)
theorem my_X6_round : ms_okY m_X6_round 2 := ⟨by decide, by decide, by decide +kernel⟩
abbrev m_X6_far : ms_D := (yX6_far, cX6_far, 9, (some (.array .int)), 3, 68, [], none)
theorem mw_X6_far : ∀ w ∈ [Cond.instanceMethod yX6_far, Cond.selects RX6 yX6_far yX6_far, Cond.initialized RX6, ms_cd m_X6_far], w ∈ ms_big := ms_sub _ [963, 30, 54, 964] (by decide +kernel) (by decide +kernel)
theorem my_X6_far : ms_okY m_X6_far 1 := ⟨by decide, by decide, by decide +kernel⟩
abbrev m_X6_farAll : ms_D := (yX6_farAll, cX6_farAll, 3, (some (.array (.array .int))), 4, 96, [], none)
theorem mw_X6_farAll : ∀ w ∈ [Cond.instanceMethod yX6_farAll, Cond.selects RX6 yX6_farAll yX6_farAll, Cond.initialized RX6, ms_cd m_X6_farAll], w ∈ ms_big := ms_sub _ [999, 34, 54, 1000] (by decide +kernel) (by decide +kernel)
theorem my_X6_farAll : ms_okY m_X6_farAll 0 := ⟨by decide, by decide, by decide +kernel⟩
abbrev m_X6_reset : ms_D := (yX6_reset, cX6_reset, 3, (some .int), 1, 22, [], none)
theorem mw_X6_reset : ∀ w ∈ [Cond.instanceMethod yX6_reset, Cond.selects RX6 yX6_reset yX6_reset, Cond.initialized RX6, ms_cd m_X6_reset], w ∈ ms_big := ms_sub _ [903, 904, 54, 905] (by decide +kernel) (by decide +kernel)
theorem my_X6_reset : ms_okY m_X6_reset 2 := ⟨by decide, by decide, by decide +kernel⟩
abbrev m_X6_wall : ms_D := (yX6_wall, cX6_wall, 11, (some .int), 2, 44, [], none)
theorem mw_X6_wall : ∀ w ∈ [Cond.instanceMethod yX6_wall, Cond.selects RX6 yX6_wall yX6_wall, Cond.initialized RX6, ms_cd m_X6_wall], w ∈ ms_big := ms_sub _ [914, 915, 54, 916] (by decide +kernel) (by decide +kernel)
theorem my_X6_wall : ms_okY m_X6_wall 5 := ⟨by decide, by decide, by decide +kernel⟩
abbrev m_X6_mark : ms_D := (yX6_mark, cX6_mark, 8, (some .int), 2, 44, [], none)
theorem mw_X6_mark : ∀ w ∈ [Cond.instanceMethod yX6_mark, Cond.selects RX6 yX6_mark yX6_mark, Cond.initialized RX6, ms_cd m_X6_mark], w ∈ ms_big := ms_sub _ [928, 929, 54, 930] (by decide +kernel) (by decide +kernel)
theorem my_X6_mark : ms_okY m_X6_mark 3 := ⟨by decide, by decide, by decide +kernel⟩
abbrev m_X6_set : ms_D := (yX6_set, cX6_set, 4, (some .int), 1, 22, [], none)
theorem mw_X6_set : ∀ w ∈ [Cond.instanceMethod yX6_set, Cond.selects RX6 yX6_set yX6_set, Cond.initialized RX6, ms_cd m_X6_set], w ∈ ms_big := ms_sub _ [935, 936, 54, 937] (by decide +kernel) (by decide +kernel)
theorem my_X6_set : ms_okY m_X6_set 2 := ⟨by decide, by decide, by decide +kernel⟩
abbrev m_X6_fieldNow : ms_D := (yX6_fieldNow, cX6_fieldNow, 3, (some .int), 3, 67, [], none)
theorem mw_X6_fieldNow : ∀ w ∈ [Cond.instanceMethod yX6_fieldNow, Cond.selects RX6 yX6_fieldNow yX6_fieldNow, Cond.initialized RX6, ms_cd m_X6_fieldNow], w ∈ ms_big := ms_sub _ [944, 27, 54, 945] (by decide +kernel) (by decide +kernel)
theorem my_X6_fieldNow : ms_okY m_X6_fieldNow 2 := ⟨by decide, by decide, by decide +kernel⟩
abbrev m_X6_field : ms_D := (yX6_field, cX6_field, 4, (some .int), 4, 89, [], none)
theorem mw_X6_field : ∀ w ∈ [Cond.instanceMethod yX6_field, Cond.selects RX6 yX6_field yX6_field, Cond.initialized RX6, ms_cd m_X6_field], w ∈ ms_big := ms_sub _ [939, 940, 54, 941] (by decide +kernel) (by decide +kernel)
theorem my_X6_field : ms_okY m_X6_field 3 := ⟨by decide, by decide, by decide +kernel⟩
abbrev m_X6_far_ : ms_D := (yX6_far_, cX6_far_, 4, (some .int), 4, 96, [], none)
theorem mw_X6_far_ : ∀ w ∈ [Cond.instanceMethod yX6_far_, Cond.selects RX6 yX6_far_ yX6_far_, Cond.initialized RX6, ms_cd m_X6_far_], w ∈ ms_big := ms_sub _ [958, 959, 54, 960] (by decide +kernel) (by decide +kernel)
theorem my_X6_far_ : ms_okY m_X6_far_ 3 := ⟨by decide, by decide, by decide +kernel⟩
abbrev m_X6_most : ms_D := (yX6_most, cX6_most, 6, (some .int), 1, 21, [], none)
theorem mw_X6_most : ∀ w ∈ [Cond.static yX6_most, Cond.initialized RX6, ms_cd m_X6_most], w ∈ ms_big := ms_sub _ [974, 54, 975] (by decide +kernel) (by decide +kernel)
theorem my_X6_most : ms_okY m_X6_most 1 := ⟨by decide, by decide, by decide +kernel⟩
abbrev m_X6_farthest : ms_D := (yX6_farthest, cX6_farthest, 2, (some .int), 4, 96, [], none)
theorem mw_X6_farthest : ∀ w ∈ [Cond.instanceMethod yX6_farthest, Cond.selects RX6 yX6_farthest yX6_farthest, Cond.initialized RX6, ms_cd m_X6_farthest], w ∈ ms_big := ms_sub _ [970, 971, 54, 972] (by decide +kernel) (by decide +kernel)
theorem my_X6_farthest : ms_okY m_X6_farthest 1 := ⟨by decide, by decide, by decide +kernel⟩
abbrev m_X6_walker : ms_D := (yX6_walker, cX6_walker, 8, (some .int), 2, 48, [], none)
theorem mw_X6_walker : ∀ w ∈ [Cond.instanceMethod yX6_walker, Cond.selects RX6 yX6_walker yX6_walker, Cond.initialized RX6, ms_cd m_X6_walker], w ∈ ms_big := ms_sub _ [977, 978, 54, 979] (by decide +kernel) (by decide +kernel)
theorem my_X6_walker : ms_okY m_X6_walker 5 := ⟨by decide, by decide, by decide +kernel⟩
abbrev m_X6_turnTo : ms_D := (yX6_turnTo, cX6_turnTo, 6, (some .int), 3, 64, [], none)
theorem mw_X6_turnTo : ∀ w ∈ [Cond.instanceMethod yX6_turnTo, Cond.selects RX6 yX6_turnTo yX6_turnTo, Cond.initialized RX6, ms_cd m_X6_turnTo], w ∈ ms_big := ms_sub _ [982, 983, 54, 984] (by decide +kernel) (by decide +kernel)
theorem my_X6_turnTo : ms_okY m_X6_turnTo 3 := ⟨by decide, by decide, by decide +kernel⟩
abbrev m_X6_costNow : ms_D := (yX6_costNow, cX6_costNow, 9, (some .int), 3, 68, [], none)
theorem mw_X6_costNow : ∀ w ∈ [Cond.instanceMethod yX6_costNow, Cond.selects RX6 yX6_costNow yX6_costNow, Cond.initialized RX6, ms_cd m_X6_costNow], w ∈ ms_big := ms_sub _ [1013, 37, 54, 1014] (by decide +kernel) (by decide +kernel)
theorem my_X6_costNow : ms_okY m_X6_costNow 3 := ⟨by decide, by decide, by decide +kernel⟩
abbrev m_X6_wantsNow : ms_D := (yX6_wantsNow, cX6_wantsNow, 7, (some .int), 4, 96, [], none)
theorem mw_X6_wantsNow : ∀ w ∈ [Cond.instanceMethod yX6_wantsNow, Cond.selects RX6 yX6_wantsNow yX6_wantsNow, Cond.initialized RX6, ms_cd m_X6_wantsNow], w ∈ ms_big := ms_sub _ [1009, 36, 54, 1010] (by decide +kernel) (by decide +kernel)
theorem my_X6_wantsNow : ms_okY m_X6_wantsNow 2 := ⟨by decide, by decide, by decide +kernel⟩
abbrev m_X6_tickNow : ms_D := (yX6_tickNow, cX6_tickNow, 8, (some .int), 5, 122, [], none)
theorem mw_X6_tickNow : ∀ w ∈ [Cond.instanceMethod yX6_tickNow, Cond.selects RX6 yX6_tickNow yX6_tickNow, Cond.initialized RX6, ms_cd m_X6_tickNow], w ∈ ms_big := ms_sub _ [1005, 35, 54, 1006] (by decide +kernel) (by decide +kernel)
theorem my_X6_tickNow : ms_okY m_X6_tickNow 1 := ⟨by decide, by decide, by decide +kernel⟩
abbrev m_X6_tick : ms_D := (yX6_tick, cX6_tick, 5, (some .int), 6, 149, [], none)
theorem mw_X6_tick : ∀ w ∈ [Cond.instanceMethod yX6_tick, Cond.selects RX6 yX6_tick yX6_tick, Cond.initialized RX6, ms_cd m_X6_tick], w ∈ ms_big := ms_sub _ [994, 995, 54, 996] (by decide +kernel) (by decide +kernel)
theorem my_X6_tick : ms_okY m_X6_tick 1 := ⟨by decide, by decide, by decide +kernel⟩
abbrev m_X6_clock : ms_D := (yX6_clock, cX6_clock, 1, (some .int), 1, 21, [], none)
theorem mw_X6_clock : ∀ w ∈ [Cond.instanceMethod yX6_clock, Cond.selects RX6 yX6_clock yX6_clock, Cond.initialized RX6, ms_cd m_X6_clock], w ∈ ms_big := ms_sub _ [1016, 1017, 54, 1018] (by decide +kernel) (by decide +kernel)
theorem my_X6_clock : ms_okY m_X6_clock 0 := ⟨by decide, by decide, by decide +kernel⟩
abbrev m_X6_jams : ms_D := (yX6_jams, cX6_jams, 7, (some (.array .int)), 3, 68, [], none)
theorem mw_X6_jams : ∀ w ∈ [Cond.instanceMethod yX6_jams, Cond.selects RX6 yX6_jams yX6_jams, Cond.initialized RX6, ms_cd m_X6_jams], w ∈ ms_big := ms_sub _ [1029, 39, 54, 1030] (by decide +kernel) (by decide +kernel)
theorem my_X6_jams : ms_okY m_X6_jams 0 := ⟨by decide, by decide, by decide +kernel⟩
abbrev m_X6_count : ms_D := (yX6_count, cX6_count, 7, (some .int), 0, 0, [], none)
theorem mw_X6_count : ∀ w ∈ [Cond.static yX6_count, Cond.initialized RX6, ms_cd m_X6_count], w ∈ ms_big := ms_sub _ [1036, 54, 1037] (by decide +kernel) (by decide +kernel)
theorem my_X6_count : ms_okY m_X6_count 2 := ⟨by decide, by decide, by decide +kernel⟩
abbrev m_X6_manyNow : ms_D := (yX6_manyNow, cX6_manyNow, 6, (some .int), 3, 64, [], none)
theorem mw_X6_manyNow : ∀ w ∈ [Cond.instanceMethod yX6_manyNow, Cond.selects RX6 yX6_manyNow yX6_manyNow, Cond.initialized RX6, ms_cd m_X6_manyNow], w ∈ ms_big := ms_sub _ [1033, 40, 54, 1034] (by decide +kernel) (by decide +kernel)
theorem my_X6_manyNow : ms_okY m_X6_manyNow 3 := ⟨by decide, by decide, by decide +kernel⟩
abbrev m_X6_many : ms_D := (yX6_many, cX6_many, 2, (some .int), 5, 118, [], none)
theorem mw_X6_many : ∀ w ∈ [Cond.instanceMethod yX6_many, Cond.selects RX6 yX6_many yX6_many, Cond.initialized RX6, ms_cd m_X6_many], w ∈ ms_big := ms_sub _ [1024, 1025, 54, 1026] (by decide +kernel) (by decide +kernel)
theorem my_X6_many : ms_okY m_X6_many 1 := ⟨by decide, by decide, by decide +kernel⟩
abbrev m_X6_ofNow : ms_D := (yX6_ofNow, cX6_ofNow, 5, (some .int), 3, 64, [], none)
theorem mw_X6_ofNow : ∀ w ∈ [Cond.instanceMethod yX6_ofNow, Cond.selects RX6 yX6_ofNow yX6_ofNow, Cond.initialized RX6, ms_cd m_X6_ofNow], w ∈ ms_big := ms_sub _ [1044, 41, 54, 1045] (by decide +kernel) (by decide +kernel)
theorem my_X6_ofNow : ms_okY m_X6_ofNow 3 := ⟨by decide, by decide, by decide +kernel⟩
abbrev m_X6_ofWalker : ms_D := (yX6_ofWalker, cX6_ofWalker, 3, (some .int), 5, 118, [], none)
theorem mw_X6_ofWalker : ∀ w ∈ [Cond.instanceMethod yX6_ofWalker, Cond.selects RX6 yX6_ofWalker yX6_ofWalker, Cond.initialized RX6, ms_cd m_X6_ofWalker], w ∈ ms_big := ms_sub _ [1039, 1040, 54, 1041] (by decide +kernel) (by decide +kernel)
theorem my_X6_ofWalker : ms_okY m_X6_ofWalker 2 := ⟨by decide, by decide, by decide +kernel⟩
abbrev m_X6_farOf : ms_D := (yX6_farOf, cX6_farOf, 2, (some (.array .int)), 4, 96, [], none)
theorem mw_X6_farOf : ∀ w ∈ [Cond.instanceMethod yX6_farOf, Cond.selects RX6 yX6_farOf yX6_farOf, Cond.initialized RX6, ms_cd m_X6_farOf], w ∈ ms_big := ms_sub _ [1052, 42, 54, 1053] (by decide +kernel) (by decide +kernel)
theorem my_X6_farOf : ms_okY m_X6_farOf 1 := ⟨by decide, by decide, by decide +kernel⟩
abbrev m_X6_cost : ms_D := (yX6_cost, cX6_cost, 3, (some .int), 5, 117, [], none)
theorem mw_X6_cost : ∀ w ∈ [Cond.instanceMethod yX6_cost, Cond.selects RX6 yX6_cost yX6_cost, Cond.initialized RX6, ms_cd m_X6_cost], w ∈ ms_big := ms_sub _ [1047, 1048, 54, 1049] (by decide +kernel) (by decide +kernel)
theorem my_X6_cost : ms_okY m_X6_cost 2 := ⟨by decide, by decide, by decide +kernel⟩
abbrev m_X6_wants : ms_D := (yX6_wants, cX6_wants, 2, (some .int), 5, 122, [], none)
theorem mw_X6_wants : ∀ w ∈ [Cond.instanceMethod yX6_wants, Cond.selects RX6 yX6_wants yX6_wants, Cond.initialized RX6, ms_cd m_X6_wants], w ∈ ms_big := ms_sub _ [1055, 1056, 54, 1057] (by decide +kernel) (by decide +kernel)
theorem my_X6_wants : ms_okY m_X6_wants 1 := ⟨by decide, by decide, by decide +kernel⟩
abbrev m_X6_way : ms_D := (yX6_way, cX6_way, 7, (some .int), 5, 117, [], none)
theorem mw_X6_way : ∀ w ∈ [Cond.instanceMethod yX6_way, Cond.selects RX6 yX6_way yX6_way, Cond.initialized RX6, ms_cd m_X6_way], w ∈ ms_big := ms_sub _ [1059, 1060, 54, 1061] (by decide +kernel) (by decide +kernel)
theorem my_X6_way : ms_okY m_X6_way 2 := ⟨by decide, by decide, by decide +kernel⟩
abbrev m_X6_jamNow : ms_D := (yX6_jamNow, cX6_jamNow, 3, (some .int), 1, 26, [], none)
theorem mw_X6_jamNow : ∀ w ∈ [Cond.instanceMethod yX6_jamNow, Cond.selects RX6 yX6_jamNow yX6_jamNow, Cond.initialized RX6, ms_cd m_X6_jamNow], w ∈ ms_big := ms_sub _ [1068, 43, 54, 1069] (by decide +kernel) (by decide +kernel)
theorem my_X6_jamNow : ms_okY m_X6_jamNow 2 := ⟨by decide, by decide, by decide +kernel⟩
abbrev m_X6_jam : ms_D := (yX6_jam, cX6_jam, 2, (some .int), 4, 94, [], none)
theorem mw_X6_jam : ∀ w ∈ [Cond.instanceMethod yX6_jam, Cond.selects RX6 yX6_jam yX6_jam, Cond.initialized RX6, ms_cd m_X6_jam], w ∈ ms_big := ms_sub _ [1063, 1064, 54, 1065] (by decide +kernel) (by decide +kernel)
theorem my_X6_jam : ms_okY m_X6_jam 1 := ⟨by decide, by decide, by decide +kernel⟩
abbrev m_X6_meanSteps : ms_D := (yX6_meanSteps, cX6_meanSteps, 4, (some .double), 3, 64, [], none)
theorem mw_X6_meanSteps : ∀ w ∈ [Cond.instanceMethod yX6_meanSteps, Cond.selects RX6 yX6_meanSteps yX6_meanSteps, Cond.initialized RX6, ms_cd m_X6_meanSteps], w ∈ ms_big := ms_sub _ [1071, 1072, 54, 1073] (by decide +kernel) (by decide +kernel)
theorem my_X6_meanSteps : ms_okY m_X6_meanSteps 0 := ⟨by decide, by decide, by decide +kernel⟩
abbrev m_X6_putBy : ms_D := (yX6_putBy, cX6_putBy, 2, (some (.array (.array .int))), 1, 48, [], none)
theorem mw_X6_putBy : ∀ w ∈ [Cond.instanceMethod yX6_putBy, Cond.selects RX6 yX6_putBy yX6_putBy, Cond.initialized RX6, ms_cd m_X6_putBy], w ∈ ms_big := ms_sub _ [1080, 44, 54, 1081] (by decide +kernel) (by decide +kernel)
theorem my_X6_putBy : ms_okY m_X6_putBy 0 := ⟨by decide, by decide, by decide +kernel⟩
abbrev m_X6_putBack : ms_D := (yX6_putBack, cX6_putBack, 2, none, 0, 0, [], none)
theorem mw_X6_putBack : ∀ w ∈ [Cond.instanceMethod yX6_putBack, Cond.selects RX6 yX6_putBack yX6_putBack, Cond.initialized RX6, ms_cd m_X6_putBack], w ∈ ms_big := ms_sub _ [1084, 45, 54, 1085] (by decide +kernel) (by decide +kernel)
theorem my_X6_putBack : ms_okY m_X6_putBack 1 := ⟨by decide, by decide, by decide +kernel⟩
abbrev m_X6_outIn : ms_D := (yX6_outIn, cX6_outIn, 6, (some .int), 6, 149, [], none)
theorem mw_X6_outIn : ∀ w ∈ [Cond.instanceMethod yX6_outIn, Cond.selects RX6 yX6_outIn yX6_outIn, Cond.initialized RX6, ms_cd m_X6_outIn], w ∈ ms_big := ms_sub _ [1075, 1076, 54, 1077] (by decide +kernel) (by decide +kernel)
theorem my_X6_outIn : ms_okY m_X6_outIn 2 := ⟨by decide, by decide, by decide +kernel⟩
abbrev m_X6_outBehind : ms_D := (yX6_outBehind, cX6_outBehind, 6, (some .int), 6, 149, [], none)
theorem mw_X6_outBehind : ∀ w ∈ [Cond.instanceMethod yX6_outBehind, Cond.selects RX6 yX6_outBehind yX6_outBehind, Cond.initialized RX6, ms_cd m_X6_outBehind], w ∈ ms_big := ms_sub _ [1092, 46, 54, 1093] (by decide +kernel) (by decide +kernel)
theorem my_X6_outBehind : ms_okY m_X6_outBehind 1 := ⟨by decide, by decide, by decide +kernel⟩
abbrev m_X6_outWith : ms_D := (yX6_outWith, cX6_outWith, 5, (some .int), 7, 174, [], none)
theorem mw_X6_outWith : ∀ w ∈ [Cond.instanceMethod yX6_outWith, Cond.selects RX6 yX6_outWith yX6_outWith, Cond.initialized RX6, ms_cd m_X6_outWith], w ∈ ms_big := ms_sub _ [1087, 1088, 54, 1089] (by decide +kernel) (by decide +kernel)
theorem my_X6_outWith : ms_okY m_X6_outWith 2 := ⟨by decide, by decide, by decide +kernel⟩
abbrev m_X6_outBy : ms_D := (yX6_outBy, cX6_outBy, 7, (some .int), 7, 174, [], none)
theorem mw_X6_outBy : ∀ w ∈ [Cond.instanceMethod yX6_outBy, Cond.selects RX6 yX6_outBy yX6_outBy, Cond.initialized RX6, ms_cd m_X6_outBy], w ∈ ms_big := ms_sub _ [1095, 1096, 54, 1097] (by decide +kernel) (by decide +kernel)
theorem my_X6_outBy : ms_okY m_X6_outBy 3 := ⟨by decide, by decide, by decide +kernel⟩
abbrev m_X6_jamIn : ms_D := (yX6_jamIn, cX6_jamIn, 5, (some .int), 6, 149, [], none)
theorem mw_X6_jamIn : ∀ w ∈ [Cond.instanceMethod yX6_jamIn, Cond.selects RX6 yX6_jamIn yX6_jamIn, Cond.initialized RX6, ms_cd m_X6_jamIn], w ∈ ms_big := ms_sub _ [1099, 1100, 54, 1101] (by decide +kernel) (by decide +kernel)
theorem my_X6_jamIn : ms_okY m_X6_jamIn 1 := ⟨by decide, by decide, by decide +kernel⟩
abbrev m_X6_farWith : ms_D := (yX6_farWith, cX6_farWith, 9, (some .int), 4, 96, [], none)
theorem mw_X6_farWith : ∀ w ∈ [Cond.instanceMethod yX6_farWith, Cond.selects RX6 yX6_farWith yX6_farWith, Cond.initialized RX6, ms_cd m_X6_farWith], w ∈ ms_big := ms_sub _ [1103, 1104, 54, 1105] (by decide +kernel) (by decide +kernel)
theorem my_X6_farWith : ms_okY m_X6_farWith 3 := ⟨by decide, by decide, by decide +kernel⟩
abbrev m_X6_digest : ms_D := (yX6_digest, cX6_digest, 7, (some .long), 5, 118, [], none)
theorem mw_X6_digest : ∀ w ∈ [Cond.instanceMethod yX6_digest, Cond.selects RX6 yX6_digest yX6_digest, Cond.initialized RX6, ms_cd m_X6_digest], w ∈ ms_big := ms_sub _ [1107, 1108, 54, 1109] (by decide +kernel) (by decide +kernel)
theorem my_X6_digest : ms_okY m_X6_digest 0 := ⟨by decide, by decide, by decide +kernel⟩
abbrev m_L_reset : ms_D := (yL_reset, cL_reset, 5, (some .int), 7, 115, [(0, 10, 13, 13)], none)
theorem mw_L_reset : ∀ w ∈ [Cond.static yL_reset, Cond.initialized RL, ms_cd m_L_reset], w ∈ ms_big := ms_sub _ [431, 47, 432] (by decide +kernel) (by decide +kernel)
theorem my_L_reset : ms_okY m_L_reset 4 := ⟨by decide, by decide, by decide +kernel⟩
abbrev m_L_wall : ms_D := (yL_wall, cL_wall, 8, (some .int), 7, 146, [(0, 16, 19, 19), (0, 16, 23, 21)], none)
theorem mw_L_wall : ∀ w ∈ [Cond.static yL_wall, Cond.initialized RL, ms_cd m_L_wall], w ∈ ms_big := ms_sub _ [507, 47, 508] (by decide +kernel) (by decide +kernel)
theorem my_L_wall : ms_okY m_L_wall 7 := ⟨by decide, by decide, by decide +kernel⟩
abbrev m_L_mark : ms_D := (yL_mark, cL_mark, 6, (some .int), 7, 119, [(0, 12, 15, 19), (0, 12, 19, 21)], none)
theorem mw_L_mark : ∀ w ∈ [Cond.static yL_mark, Cond.initialized RL, ms_cd m_L_mark], w ∈ ms_big := ms_sub _ [592, 47, 593] (by decide +kernel) (by decide +kernel)
theorem my_L_mark : ms_okY m_L_mark 5 := ⟨by decide, by decide, by decide +kernel⟩
abbrev m_L_set : ms_D := (yL_set, cL_set, 5, (some .int), 7, 113, [(0, 10, 13, 13)], none)
theorem mw_L_set : ∀ w ∈ [Cond.static yL_set, Cond.initialized RL, ms_cd m_L_set], w ∈ ms_big := ms_sub _ [611, 47, 612] (by decide +kernel) (by decide +kernel)
theorem my_L_set : ms_okY m_L_set 4 := ⟨by decide, by decide, by decide +kernel⟩
abbrev m_L_field : ms_D := (yL_field, cL_field, 6, (some .int), 7, 114, [(0, 12, 15, 19), (0, 12, 19, 13)], none)
theorem mw_L_field : ∀ w ∈ [Cond.static yL_field, Cond.initialized RL, ms_cd m_L_field], w ∈ ms_big := ms_sub _ [619, 47, 620] (by decide +kernel) (by decide +kernel)
theorem my_L_field : ms_okY m_L_field 5 := ⟨by decide, by decide, by decide +kernel⟩
abbrev m_L_far : ms_D := (yL_far, cL_far, 6, (some .int), 7, 114, [(0, 12, 15, 19)], none)
theorem mw_L_far : ∀ w ∈ [Cond.static yL_far, Cond.initialized RL, ms_cd m_L_far], w ∈ ms_big := ms_sub _ [627, 47, 628] (by decide +kernel) (by decide +kernel)
theorem my_L_far : ms_okY m_L_far 5 := ⟨by decide, by decide, by decide +kernel⟩
abbrev m_L_farthest : ms_D := (yL_farthest, cL_farthest, 4, (some .int), 7, 111, [(0, 9, 12, 19)], none)
theorem mw_L_farthest : ∀ w ∈ [Cond.static yL_farthest, Cond.initialized RL, ms_cd m_L_farthest], w ∈ ms_big := ms_sub _ [634, 47, 635] (by decide +kernel) (by decide +kernel)
theorem my_L_farthest : ms_okY m_L_farthest 3 := ⟨by decide, by decide, by decide +kernel⟩
abbrev m_L_walker : ms_D := (yL_walker, cL_walker, 8, (some .int), 7, 117, [(0, 16, 19, 19), (0, 16, 23, 13), (0, 16, 27, 21)], none)
theorem mw_L_walker : ∀ w ∈ [Cond.static yL_walker, Cond.initialized RL, ms_cd m_L_walker], w ∈ ms_big := ms_sub _ [642, 47, 643] (by decide +kernel) (by decide +kernel)
theorem my_L_walker : ms_okY m_L_walker 7 := ⟨by decide, by decide, by decide +kernel⟩
abbrev m_L_turnTo : ms_D := (yL_turnTo, cL_turnTo, 6, (some .int), 7, 115, [(0, 12, 15, 19), (0, 12, 19, 13), (0, 12, 23, 21)], none)
theorem mw_L_turnTo : ∀ w ∈ [Cond.static yL_turnTo, Cond.initialized RL, ms_cd m_L_turnTo], w ∈ ms_big := ms_sub _ [664, 47, 665] (by decide +kernel) (by decide +kernel)
theorem my_L_turnTo : ms_okY m_L_turnTo 5 := ⟨by decide, by decide, by decide +kernel⟩
abbrev m_L_tick : ms_D := (yL_tick, cL_tick, 4, (some .int), 7, 164, [(0, 9, 12, 13)], none)
theorem mw_L_tick : ∀ w ∈ [Cond.static yL_tick, Cond.initialized RL, ms_cd m_L_tick], w ∈ ms_big := ms_sub _ [674, 47, 675] (by decide +kernel) (by decide +kernel)
theorem my_L_tick : ms_okY m_L_tick 3 := ⟨by decide, by decide, by decide +kernel⟩
abbrev m_L_many : ms_D := (yL_many, cL_many, 4, (some .int), 7, 157, [(0, 9, 12, 13)], none)
theorem mw_L_many : ∀ w ∈ [Cond.static yL_many, Cond.initialized RL, ms_cd m_L_many], w ∈ ms_big := ms_sub _ [718, 47, 719] (by decide +kernel) (by decide +kernel)
theorem my_L_many : ms_okY m_L_many 3 := ⟨by decide, by decide, by decide +kernel⟩
abbrev m_L_ofWalker : ms_D := (yL_ofWalker, cL_ofWalker, 5, (some .int), 7, 113, [(0, 10, 13, 19), (0, 10, 17, 13)], none)
theorem mw_L_ofWalker : ∀ w ∈ [Cond.static yL_ofWalker, Cond.initialized RL, ms_cd m_L_ofWalker], w ∈ ms_big := ms_sub _ [726, 47, 727] (by decide +kernel) (by decide +kernel)
theorem my_L_ofWalker : ms_okY m_L_ofWalker 4 := ⟨by decide, by decide, by decide +kernel⟩
abbrev m_L_cost : ms_D := (yL_cost, cL_cost, 5, (some .int), 7, 113, [(0, 10, 13, 19), (0, 10, 17, 13)], none)
theorem mw_L_cost : ∀ w ∈ [Cond.static yL_cost, Cond.initialized RL, ms_cd m_L_cost], w ∈ ms_big := ms_sub _ [734, 47, 735] (by decide +kernel) (by decide +kernel)
theorem my_L_cost : ms_okY m_L_cost 4 := ⟨by decide, by decide, by decide +kernel⟩
abbrev m_L_wants : ms_D := (yL_wants, cL_wants, 4, (some .int), 7, 120, [(0, 9, 12, 19)], none)
theorem mw_L_wants : ∀ w ∈ [Cond.static yL_wants, Cond.initialized RL, ms_cd m_L_wants], w ∈ ms_big := ms_sub _ [743, 47, 744] (by decide +kernel) (by decide +kernel)
theorem my_L_wants : ms_okY m_L_wants 3 := ⟨by decide, by decide, by decide +kernel⟩
abbrev m_L_way : ms_D := (yL_way, cL_way, 5, (some .int), 7, 117, [(0, 10, 13, 19), (0, 10, 17, 13)], none)
theorem mw_L_way : ∀ w ∈ [Cond.static yL_way, Cond.initialized RL, ms_cd m_L_way], w ∈ ms_big := ms_sub _ [751, 47, 752] (by decide +kernel) (by decide +kernel)
theorem my_L_way : ms_okY m_L_way 4 := ⟨by decide, by decide, by decide +kernel⟩
abbrev m_L_jam : ms_D := (yL_jam, cL_jam, 4, (some .int), 7, 157, [(0, 9, 12, 19)], none)
theorem mw_L_jam : ∀ w ∈ [Cond.static yL_jam, Cond.initialized RL, ms_cd m_L_jam], w ∈ ms_big := ms_sub _ [767, 47, 768] (by decide +kernel) (by decide +kernel)
theorem my_L_jam : ms_okY m_L_jam 3 := ⟨by decide, by decide, by decide +kernel⟩
abbrev m_L_outIn : ms_D := (yL_outIn, cL_outIn, 5, (some .int), 7, 166, [(0, 10, 13, 19), (0, 10, 17, 13)], none)
theorem mw_L_outIn : ∀ w ∈ [Cond.static yL_outIn, Cond.initialized RL, ms_cd m_L_outIn], w ∈ ms_big := ms_sub _ [774, 47, 775] (by decide +kernel) (by decide +kernel)
theorem my_L_outIn : ms_okY m_L_outIn 4 := ⟨by decide, by decide, by decide +kernel⟩
abbrev m_L_outWith : ms_D := (yL_outWith, cL_outWith, 5, (some .int), 7, 164, [(0, 10, 13, 13)], none)
theorem mw_L_outWith : ∀ w ∈ [Cond.static yL_outWith, Cond.initialized RL, ms_cd m_L_outWith], w ∈ ms_big := ms_sub _ [812, 47, 813] (by decide +kernel) (by decide +kernel)
theorem my_L_outWith : ms_okY m_L_outWith 4 := ⟨by decide, by decide, by decide +kernel⟩
abbrev m_L_outBy : ms_D := (yL_outBy, cL_outBy, 6, (some .int), 7, 167, [(0, 12, 15, 19), (0, 12, 19, 13), (0, 12, 23, 21)], none)
theorem mw_L_outBy : ∀ w ∈ [Cond.static yL_outBy, Cond.initialized RL, ms_cd m_L_outBy], w ∈ ms_big := ms_sub _ [820, 47, 821] (by decide +kernel) (by decide +kernel)
theorem my_L_outBy : ms_okY m_L_outBy 5 := ⟨by decide, by decide, by decide +kernel⟩
abbrev m_L_jamIn : ms_D := (yL_jamIn, cL_jamIn, 4, (some .int), 7, 163, [(0, 9, 12, 13)], none)
theorem mw_L_jamIn : ∀ w ∈ [Cond.static yL_jamIn, Cond.initialized RL, ms_cd m_L_jamIn], w ∈ ms_big := ms_sub _ [827, 47, 828] (by decide +kernel) (by decide +kernel)
theorem my_L_jamIn : ms_okY m_L_jamIn 3 := ⟨by decide, by decide, by decide +kernel⟩
abbrev m_L_farWith : ms_D := (yL_farWith, cL_farWith, 6, (some .int), 7, 118, [(0, 12, 15, 19)], none)
theorem mw_L_farWith : ∀ w ∈ [Cond.static yL_farWith, Cond.initialized RL, ms_cd m_L_farWith], w ∈ ms_big := ms_sub _ [843, 47, 844] (by decide +kernel) (by decide +kernel)
theorem my_L_farWith : ms_okY m_L_farWith 5 := ⟨by decide, by decide, by decide +kernel⟩
theorem cin_X0_42 : ms_okIN RX0 42 m_X4_init RX5 0 := ⟨by decide +kernel, mw_X4_init, rfl, my_X4_init, rfl, rfl⟩
theorem cv_X0_55 : ms_okV RX0 55 m_X0_get 0 1 := ⟨(ms_at 299 (by decide +kernel) rfl), mw_X0_get, ⟨TX0, 10, rfl⟩, my_X0_get, rfl⟩
theorem cs_X0_59 : ms_okS RX0 59 m_X0_copyWalker 2 := ⟨rfl, (ms_at 800 (by decide +kernel) rfl), mw_X0_copyWalker, my_X0_copyWalker⟩
theorem cv_X0_63 : ms_okV RX0 63 m_X4_copyFrom 4 1 := ⟨(ms_at 803 (by decide +kernel) rfl), mw_X4_copyFrom, ⟨TX4, 11, rfl⟩, my_X4_copyFrom, rfl⟩
theorem cv_X0_67 : ms_okV RX0 67 m_X1_number 1 2 := ⟨(ms_at 540 (by decide +kernel) rfl), mw_X1_number, ⟨TX1, 4, rfl⟩, my_X1_number, rfl⟩
theorem cv_X0_73 : ms_okV RX0 73 m_X0_numberOn 0 1 := ⟨(ms_at 410 (by decide +kernel) rfl), mw_X0_numberOn, ⟨TX0, 10, rfl⟩, my_X0_numberOn, rfl⟩
theorem cv_X0_77 : ms_okV RX0 77 m_X1_has 1 1 := ⟨(ms_at 658 (by decide +kernel) rfl), mw_X1_has, ⟨TX1, 4, rfl⟩, my_X1_has, rfl⟩
theorem cv_X0_81 : ms_okV RX0 81 m_X4_come 4 4 := ⟨(ms_at 659 (by decide +kernel) rfl), mw_X4_come, ⟨TX4, 11, rfl⟩, my_X4_come, rfl⟩
theorem cv_X0_88 : ms_okV RX0 88 m_X0_heatOf 0 1 := ⟨(ms_at 376 (by decide +kernel) rfl), mw_X0_heatOf, ⟨TX0, 10, rfl⟩, my_X0_heatOf, rfl⟩
theorem cv_X0_91 : ms_okV RX0 91 m_X4_isOut 4 0 := ⟨(ms_at 303 (by decide +kernel) rfl), mw_X4_isOut, ⟨TX4, 11, rfl⟩, my_X4_isOut, rfl⟩
theorem cv_X0_101 : ms_okV RX0 101 m_X3_distance 3 2 := ⟨(ms_at 357 (by decide +kernel) rfl), mw_X3_distance, ⟨TX3, 5, rfl⟩, my_X3_distance, rfl⟩
theorem cv_X0_124 : ms_okV RX0 124 m_X1_next 1 2 := ⟨(ms_at 409 (by decide +kernel) rfl), mw_X1_next, ⟨TX1, 4, rfl⟩, my_X1_next, rfl⟩
theorem cv_X0_127 : ms_okV RX0 127 m_X0_countRound 0 1 := ⟨(ms_at 405 (by decide +kernel) rfl), mw_X0_countRound, ⟨TX0, 10, rfl⟩, my_X0_countRound, rfl⟩
theorem cv_X0_130 : ms_okV RX0 130 m_X0_countFacing 0 2 := ⟨(ms_at 411 (by decide +kernel) rfl), mw_X0_countFacing, ⟨TX0, 10, rfl⟩, my_X0_countFacing, rfl⟩
theorem cv_X0_133 : ms_okV RX0 133 m_X0_costOf 0 2 := ⟨(ms_at 698 (by decide +kernel) rfl), mw_X0_costOf, ⟨TX0, 10, rfl⟩, my_X0_costOf, rfl⟩
theorem cv_X0_137 : ms_okV RX0 137 m_X0_step 0 0 := ⟨(ms_at 685 (by decide +kernel) rfl), mw_X0_step, ⟨TX0, 10, rfl⟩, my_X0_step, rfl⟩
theorem cv_X0_140 : ms_okV RX0 140 m_X0_countOut 0 0 := ⟨(ms_at 716 (by decide +kernel) rfl), mw_X0_countOut, ⟨TX0, 10, rfl⟩, my_X0_countOut, rfl⟩
theorem cv_X0_144 : ms_okV RX0 144 m_X0_hasJam 0 0 := ⟨(ms_at 837 (by decide +kernel) rfl), mw_X0_hasJam, ⟨TX0, 10, rfl⟩, my_X0_hasJam, rfl⟩
theorem cv_X0_147 : ms_okV RX0 147 m_X0_isJammed 0 1 := ⟨(ms_at 841 (by decide +kernel) rfl), mw_X0_isJammed, ⟨TX0, 10, rfl⟩, my_X0_isJammed, rfl⟩
theorem cv_X0_151 : ms_okV RX0 151 m_X4_isTurnAt 4 1 := ⟨(ms_at 689 (by decide +kernel) rfl), mw_X4_isTurnAt, ⟨TX4, 11, rfl⟩, my_X4_isTurnAt, rfl⟩
theorem cv_X0_158 : ms_okV RX0 158 m_X0_bestSide 0 1 := ⟨(ms_at 694 (by decide +kernel) rfl), mw_X0_bestSide, ⟨TX0, 10, rfl⟩, my_X0_bestSide, rfl⟩
theorem cv_X0_162 : ms_okV RX0 162 m_X0_aim 0 2 := ⟨(ms_at 699 (by decide +kernel) rfl), mw_X0_aim, ⟨TX0, 10, rfl⟩, my_X0_aim, rfl⟩
theorem cv_X0_166 : ms_okV RX0 166 m_X0_claim 0 1 := ⟨(ms_at 703 (by decide +kernel) rfl), mw_X0_claim, ⟨TX0, 10, rfl⟩, my_X0_claim, rfl⟩
theorem cv_X0_170 : ms_okV RX0 170 m_X0_goOrWait 0 1 := ⟨(ms_at 707 (by decide +kernel) rfl), mw_X0_goOrWait, ⟨TX0, 10, rfl⟩, my_X0_goOrWait, rfl⟩
theorem cv_X0_179 : ms_okV RX0 179 m_X0_go 0 2 := ⟨(ms_at 711 (by decide +kernel) rfl), mw_X0_go, ⟨TX0, 10, rfl⟩, my_X0_go, rfl⟩
theorem cv_X0_182 : ms_okV RX0 182 m_X3_isMarked 3 2 := ⟨(ms_at 715 (by decide +kernel) rfl), mw_X3_isMarked, ⟨TX3, 5, rfl⟩, my_X3_isMarked, rfl⟩
theorem cv_X1_25 : ms_okV RX1 25 m_X1_link 1 2 := ⟨(ms_at 244 (by decide +kernel) rfl), mw_X1_link, ⟨TX1, 4, rfl⟩, my_X1_link, rfl⟩
theorem cv_X1_29 : ms_okV RX1 29 m_X1_number 1 2 := ⟨(ms_at 248 (by decide +kernel) rfl), mw_X1_number, ⟨TX1, 4, rfl⟩, my_X1_number, rfl⟩
theorem cv_X1_33 : ms_okV RX1 33 m_X1_has 1 1 := ⟨(ms_at 252 (by decide +kernel) rfl), mw_X1_has, ⟨TX1, 4, rfl⟩, my_X1_has, rfl⟩
theorem cv_X2_31 : ms_okV RX2 31 m_X2_isNewOne 2 2 := ⟨(ms_at 319 (by decide +kernel) rfl), mw_X2_isNewOne, ⟨TX2, 5, rfl⟩, my_X2_isNewOne, rfl⟩
theorem cv_X2_35 : ms_okV RX2 35 m_X2_gather 2 2 := ⟨(ms_at 328 (by decide +kernel) rfl), mw_X2_gather, ⟨TX2, 5, rfl⟩, my_X2_gather, rfl⟩
theorem cv_X2_39 : ms_okV RX2 39 m_X0_get 0 1 := ⟨(ms_at 323 (by decide +kernel) rfl), mw_X0_get, ⟨TX0, 10, rfl⟩, my_X0_get, rfl⟩
theorem cv_X2_43 : ms_okV RX2 43 m_X0_isJammed 0 1 := ⟨(ms_at 324 (by decide +kernel) rfl), mw_X0_isJammed, ⟨TX0, 10, rfl⟩, my_X0_isJammed, rfl⟩
theorem cv_X2_47 : ms_okV RX2 47 m_X2_gatherBeside 2 3 := ⟨(ms_at 332 (by decide +kernel) rfl), mw_X2_gatherBeside, ⟨TX2, 5, rfl⟩, my_X2_gatherBeside, rfl⟩
theorem cv_X2_60 : ms_okV RX2 60 m_X1_next 1 2 := ⟨(ms_at 336 (by decide +kernel) rfl), mw_X1_next, ⟨TX1, 4, rfl⟩, my_X1_next, rfl⟩
theorem cv_X2_66 : ms_okV RX2 66 m_X0_numberOn 0 1 := ⟨(ms_at 340 (by decide +kernel) rfl), mw_X0_numberOn, ⟨TX0, 10, rfl⟩, my_X0_numberOn, rfl⟩
theorem cv_X3_34 : ms_okV RX3 34 m_X1_has 1 1 := ⟨(ms_at 364 (by decide +kernel) rfl), mw_X1_has, ⟨TX1, 4, rfl⟩, my_X1_has, rfl⟩
theorem csn_X3_40 : ms_okSN RX3 40 m_X5_isGoal RX5 1 := ⟨by decide +kernel, mw_X5_isGoal, my_X5_isGoal, rfl⟩
theorem cv_X3_47 : ms_okV RX3 47 m_X3_isFree 3 1 := ⟨(ms_at 569 (by decide +kernel) rfl), mw_X3_isFree, ⟨TX3, 5, rfl⟩, my_X3_isFree, rfl⟩
theorem cv_X3_50 : ms_okV RX3 50 m_X3_isMarked 3 2 := ⟨(ms_at 570 (by decide +kernel) rfl), mw_X3_isMarked, ⟨TX3, 5, rfl⟩, my_X3_isMarked, rfl⟩
theorem cv_X3_54 : ms_okV RX3 54 m_X3_distance 3 2 := ⟨(ms_at 385 (by decide +kernel) rfl), mw_X3_distance, ⟨TX3, 5, rfl⟩, my_X3_distance, rfl⟩
theorem cv_X3_63 : ms_okV RX3 63 m_X3_measure 3 1 := ⟨(ms_at 565 (by decide +kernel) rfl), mw_X3_measure, ⟨TX3, 5, rfl⟩, my_X3_measure, rfl⟩
theorem cv_X3_67 : ms_okV RX3 67 m_X3_keepDistance 3 3 := ⟨(ms_at 574 (by decide +kernel) rfl), mw_X3_keepDistance, ⟨TX3, 5, rfl⟩, my_X3_keepDistance, rfl⟩
theorem cv_X3_71 : ms_okV RX3 71 m_X3_enqueue 3 2 := ⟨(ms_at 578 (by decide +kernel) rfl), mw_X3_enqueue, ⟨TX3, 5, rfl⟩, my_X3_enqueue, rfl⟩
theorem cv_X3_74 : ms_okV RX3 74 m_X3_spread 3 3 := ⟨(ms_at 582 (by decide +kernel) rfl), mw_X3_spread, ⟨TX3, 5, rfl⟩, my_X3_spread, rfl⟩
theorem cv_X3_78 : ms_okV RX3 78 m_X1_next 1 2 := ⟨(ms_at 586 (by decide +kernel) rfl), mw_X1_next, ⟨TX1, 4, rfl⟩, my_X1_next, rfl⟩
theorem cv_X3_81 : ms_okV RX3 81 m_X3_nearer 3 2 := ⟨(ms_at 762 (by decide +kernel) rfl), mw_X3_nearer, ⟨TX3, 5, rfl⟩, my_X3_nearer, rfl⟩
theorem cv_X4_36 : ms_okV RX4 36 m_X4_isOut 4 0 := ⟨(ms_at 693 (by decide +kernel) rfl), mw_X4_isOut, ⟨TX4, 11, rfl⟩, my_X4_isOut, rfl⟩
theorem cin_X5_9 : ms_okIN RX5 9 m_X1_init RX5 0 := ⟨by decide +kernel, mw_X1_init, rfl, my_X1_init, rfl, rfl⟩
theorem ci_X5_18 : ms_okI RX5 18 m_X3_init 1 := ⟨(ms_at 96 (by decide +kernel) rfl), mw_X3_init, rfl, my_X3_init, rfl, rfl⟩
theorem ci_X5_27 : ms_okI RX5 27 m_X0_init 2 := ⟨(ms_at 118 (by decide +kernel) rfl), mw_X0_init, rfl, my_X0_init, rfl, rfl⟩
theorem cin_X5_36 : ms_okIN RX5 36 m_X2_init RX5 0 := ⟨by decide +kernel, mw_X2_init, rfl, my_X2_init, rfl, rfl⟩
theorem cv_X5_47 : ms_okV RX5 47 m_X5_makeNew 5 2 := ⟨(ms_at 236 (by decide +kernel) rfl), mw_X5_makeNew, ⟨TX5, 6, rfl⟩, my_X5_makeNew, rfl⟩
theorem cv_X5_62 : ms_okV RX5 62 m_X1_number 1 2 := ⟨(ms_at 515 (by decide +kernel) rfl), mw_X1_number, ⟨TX1, 4, rfl⟩, my_X1_number, rfl⟩
theorem cv_X5_79 : ms_okV RX5 79 m_X0_isAnyoneIn 0 4 := ⟨(ms_at 536 (by decide +kernel) rfl), mw_X0_isAnyoneIn, ⟨TX0, 10, rfl⟩, my_X0_isAnyoneIn, rfl⟩
theorem cv_X5_88 : ms_okV RX5 88 m_X3_build 3 2 := ⟨(ms_at 557 (by decide +kernel) rfl), mw_X3_build, ⟨TX3, 5, rfl⟩, my_X3_build, rfl⟩
theorem cv_X5_92 : ms_okV RX5 92 m_X3_measureAll 3 0 := ⟨(ms_at 561 (by decide +kernel) rfl), mw_X3_measureAll, ⟨TX3, 5, rfl⟩, my_X3_measureAll, rfl⟩
theorem cv_X5_95 : ms_okV RX5 95 m_X3_countWalls 3 0 := ⟨(ms_at 587 (by decide +kernel) rfl), mw_X3_countWalls, ⟨TX3, 5, rfl⟩, my_X3_countWalls, rfl⟩
theorem cs_X5_99 : ms_okS RX5 99 m_X5_isGoal 1 := ⟨rfl, (ms_at 598 (by decide +kernel) rfl), mw_X5_isGoal, my_X5_isGoal⟩
theorem cv_X5_105 : ms_okV RX5 105 m_X0_numberOn 0 1 := ⟨(ms_at 427 (by decide +kernel) rfl), mw_X0_numberOn, ⟨TX0, 10, rfl⟩, my_X0_numberOn, rfl⟩
theorem cv_X5_109 : ms_okV RX5 109 m_X0_get 0 1 := ⟨(ms_at 391 (by decide +kernel) rfl), mw_X0_get, ⟨TX0, 10, rfl⟩, my_X0_get, rfl⟩
theorem cv_X5_120 : ms_okV RX5 120 m_X3_turnMark 3 2 := ⟨(ms_at 601 (by decide +kernel) rfl), mw_X3_turnMark, ⟨TX3, 5, rfl⟩, my_X3_turnMark, rfl⟩
theorem cv_X5_123 : ms_okV RX5 123 m_X3_measure 3 1 := ⟨(ms_at 605 (by decide +kernel) rfl), mw_X3_measure, ⟨TX3, 5, rfl⟩, my_X3_measure, rfl⟩
theorem cv_X5_127 : ms_okV RX5 127 m_X3_countMarks 3 1 := ⟨(ms_at 606 (by decide +kernel) rfl), mw_X3_countMarks, ⟨TX3, 5, rfl⟩, my_X3_countMarks, rfl⟩
theorem cv_X5_140 : ms_okV RX5 140 m_X5_fieldFigure 5 2 := ⟨(ms_at 419 (by decide +kernel) rfl), mw_X5_fieldFigure, ⟨TX5, 6, rfl⟩, my_X5_fieldFigure, rfl⟩
theorem cv_X5_143 : ms_okV RX5 143 m_X3_distance 3 2 := ⟨(ms_at 429 (by decide +kernel) rfl), mw_X3_distance, ⟨TX3, 5, rfl⟩, my_X3_distance, rfl⟩
theorem cv_X5_148 : ms_okV RX5 148 m_X3_greatestDistance 3 1 := ⟨(ms_at 381 (by decide +kernel) rfl), mw_X3_greatestDistance, ⟨TX3, 5, rfl⟩, my_X3_greatestDistance, rfl⟩
theorem cs_X5_151 : ms_okS RX5 151 m_X5_isMood 1 := ⟨rfl, (ms_at 648 (by decide +kernel) rfl), mw_X5_isMood, my_X5_isMood⟩
theorem cv_X5_156 : ms_okV RX5 156 m_X3_isFree 3 1 := ⟨(ms_at 423 (by decide +kernel) rfl), mw_X3_isFree, ⟨TX3, 5, rfl⟩, my_X3_isFree, rfl⟩
theorem cv_X5_159 : ms_okV RX5 159 m_X3_isMarked 3 2 := ⟨(ms_at 652 (by decide +kernel) rfl), mw_X3_isMarked, ⟨TX3, 5, rfl⟩, my_X3_isMarked, rfl⟩
theorem cv_X5_168 : ms_okV RX5 168 m_X0_add 0 4 := ⟨(ms_at 654 (by decide +kernel) rfl), mw_X0_add, ⟨TX0, 10, rfl⟩, my_X0_add, rfl⟩
theorem cv_X5_176 : ms_okV RX5 176 m_X4_isOut 4 0 := ⟨(ms_at 400 (by decide +kernel) rfl), mw_X4_isOut, ⟨TX4, 11, rfl⟩, my_X4_isOut, rfl⟩
theorem cv_X5_190 : ms_okV RX5 190 m_X0_countOut 0 0 := ⟨(ms_at 295 (by decide +kernel) rfl), mw_X0_countOut, ⟨TX0, 10, rfl⟩, my_X0_countOut, rfl⟩
theorem cv_X5_193 : ms_okV RX5 193 m_X0_outAfter 0 1 := ⟨(ms_at 681 (by decide +kernel) rfl), mw_X0_outAfter, ⟨TX0, 10, rfl⟩, my_X0_outAfter, rfl⟩
theorem cv_X5_201 : ms_okV RX5 201 m_X2_find 2 1 := ⟨(ms_at 315 (by decide +kernel) rfl), mw_X2_find, ⟨TX2, 5, rfl⟩, my_X2_find, rfl⟩
theorem cv_X5_205 : ms_okV RX5 205 m_X5_crowdFigure 5 1 := ⟨(ms_at 349 (by decide +kernel) rfl), mw_X5_crowdFigure, ⟨TX5, 6, rfl⟩, my_X5_crowdFigure, rfl⟩
theorem cv_X5_210 : ms_okV RX5 210 m_X0_walkerFigure 0 2 := ⟨(ms_at 392 (by decide +kernel) rfl), mw_X0_walkerFigure, ⟨TX0, 10, rfl⟩, my_X0_walkerFigure, rfl⟩
theorem cv_X5_218 : ms_okV RX5 218 m_X0_costOf 0 2 := ⟨(ms_at 401 (by decide +kernel) rfl), mw_X0_costOf, ⟨TX0, 10, rfl⟩, my_X0_costOf, rfl⟩
theorem cv_X5_221 : ms_okV RX5 221 m_X0_bestSide 0 1 := ⟨(ms_at 749 (by decide +kernel) rfl), mw_X0_bestSide, ⟨TX0, 10, rfl⟩, my_X0_bestSide, rfl⟩
theorem cv_X5_227 : ms_okV RX5 227 m_X3_fieldOnWay 3 3 := ⟨(ms_at 758 (by decide +kernel) rfl), mw_X3_fieldOnWay, ⟨TX3, 5, rfl⟩, my_X3_fieldOnWay, rfl⟩
theorem cv_X5_231 : ms_okV RX5 231 m_X2_sizeAround 2 1 := ⟨(ms_at 396 (by decide +kernel) rfl), mw_X2_sizeAround, ⟨TX2, 5, rfl⟩, my_X2_sizeAround, rfl⟩
theorem cv_X5_234 : ms_okV RX5 234 m_X0_countSteps 0 1 := ⟨(ms_at 307 (by decide +kernel) rfl), mw_X0_countSteps, ⟨TX0, 10, rfl⟩, my_X0_countSteps, rfl⟩
theorem cs_X5_238 : ms_okS RX5 238 m_X5_isAhead 1 := ⟨rfl, (ms_at 780 (by decide +kernel) rfl), mw_X5_isAhead, my_X5_isAhead⟩
theorem cv_X5_243 : ms_okV RX5 243 m_X5_copyToTrial 5 0 := ⟨(ms_at 784 (by decide +kernel) rfl), mw_X5_copyToTrial, ⟨TX5, 6, rfl⟩, my_X5_copyToTrial, rfl⟩
theorem cv_X5_246 : ms_okV RX5 246 m_X0_ticksTillOut 0 2 := ⟨(ms_at 807 (by decide +kernel) rfl), mw_X0_ticksTillOut, ⟨TX0, 10, rfl⟩, my_X0_ticksTillOut, rfl⟩
theorem cv_X5_251 : ms_okV RX5 251 m_X0_ticksTillJam 0 1 := ⟨(ms_at 833 (by decide +kernel) rfl), mw_X0_ticksTillJam, ⟨TX0, 10, rfl⟩, my_X0_ticksTillJam, rfl⟩
theorem cv_X5_254 : ms_okV RX5 254 m_X3_copyFrom 3 1 := ⟨(ms_at 788 (by decide +kernel) rfl), mw_X3_copyFrom, ⟨TX3, 5, rfl⟩, my_X3_copyFrom, rfl⟩
theorem cv_X5_258 : ms_okV RX5 258 m_X5_countOtherwiseFar 5 2 := ⟨(ms_at 849 (by decide +kernel) rfl), mw_X5_countOtherwiseFar, ⟨TX5, 6, rfl⟩, my_X5_countOtherwiseFar, rfl⟩
theorem cs_X5_263 : ms_okS RX5 263 m_X5_mix 2 := ⟨rfl, (ms_at 345 (by decide +kernel) rfl), mw_X5_mix, my_X5_mix⟩
theorem cv_X5_267 : ms_okV RX5 267 m_X5_mixWalker 5 2 := ⟨(ms_at 387 (by decide +kernel) rfl), mw_X5_mixWalker, ⟨TX5, 6, rfl⟩, my_X5_mixWalker, rfl⟩
theorem cv_X5_270 : ms_okV RX5 270 m_X5_mixField 5 2 := ⟨(ms_at 415 (by decide +kernel) rfl), mw_X5_mixField, ⟨TX5, 6, rfl⟩, my_X5_mixField, rfl⟩
theorem cv_X5_273 : ms_okV RX5 273 m_X1_shape 1 2 := ⟨(ms_at 240 (by decide +kernel) rfl), mw_X1_shape, ⟨TX1, 4, rfl⟩, my_X1_shape, rfl⟩
theorem cv_X5_276 : ms_okV RX5 276 m_X3_clear 3 0 := ⟨(ms_at 260 (by decide +kernel) rfl), mw_X3_clear, ⟨TX3, 5, rfl⟩, my_X3_clear, rfl⟩
theorem cv_X5_279 : ms_okV RX5 279 m_X0_clear 0 0 := ⟨(ms_at 264 (by decide +kernel) rfl), mw_X0_clear, ⟨TX0, 10, rfl⟩, my_X0_clear, rfl⟩
theorem cv_X5_280 : ms_okV RX5 280 m_X0_copyFrom 0 1 := ⟨(ms_at 795 (by decide +kernel) rfl), mw_X0_copyFrom, ⟨TX0, 10, rfl⟩, my_X0_copyFrom, rfl⟩
theorem cv_X5_282 : ms_okV RX5 282 m_X0_heatOf 0 1 := ⟨(ms_at 380 (by decide +kernel) rfl), mw_X0_heatOf, ⟨TX0, 10, rfl⟩, my_X0_heatOf, rfl⟩
theorem cv_X5_285 : ms_okV RX5 285 m_X0_countRound 0 1 := ⟨(ms_at 428 (by decide +kernel) rfl), mw_X0_countRound, ⟨TX0, 10, rfl⟩, my_X0_countRound, rfl⟩
theorem cv_X5_288 : ms_okV RX5 288 m_X0_countLost 0 0 := ⟨(ms_at 353 (by decide +kernel) rfl), mw_X0_countLost, ⟨TX0, 10, rfl⟩, my_X0_countLost, rfl⟩
theorem cv_X5_295 : ms_okV RX5 295 m_X2_greatest 2 0 := ⟨(ms_at 365 (by decide +kernel) rfl), mw_X2_greatest, ⟨TX2, 5, rfl⟩, my_X2_greatest, rfl⟩
theorem cv_X5_298 : ms_okV RX5 298 m_X0_hottest 0 0 := ⟨(ms_at 372 (by decide +kernel) rfl), mw_X0_hottest, ⟨TX0, 10, rfl⟩, my_X0_hottest, rfl⟩
theorem cv_X6_16 : ms_okV RX6 16 m_X6_make 6 2 := ⟨(ms_at 859 (by decide +kernel) rfl), mw_X6_make, ⟨TX6, 11, rfl⟩, my_X6_make, rfl⟩
theorem cs_X6_49 : ms_okS RX6 49 m_X6_isIn 3 := ⟨rfl, (ms_at 906 (by decide +kernel) rfl), mw_X6_isIn, my_X6_isIn⟩
theorem cv_X6_53 : ms_okV RX6 53 m_X6_isWalker 6 1 := ⟨(ms_at 985 (by decide +kernel) rfl), mw_X6_isWalker, ⟨TX6, 11, rfl⟩, my_X6_isWalker, rfl⟩
theorem cv_X6_57 : ms_okV RX6 57 m_X6_isField 6 2 := ⟨(ms_at 917 (by decide +kernel) rfl), mw_X6_isField, ⟨TX6, 11, rfl⟩, my_X6_isField, rfl⟩
theorem cv_X6_67 : ms_okV RX6 67 m_X6_areRound 6 2 := ⟨(ms_at 950 (by decide +kernel) rfl), mw_X6_areRound, ⟨TX6, 11, rfl⟩, my_X6_areRound, rfl⟩
theorem cv_X6_70 : ms_okV RX6 70 m_X6_beside 6 2 := ⟨(ms_at 965 (by decide +kernel) rfl), mw_X6_beside, ⟨TX6, 11, rfl⟩, my_X6_beside, rfl⟩
theorem cv_X6_75 : ms_okV RX6 75 m_X6_far 6 1 := ⟨(ms_at 961 (by decide +kernel) rfl), mw_X6_far, ⟨TX6, 11, rfl⟩, my_X6_far, rfl⟩
theorem cv_X6_79 : ms_okV RX6 79 m_X6_no 6 1 := ⟨(ms_at 909 (by decide +kernel) rfl), mw_X6_no, ⟨TX6, 11, rfl⟩, my_X6_no, rfl⟩
theorem cv_X6_88 : ms_okV RX6 88 m_X6_walkerOn 6 1 := ⟨(ms_at 923 (by decide +kernel) rfl), mw_X6_walkerOn, ⟨TX6, 11, rfl⟩, my_X6_walkerOn, rfl⟩
theorem cs_X6_91 : ms_okS RX6 91 m_X6_isGoal 1 := ⟨rfl, (ms_at 931 (by decide +kernel) rfl), mw_X6_isGoal, my_X6_isGoal⟩
theorem cv_X6_94 : ms_okV RX6 94 m_X6_round 6 2 := ⟨(ms_at 946 (by decide +kernel) rfl), mw_X6_round, ⟨TX6, 11, rfl⟩, my_X6_round, rfl⟩
theorem cv_X6_97 : ms_okV RX6 97 m_X6_fieldNow 6 2 := ⟨(ms_at 942 (by decide +kernel) rfl), mw_X6_fieldNow, ⟨TX6, 11, rfl⟩, my_X6_fieldNow, rfl⟩
theorem cs_X6_100 : ms_okS RX6 100 m_X6_most 1 := ⟨rfl, (ms_at 973 (by decide +kernel) rfl), mw_X6_most, my_X6_most⟩
theorem cv_X6_110 : ms_okV RX6 110 m_X6_isOn 6 1 := ⟨(ms_at 989 (by decide +kernel) rfl), mw_X6_isOn, ⟨TX6, 11, rfl⟩, my_X6_isOn, rfl⟩
theorem cv_X6_113 : ms_okV RX6 113 m_X6_costNow 6 3 := ⟨(ms_at 1011 (by decide +kernel) rfl), mw_X6_costNow, ⟨TX6, 11, rfl⟩, my_X6_costNow, rfl⟩
theorem cv_X6_117 : ms_okV RX6 117 m_X6_wantsNow 6 2 := ⟨(ms_at 1007 (by decide +kernel) rfl), mw_X6_wantsNow, ⟨TX6, 11, rfl⟩, my_X6_wantsNow, rfl⟩
theorem cv_X6_121 : ms_okV RX6 121 m_X6_farAll 6 0 := ⟨(ms_at 997 (by decide +kernel) rfl), mw_X6_farAll, ⟨TX6, 11, rfl⟩, my_X6_farAll, rfl⟩
theorem cv_X6_125 : ms_okV RX6 125 m_X6_tickNow 6 1 := ⟨(ms_at 1003 (by decide +kernel) rfl), mw_X6_tickNow, ⟨TX6, 11, rfl⟩, my_X6_tickNow, rfl⟩
theorem cv_X6_129 : ms_okV RX6 129 m_X6_ok 6 1 := ⟨(ms_at 1019 (by decide +kernel) rfl), mw_X6_ok, ⟨TX6, 11, rfl⟩, my_X6_ok, rfl⟩
theorem cs_X6_132 : ms_okS RX6 132 m_X6_count 2 := ⟨rfl, (ms_at 1035 (by decide +kernel) rfl), mw_X6_count, my_X6_count⟩
theorem cv_X6_136 : ms_okV RX6 136 m_X6_jams 6 0 := ⟨(ms_at 1027 (by decide +kernel) rfl), mw_X6_jams, ⟨TX6, 11, rfl⟩, my_X6_jams, rfl⟩
theorem cv_X6_140 : ms_okV RX6 140 m_X6_manyNow 6 3 := ⟨(ms_at 1031 (by decide +kernel) rfl), mw_X6_manyNow, ⟨TX6, 11, rfl⟩, my_X6_manyNow, rfl⟩
theorem cv_X6_144 : ms_okV RX6 144 m_X6_ofNow 6 3 := ⟨(ms_at 1042 (by decide +kernel) rfl), mw_X6_ofNow, ⟨TX6, 11, rfl⟩, my_X6_ofNow, rfl⟩
theorem cv_X6_148 : ms_okV RX6 148 m_X6_farOf 6 1 := ⟨(ms_at 1050 (by decide +kernel) rfl), mw_X6_farOf, ⟨TX6, 11, rfl⟩, my_X6_farOf, rfl⟩
theorem cv_X6_151 : ms_okV RX6 151 m_X6_jamNow 6 2 := ⟨(ms_at 1066 (by decide +kernel) rfl), mw_X6_jamNow, ⟨TX6, 11, rfl⟩, my_X6_jamNow, rfl⟩
theorem cv_X6_154 : ms_okV RX6 154 m_X6_putBy 6 0 := ⟨(ms_at 1078 (by decide +kernel) rfl), mw_X6_putBy, ⟨TX6, 11, rfl⟩, my_X6_putBy, rfl⟩
theorem cv_X6_157 : ms_okV RX6 157 m_X6_putBack 6 1 := ⟨(ms_at 1082 (by decide +kernel) rfl), mw_X6_putBack, ⟨TX6, 11, rfl⟩, my_X6_putBack, rfl⟩
theorem cv_X6_161 : ms_okV RX6 161 m_X6_outBehind 6 1 := ⟨(ms_at 1090 (by decide +kernel) rfl), mw_X6_outBehind, ⟨TX6, 11, rfl⟩, my_X6_outBehind, rfl⟩
theorem cv_L_7 : ms_okV RL 7 m_X5_reset 5 2 := ⟨(ms_at 434 (by decide +kernel) rfl), mw_X5_reset, ⟨TX5, 6, rfl⟩, my_X5_reset, rfl⟩
theorem cv_L_15 : ms_okV RL 15 m_X5_wall 5 5 := ⟨(ms_at 511 (by decide +kernel) rfl), mw_X5_wall, ⟨TX5, 6, rfl⟩, my_X5_wall, rfl⟩
theorem cv_L_23 : ms_okV RL 23 m_X5_mark 5 3 := ⟨(ms_at 594 (by decide +kernel) rfl), mw_X5_mark, ⟨TX5, 6, rfl⟩, my_X5_mark, rfl⟩
theorem cv_L_27 : ms_okV RL 27 m_X5_set 5 2 := ⟨(ms_at 613 (by decide +kernel) rfl), mw_X5_set, ⟨TX5, 6, rfl⟩, my_X5_set, rfl⟩
theorem cv_L_30 : ms_okV RL 30 m_X5_field 5 3 := ⟨(ms_at 621 (by decide +kernel) rfl), mw_X5_field, ⟨TX5, 6, rfl⟩, my_X5_field, rfl⟩
theorem cv_L_33 : ms_okV RL 33 m_X5_far 5 3 := ⟨(ms_at 629 (by decide +kernel) rfl), mw_X5_far, ⟨TX5, 6, rfl⟩, my_X5_far, rfl⟩
theorem cv_L_36 : ms_okV RL 36 m_X5_farthest 5 1 := ⟨(ms_at 636 (by decide +kernel) rfl), mw_X5_farthest, ⟨TX5, 6, rfl⟩, my_X5_farthest, rfl⟩
theorem cv_L_40 : ms_okV RL 40 m_X5_walker 5 5 := ⟨(ms_at 644 (by decide +kernel) rfl), mw_X5_walker, ⟨TX5, 6, rfl⟩, my_X5_walker, rfl⟩
theorem cv_L_44 : ms_okV RL 44 m_X5_turnTo 5 3 := ⟨(ms_at 666 (by decide +kernel) rfl), mw_X5_turnTo, ⟨TX5, 6, rfl⟩, my_X5_turnTo, rfl⟩
theorem cv_L_47 : ms_okV RL 47 m_X5_tick 5 1 := ⟨(ms_at 676 (by decide +kernel) rfl), mw_X5_tick, ⟨TX5, 6, rfl⟩, my_X5_tick, rfl⟩
theorem cv_L_50 : ms_okV RL 50 m_X5_many 5 1 := ⟨(ms_at 720 (by decide +kernel) rfl), mw_X5_many, ⟨TX5, 6, rfl⟩, my_X5_many, rfl⟩
theorem cv_L_53 : ms_okV RL 53 m_X5_ofWalker 5 2 := ⟨(ms_at 728 (by decide +kernel) rfl), mw_X5_ofWalker, ⟨TX5, 6, rfl⟩, my_X5_ofWalker, rfl⟩
theorem cv_L_56 : ms_okV RL 56 m_X5_cost 5 2 := ⟨(ms_at 736 (by decide +kernel) rfl), mw_X5_cost, ⟨TX5, 6, rfl⟩, my_X5_cost, rfl⟩
theorem cv_L_59 : ms_okV RL 59 m_X5_wants 5 1 := ⟨(ms_at 745 (by decide +kernel) rfl), mw_X5_wants, ⟨TX5, 6, rfl⟩, my_X5_wants, rfl⟩
theorem cv_L_62 : ms_okV RL 62 m_X5_way 5 2 := ⟨(ms_at 753 (by decide +kernel) rfl), mw_X5_way, ⟨TX5, 6, rfl⟩, my_X5_way, rfl⟩
theorem cv_L_65 : ms_okV RL 65 m_X5_jam 5 1 := ⟨(ms_at 769 (by decide +kernel) rfl), mw_X5_jam, ⟨TX5, 6, rfl⟩, my_X5_jam, rfl⟩
theorem cv_L_68 : ms_okV RL 68 m_X5_outIn 5 2 := ⟨(ms_at 776 (by decide +kernel) rfl), mw_X5_outIn, ⟨TX5, 6, rfl⟩, my_X5_outIn, rfl⟩
theorem cv_L_71 : ms_okV RL 71 m_X5_outWith 5 2 := ⟨(ms_at 814 (by decide +kernel) rfl), mw_X5_outWith, ⟨TX5, 6, rfl⟩, my_X5_outWith, rfl⟩
theorem cv_L_74 : ms_okV RL 74 m_X5_outBy 5 3 := ⟨(ms_at 822 (by decide +kernel) rfl), mw_X5_outBy, ⟨TX5, 6, rfl⟩, my_X5_outBy, rfl⟩
theorem cv_L_77 : ms_okV RL 77 m_X5_jamIn 5 1 := ⟨(ms_at 829 (by decide +kernel) rfl), mw_X5_jamIn, ⟨TX5, 6, rfl⟩, my_X5_jamIn, rfl⟩
theorem cv_L_80 : ms_okV RL 80 m_X5_farWith 5 3 := ⟨(ms_at 845 (by decide +kernel) rfl), mw_X5_farWith, ⟨TX5, 6, rfl⟩, my_X5_farWith, rfl⟩
theorem ci_L_83 : ms_okI RL 83 m_X5_init 0 := ⟨(ms_at 65 (by decide +kernel) rfl), mw_X5_init, rfl, my_X5_init, rfl, rfl⟩
theorem ci_L_86 : ms_okI RL 86 m_X6_init 0 := ⟨(ms_at 855 (by decide +kernel) rfl), mw_X6_init, rfl, my_X6_init, rfl, rfl⟩
theorem cs_L_87 : ms_okS RL 87 m_L_reset 4 := ⟨rfl, (ms_at 430 (by decide +kernel) rfl), mw_L_reset, my_L_reset⟩
theorem cv_L_92 : ms_okV RL 92 m_X6_reset 6 2 := ⟨(ms_at 902 (by decide +kernel) rfl), mw_X6_reset, ⟨TX6, 11, rfl⟩, my_X6_reset, rfl⟩
theorem cv_L_93 : ms_okV RL 93 m_X6_thrown 6 0 := ⟨(ms_at 898 (by decide +kernel) rfl), mw_X6_thrown, ⟨TX6, 11, rfl⟩, my_X6_thrown, rfl⟩
theorem cs_L_97 : ms_okS RL 97 m_L_wall 7 := ⟨rfl, (ms_at 506 (by decide +kernel) rfl), mw_L_wall, my_L_wall⟩
theorem cv_L_100 : ms_okV RL 100 m_X6_wall 6 5 := ⟨(ms_at 913 (by decide +kernel) rfl), mw_X6_wall, ⟨TX6, 11, rfl⟩, my_X6_wall, rfl⟩
theorem cs_L_101 : ms_okS RL 101 m_L_mark 5 := ⟨rfl, (ms_at 591 (by decide +kernel) rfl), mw_L_mark, my_L_mark⟩
theorem cv_L_104 : ms_okV RL 104 m_X6_mark 6 3 := ⟨(ms_at 927 (by decide +kernel) rfl), mw_X6_mark, ⟨TX6, 11, rfl⟩, my_X6_mark, rfl⟩
theorem cs_L_105 : ms_okS RL 105 m_L_set 4 := ⟨rfl, (ms_at 610 (by decide +kernel) rfl), mw_L_set, my_L_set⟩
theorem cv_L_107 : ms_okV RL 107 m_X6_set 6 2 := ⟨(ms_at 934 (by decide +kernel) rfl), mw_X6_set, ⟨TX6, 11, rfl⟩, my_X6_set, rfl⟩
theorem cs_L_108 : ms_okS RL 108 m_L_field 5 := ⟨rfl, (ms_at 618 (by decide +kernel) rfl), mw_L_field, my_L_field⟩
theorem cv_L_110 : ms_okV RL 110 m_X6_field 6 3 := ⟨(ms_at 938 (by decide +kernel) rfl), mw_X6_field, ⟨TX6, 11, rfl⟩, my_X6_field, rfl⟩
theorem cs_L_111 : ms_okS RL 111 m_L_far 5 := ⟨rfl, (ms_at 626 (by decide +kernel) rfl), mw_L_far, my_L_far⟩
theorem cv_L_113 : ms_okV RL 113 m_X6_far_ 6 3 := ⟨(ms_at 957 (by decide +kernel) rfl), mw_X6_far_, ⟨TX6, 11, rfl⟩, my_X6_far_, rfl⟩
theorem cs_L_114 : ms_okS RL 114 m_L_farthest 3 := ⟨rfl, (ms_at 633 (by decide +kernel) rfl), mw_L_farthest, my_L_farthest⟩
theorem cv_L_117 : ms_okV RL 117 m_X6_farthest 6 1 := ⟨(ms_at 969 (by decide +kernel) rfl), mw_X6_farthest, ⟨TX6, 11, rfl⟩, my_X6_farthest, rfl⟩
theorem cs_L_118 : ms_okS RL 118 m_L_walker 7 := ⟨rfl, (ms_at 641 (by decide +kernel) rfl), mw_L_walker, my_L_walker⟩
theorem cv_L_121 : ms_okV RL 121 m_X6_walker 6 5 := ⟨(ms_at 976 (by decide +kernel) rfl), mw_X6_walker, ⟨TX6, 11, rfl⟩, my_X6_walker, rfl⟩
theorem cs_L_122 : ms_okS RL 122 m_L_turnTo 5 := ⟨rfl, (ms_at 663 (by decide +kernel) rfl), mw_L_turnTo, my_L_turnTo⟩
theorem cv_L_124 : ms_okV RL 124 m_X6_turnTo 6 3 := ⟨(ms_at 981 (by decide +kernel) rfl), mw_X6_turnTo, ⟨TX6, 11, rfl⟩, my_X6_turnTo, rfl⟩
theorem cs_L_125 : ms_okS RL 125 m_L_tick 3 := ⟨rfl, (ms_at 673 (by decide +kernel) rfl), mw_L_tick, my_L_tick⟩
theorem cv_L_127 : ms_okV RL 127 m_X6_tick 6 1 := ⟨(ms_at 993 (by decide +kernel) rfl), mw_X6_tick, ⟨TX6, 11, rfl⟩, my_X6_tick, rfl⟩
theorem cv_L_128 : ms_okV RL 128 m_X5_clock 5 0 := ⟨(ms_at 287 (by decide +kernel) rfl), mw_X5_clock, ⟨TX5, 6, rfl⟩, my_X5_clock, rfl⟩
theorem cv_L_131 : ms_okV RL 131 m_X6_clock 6 0 := ⟨(ms_at 1015 (by decide +kernel) rfl), mw_X6_clock, ⟨TX6, 11, rfl⟩, my_X6_clock, rfl⟩
theorem cs_L_132 : ms_okS RL 132 m_L_many 3 := ⟨rfl, (ms_at 717 (by decide +kernel) rfl), mw_L_many, my_L_many⟩
theorem cv_L_134 : ms_okV RL 134 m_X6_many 6 1 := ⟨(ms_at 1023 (by decide +kernel) rfl), mw_X6_many, ⟨TX6, 11, rfl⟩, my_X6_many, rfl⟩
theorem cs_L_135 : ms_okS RL 135 m_L_ofWalker 4 := ⟨rfl, (ms_at 725 (by decide +kernel) rfl), mw_L_ofWalker, my_L_ofWalker⟩
theorem cv_L_137 : ms_okV RL 137 m_X6_ofWalker 6 2 := ⟨(ms_at 1038 (by decide +kernel) rfl), mw_X6_ofWalker, ⟨TX6, 11, rfl⟩, my_X6_ofWalker, rfl⟩
theorem cs_L_138 : ms_okS RL 138 m_L_cost 4 := ⟨rfl, (ms_at 733 (by decide +kernel) rfl), mw_L_cost, my_L_cost⟩
theorem cv_L_140 : ms_okV RL 140 m_X6_cost 6 2 := ⟨(ms_at 1046 (by decide +kernel) rfl), mw_X6_cost, ⟨TX6, 11, rfl⟩, my_X6_cost, rfl⟩
theorem cs_L_141 : ms_okS RL 141 m_L_wants 3 := ⟨rfl, (ms_at 742 (by decide +kernel) rfl), mw_L_wants, my_L_wants⟩
theorem cv_L_143 : ms_okV RL 143 m_X6_wants 6 1 := ⟨(ms_at 1054 (by decide +kernel) rfl), mw_X6_wants, ⟨TX6, 11, rfl⟩, my_X6_wants, rfl⟩
theorem cs_L_144 : ms_okS RL 144 m_L_way 4 := ⟨rfl, (ms_at 750 (by decide +kernel) rfl), mw_L_way, my_L_way⟩
theorem cv_L_146 : ms_okV RL 146 m_X6_way 6 2 := ⟨(ms_at 1058 (by decide +kernel) rfl), mw_X6_way, ⟨TX6, 11, rfl⟩, my_X6_way, rfl⟩
theorem cs_L_147 : ms_okS RL 147 m_L_jam 3 := ⟨rfl, (ms_at 766 (by decide +kernel) rfl), mw_L_jam, my_L_jam⟩
theorem cv_L_149 : ms_okV RL 149 m_X6_jam 6 1 := ⟨(ms_at 1062 (by decide +kernel) rfl), mw_X6_jam, ⟨TX6, 11, rfl⟩, my_X6_jam, rfl⟩
theorem cv_L_150 : ms_okV RL 150 m_X5_meanSteps 5 0 := ⟨(ms_at 291 (by decide +kernel) rfl), mw_X5_meanSteps, ⟨TX5, 6, rfl⟩, my_X5_meanSteps, rfl⟩
theorem cv_L_154 : ms_okV RL 154 m_X6_meanSteps 6 0 := ⟨(ms_at 1070 (by decide +kernel) rfl), mw_X6_meanSteps, ⟨TX6, 11, rfl⟩, my_X6_meanSteps, rfl⟩
theorem cs_L_155 : ms_okS RL 155 m_L_outIn 4 := ⟨rfl, (ms_at 773 (by decide +kernel) rfl), mw_L_outIn, my_L_outIn⟩
theorem cv_L_157 : ms_okV RL 157 m_X6_outIn 6 2 := ⟨(ms_at 1074 (by decide +kernel) rfl), mw_X6_outIn, ⟨TX6, 11, rfl⟩, my_X6_outIn, rfl⟩
theorem cs_L_158 : ms_okS RL 158 m_L_outWith 4 := ⟨rfl, (ms_at 811 (by decide +kernel) rfl), mw_L_outWith, my_L_outWith⟩
theorem cv_L_160 : ms_okV RL 160 m_X6_outWith 6 2 := ⟨(ms_at 1086 (by decide +kernel) rfl), mw_X6_outWith, ⟨TX6, 11, rfl⟩, my_X6_outWith, rfl⟩
theorem cs_L_161 : ms_okS RL 161 m_L_outBy 5 := ⟨rfl, (ms_at 819 (by decide +kernel) rfl), mw_L_outBy, my_L_outBy⟩
theorem cv_L_163 : ms_okV RL 163 m_X6_outBy 6 3 := ⟨(ms_at 1094 (by decide +kernel) rfl), mw_X6_outBy, ⟨TX6, 11, rfl⟩, my_X6_outBy, rfl⟩
theorem cs_L_164 : ms_okS RL 164 m_L_jamIn 3 := ⟨rfl, (ms_at 826 (by decide +kernel) rfl), mw_L_jamIn, my_L_jamIn⟩
theorem cv_L_166 : ms_okV RL 166 m_X6_jamIn 6 1 := ⟨(ms_at 1098 (by decide +kernel) rfl), mw_X6_jamIn, ⟨TX6, 11, rfl⟩, my_X6_jamIn, rfl⟩
theorem cs_L_167 : ms_okS RL 167 m_L_farWith 5 := ⟨rfl, (ms_at 842 (by decide +kernel) rfl), mw_L_farWith, my_L_farWith⟩
theorem cv_L_169 : ms_okV RL 169 m_X6_farWith 6 3 := ⟨(ms_at 1102 (by decide +kernel) rfl), mw_X6_farWith, ⟨TX6, 11, rfl⟩, my_X6_farWith, rfl⟩
theorem cv_L_170 : ms_okV RL 170 m_X5_digest 5 0 := ⟨(ms_at 311 (by decide +kernel) rfl), mw_X5_digest, ⟨TX5, 6, rfl⟩, my_X5_digest, rfl⟩
theorem cv_L_174 : ms_okV RL 174 m_X6_digest 6 0 := ⟨(ms_at 1106 (by decide +kernel) rfl), mw_X6_digest, ⟨TX6, 11, rfl⟩, my_X6_digest, rfl⟩
theorem lc_X5_261 : Cond.constantLong RX5 261 967 ∈ ms_big := (ms_at 344 (by decide +kernel) rfl)
theorem lc_X5_301 : Cond.constantLong RX5 301 31 ∈ ms_big := (ms_at 348 (by decide +kernel) rfl)
theorem lc_X6_164 : Cond.constantLong RX6 164 29977 ∈ ms_big := (ms_at 1110 (by decide +kernel) rfl)
theorem lc_X6_166 : Cond.constantLong RX6 166 31 ∈ ms_big := (ms_at 1111 (by decide +kernel) rfl)
theorem oi_X5_1 : ∀ w ∈ [Cond.methodLink RX5 1 Lib.objectInit, Cond.instanceMethod Lib.objectInit, Cond.code Lib.objectInit ⟨#[0xb1]⟩ 1 none], w ∈ ms_big := ms_sub _ [68, 69, 70] (by decide +kernel) (by decide +kernel)
theorem mm_X5_71 : ∀ w ∈ [Cond.methodLink RX5 71 Lib.Math.min.name, Cond.static Lib.Math.min.name, Cond.initialized "java/lang/Math", Cond.code Lib.Math.min.name Lib.Math.min.code 2 (some .int)], w ∈ ms_big := ms_sub _ [532, 533, 60, 534] (by decide +kernel) (by decide +kernel)
theorem mm_X5_76 : ∀ w ∈ [Cond.methodLink RX5 76 Lib.Math.max.name, Cond.static Lib.Math.max.name, Cond.initialized "java/lang/Math", Cond.code Lib.Math.max.name Lib.Math.max.code 2 (some .int)], w ∈ ms_big := ms_sub _ [535, 370, 60, 371] (by decide +kernel) (by decide +kernel)
theorem oi_X0_3 : ∀ w ∈ [Cond.methodLink RX0 3 Lib.objectInit, Cond.instanceMethod Lib.objectInit, Cond.code Lib.objectInit ⟨#[0xb1]⟩ 1 none], w ∈ ms_big := ms_sub _ [121, 69, 70] (by decide +kernel) (by decide +kernel)
theorem ac_X0_49 : ∀ w ∈ [Cond.methodLink RX0 49 arraycopyName, Cond.native arraycopyName, Cond.static arraycopyName, Cond.initialized "java/lang/System"], w ∈ ms_big := ms_sub _ [799, 794, 793, 62] (by decide +kernel) (by decide +kernel)
theorem oi_X1_3 : ∀ w ∈ [Cond.methodLink RX1 3 Lib.objectInit, Cond.instanceMethod Lib.objectInit, Cond.code Lib.objectInit ⟨#[0xb1]⟩ 1 none], w ∈ ms_big := ms_sub _ [76, 69, 70] (by decide +kernel) (by decide +kernel)
theorem oi_X2_3 : ∀ w ∈ [Cond.methodLink RX2 3 Lib.objectInit, Cond.instanceMethod Lib.objectInit, Cond.code Lib.objectInit ⟨#[0xb1]⟩ 1 none], w ∈ ms_big := ms_sub _ [217, 69, 70] (by decide +kernel) (by decide +kernel)
theorem mm_X2_70 : ∀ w ∈ [Cond.methodLink RX2 70 Lib.Math.max.name, Cond.static Lib.Math.max.name, Cond.initialized "java/lang/Math", Cond.code Lib.Math.max.name Lib.Math.max.code 2 (some .int)], w ∈ ms_big := ms_sub _ [369, 370, 60, 371] (by decide +kernel) (by decide +kernel)
theorem oi_X3_3 : ∀ w ∈ [Cond.methodLink RX3 3 Lib.objectInit, Cond.instanceMethod Lib.objectInit, Cond.code Lib.objectInit ⟨#[0xb1]⟩ 1 none], w ∈ ms_big := ms_sub _ [99, 69, 70] (by decide +kernel) (by decide +kernel)
theorem ac_X3_28 : ∀ w ∈ [Cond.methodLink RX3 28 arraycopyName, Cond.native arraycopyName, Cond.static arraycopyName, Cond.initialized "java/lang/System"], w ∈ ms_big := ms_sub _ [792, 794, 793, 62] (by decide +kernel) (by decide +kernel)
theorem mm_X3_58 : ∀ w ∈ [Cond.methodLink RX3 58 Lib.Math.max.name, Cond.static Lib.Math.max.name, Cond.initialized "java/lang/Math", Cond.code Lib.Math.max.name Lib.Math.max.code 2 (some .int)], w ∈ ms_big := ms_sub _ [386, 370, 60, 371] (by decide +kernel) (by decide +kernel)
theorem oi_X4_3 : ∀ w ∈ [Cond.methodLink RX4 3 Lib.objectInit, Cond.instanceMethod Lib.objectInit, Cond.code Lib.objectInit ⟨#[0xb1]⟩ 1 none], w ∈ ms_big := ms_sub _ [128, 69, 70] (by decide +kernel) (by decide +kernel)
theorem oi_X6_1 : ∀ w ∈ [Cond.methodLink RX6 1 Lib.objectInit, Cond.instanceMethod Lib.objectInit, Cond.code Lib.objectInit ⟨#[0xb1]⟩ 1 none], w ∈ ms_big := ms_sub _ [858, 69, 70] (by decide +kernel) (by decide +kernel)
theorem mm_X6_61 : ∀ w ∈ [Cond.methodLink RX6 61 Lib.Math.abs.name, Cond.static Lib.Math.abs.name, Cond.initialized "java/lang/Math", Cond.code Lib.Math.abs.name Lib.Math.abs.code 1 (some .int)], w ∈ ms_big := ms_sub _ [954, 955, 60, 956] (by decide +kernel) (by decide +kernel)
theorem mm_X6_82 : ∀ w ∈ [Cond.methodLink RX6 82 Lib.Math.min.name, Cond.static Lib.Math.min.name, Cond.initialized "java/lang/Math", Cond.code Lib.Math.min.name Lib.Math.min.code 2 (some .int)], w ∈ ms_big := ms_sub _ [921, 533, 60, 534] (by decide +kernel) (by decide +kernel)
theorem mm_X6_85 : ∀ w ∈ [Cond.methodLink RX6 85 Lib.Math.max.name, Cond.static Lib.Math.max.name, Cond.initialized "java/lang/Math", Cond.code Lib.Math.max.name Lib.Math.max.code 2 (some .int)], w ∈ ms_big := ms_sub _ [922, 370, 60, 371] (by decide +kernel) (by decide +kernel)
theorem ac_X6_104 : ∀ w ∈ [Cond.methodLink RX6 104 arraycopyName, Cond.native arraycopyName, Cond.static arraycopyName, Cond.initialized "java/lang/System"], w ∈ ms_big := ms_sub _ [980, 794, 793, 62] (by decide +kernel) (by decide +kernel)
theorem aw_int : Cond.arrayClass .int ∈ ms_big := (ms_at 93 (by decide +kernel) rfl)
theorem aw_boolean : Cond.arrayClass .boolean ∈ ms_big := (ms_at 897 (by decide +kernel) rfl)
theorem aw_long : Cond.arrayClass .long ∈ ms_big := (ms_at 1112 (by decide +kernel) rfl)
theorem al_X0_18 : Cond.classLink RX0 18 "StarlingSquare$Walker" ∈ ms_big := (ms_at 122 (by decide +kernel) rfl)
theorem al_X6_74 : Cond.classLink RX6 74 "[I" ∈ ms_big := (ms_at 1001 (by decide +kernel) rfl)
theorem thw_X5_51_55 : ∀ w ∈ Cond.classLink RX5 51 "java/lang/IllegalArgumentException" :: Cond.initialized "java/lang/IllegalArgumentException" :: (vx_atS RX5 55 "java/lang/IllegalArgumentException" ms_names).filter goodWord, w ∈ ms_big := fun w h => by
  have h1 : ∀ w ∈ Cond.classLink RX5 51 "java/lang/IllegalArgumentException" :: Cond.initialized "java/lang/IllegalArgumentException" :: (vx_atS RX5 55 "java/lang/IllegalArgumentException" ms_names).filter goodWord, w ∈ lw_tbl ∧ goodWord w = true := by decide +kernel
  exact ms_big_in (h1 w h).1 (h1 w h).2
theorem thn_X5_51_55 : ∀ w ∈ (vx_atS RX5 55 "java/lang/IllegalArgumentException" ms_names).filter (fun w => !goodWord w), w ∈ Cond.castable "java/lang/IllegalArgumentException" "java/lang/IllegalArgumentException" :: ms_dcl.map Cond.declares := by decide +kernel
theorem thw_X5_66_70 : ∀ w ∈ Cond.classLink RX5 66 "java/lang/IndexOutOfBoundsException" :: Cond.initialized "java/lang/IndexOutOfBoundsException" :: (vx_atS RX5 70 "java/lang/IndexOutOfBoundsException" ms_names).filter goodWord, w ∈ ms_big := fun w h => by
  have h1 : ∀ w ∈ Cond.classLink RX5 66 "java/lang/IndexOutOfBoundsException" :: Cond.initialized "java/lang/IndexOutOfBoundsException" :: (vx_atS RX5 70 "java/lang/IndexOutOfBoundsException" ms_names).filter goodWord, w ∈ lw_tbl ∧ goodWord w = true := by decide +kernel
  exact ms_big_in (h1 w h).1 (h1 w h).2
theorem thn_X5_66_70 : ∀ w ∈ (vx_atS RX5 70 "java/lang/IndexOutOfBoundsException" ms_names).filter (fun w => !goodWord w), w ∈ Cond.castable "java/lang/IndexOutOfBoundsException" "java/lang/IndexOutOfBoundsException" :: ms_dcl.map Cond.declares := by decide +kernel
theorem thw_X5_83_87 : ∀ w ∈ Cond.classLink RX5 83 "java/lang/IllegalStateException" :: Cond.initialized "java/lang/IllegalStateException" :: (vx_atS RX5 87 "java/lang/IllegalStateException" ms_names).filter goodWord, w ∈ ms_big := fun w h => by
  have h1 : ∀ w ∈ Cond.classLink RX5 83 "java/lang/IllegalStateException" :: Cond.initialized "java/lang/IllegalStateException" :: (vx_atS RX5 87 "java/lang/IllegalStateException" ms_names).filter goodWord, w ∈ lw_tbl ∧ goodWord w = true := by decide +kernel
  exact ms_big_in (h1 w h).1 (h1 w h).2
theorem thn_X5_83_87 : ∀ w ∈ (vx_atS RX5 87 "java/lang/IllegalStateException" ms_names).filter (fun w => !goodWord w), w ∈ Cond.castable "java/lang/IllegalStateException" "java/lang/IllegalStateException" :: ms_dcl.map Cond.declares := by decide +kernel
theorem th_X5_51_53_55 : ms_okT RX5 51 53 55 "java/lang/IllegalArgumentException" "an edge is 2 to 14" := ⟨by decide +kernel, by decide +kernel, thw_X5_51_55, by decide +kernel, thn_X5_51_55, by decide +kernel⟩
theorem th_X5_51_130_55 : ms_okT RX5 51 130 55 "java/lang/IllegalArgumentException" "draw is 0 to 9, jam 1 to 20" := ⟨by decide +kernel, by decide +kernel, thw_X5_51_55, by decide +kernel, thn_X5_51_55, by decide +kernel⟩
theorem th_X5_51_138_55 : ms_okT RX5 51 138 55 "java/lang/IllegalArgumentException" "what is 0 to 3" := ⟨by decide +kernel, by decide +kernel, thw_X5_51_55, by decide +kernel, thn_X5_51_55, by decide +kernel⟩
theorem th_X5_51_154_55 : ms_okT RX5 51 154 55 "java/lang/IllegalArgumentException" "pace is 1 to 3, mood 0 to 9" := ⟨by decide +kernel, by decide +kernel, thw_X5_51_55, by decide +kernel, thn_X5_51_55, by decide +kernel⟩
theorem th_X5_51_174_55 : ms_okT RX5 51 174 55 "java/lang/IllegalArgumentException" "mood is 0 to 9" := ⟨by decide +kernel, by decide +kernel, thw_X5_51_55, by decide +kernel, thn_X5_51_55, by decide +kernel⟩
theorem th_X5_51_188_55 : ms_okT RX5 51 188 55 "java/lang/IllegalArgumentException" "ticks is 1 to 20" := ⟨by decide +kernel, by decide +kernel, thw_X5_51_55, by decide +kernel, thn_X5_51_55, by decide +kernel⟩
theorem th_X5_51_199_55 : ms_okT RX5 51 199 55 "java/lang/IllegalArgumentException" "what is 0 to 8" := ⟨by decide +kernel, by decide +kernel, thw_X5_51_55, by decide +kernel, thn_X5_51_55, by decide +kernel⟩
theorem th_X5_51_216_55 : ms_okT RX5 51 216 55 "java/lang/IllegalArgumentException" "side is 0 to 4" := ⟨by decide +kernel, by decide +kernel, thw_X5_51_55, by decide +kernel, thn_X5_51_55, by decide +kernel⟩
theorem th_X5_51_225_55 : ms_okT RX5 51 225 55 "java/lang/IllegalArgumentException" "k is below 0" := ⟨by decide +kernel, by decide +kernel, thw_X5_51_55, by decide +kernel, thn_X5_51_55, by decide +kernel⟩
theorem th_X5_51_241_55 : ms_okT RX5 51 241 55 "java/lang/IllegalArgumentException" "ticks is 1 to 60" := ⟨by decide +kernel, by decide +kernel, thw_X5_51_55, by decide +kernel, thn_X5_51_55, by decide +kernel⟩
theorem th_X5_51_249_55 : ms_okT RX5 51 249 55 "java/lang/IllegalArgumentException" "ticks is 1 to 60, draw 0 to 9" := ⟨by decide +kernel, by decide +kernel, thw_X5_51_55, by decide +kernel, thn_X5_51_55, by decide +kernel⟩
theorem th_X5_66_68_70 : ms_okT RX5 66 68 70 "java/lang/IndexOutOfBoundsException" "no such field" := ⟨by decide +kernel, by decide +kernel, thw_X5_66_70, by decide +kernel, thn_X5_66_70, by decide +kernel⟩
theorem th_X5_66_103_70 : ms_okT RX5 66 103 70 "java/lang/IndexOutOfBoundsException" "no such goal or field" := ⟨by decide +kernel, by decide +kernel, thw_X5_66_70, by decide +kernel, thn_X5_66_70, by decide +kernel⟩
theorem th_X5_66_146_70 : ms_okT RX5 66 146 70 "java/lang/IndexOutOfBoundsException" "no such goal" := ⟨by decide +kernel, by decide +kernel, thw_X5_66_70, by decide +kernel, thn_X5_66_70, by decide +kernel⟩
theorem th_X5_66_172_70 : ms_okT RX5 66 172 70 "java/lang/IndexOutOfBoundsException" "no such walker or goal" := ⟨by decide +kernel, by decide +kernel, thw_X5_66_70, by decide +kernel, thn_X5_66_70, by decide +kernel⟩
theorem th_X5_66_208_70 : ms_okT RX5 66 208 70 "java/lang/IndexOutOfBoundsException" "no such walker" := ⟨by decide +kernel, by decide +kernel, thw_X5_66_70, by decide +kernel, thn_X5_66_70, by decide +kernel⟩
theorem th_X5_66_214_70 : ms_okT RX5 66 214 70 "java/lang/IndexOutOfBoundsException" "no such walker, or it is out" := ⟨by decide +kernel, by decide +kernel, thw_X5_66_70, by decide +kernel, thn_X5_66_70, by decide +kernel⟩
theorem th_X5_83_85_87 : ms_okT RX5 83 85 87 "java/lang/IllegalStateException" "a walker is on it" := ⟨by decide +kernel, by decide +kernel, thw_X5_83_87, by decide +kernel, thn_X5_83_87, by decide +kernel⟩
theorem th_X5_83_118_87 : ms_okT RX5 83 118 87 "java/lang/IllegalStateException" "a walker with that goal is on it" := ⟨by decide +kernel, by decide +kernel, thw_X5_83_87, by decide +kernel, thn_X5_83_87, by decide +kernel⟩
theorem th_X5_83_166_87 : ms_okT RX5 83 166 87 "java/lang/IllegalStateException" "no walker can come there" := ⟨by decide +kernel, by decide +kernel, thw_X5_83_87, by decide +kernel, thn_X5_83_87, by decide +kernel⟩
theorem th_X5_83_183_87 : ms_okT RX5 83 183 87 "java/lang/IllegalStateException" "it is out, or at that goal" := ⟨by decide +kernel, by decide +kernel, thw_X5_83_87, by decide +kernel, thn_X5_83_87, by decide +kernel⟩
theorem hd_L_reset_0 : ms_hd m_L_reset "java/lang/IllegalArgumentException" 5 13 := by
  refine ⟨[], [], ⟨0, 10, 13, 13⟩, "java/lang/IllegalArgumentException", rfl, ?_, by decide, by decide, (ms_at 433 (by decide +kernel) rfl), rfl, by decide, rfl⟩
  exact fun z hz => by cases hz
theorem hd_L_wall_0 : ms_hd m_L_wall "java/lang/IndexOutOfBoundsException" 11 19 := by
  refine ⟨[], [⟨0, 16, 23, 21⟩], ⟨0, 16, 19, 19⟩, "java/lang/IndexOutOfBoundsException", rfl, ?_, by decide, by decide, (ms_at 509 (by decide +kernel) rfl), rfl, by decide, rfl⟩
  exact fun z hz => by cases hz
theorem hd_L_wall_1 : ms_hd m_L_wall "java/lang/IllegalStateException" 11 23 := by
  refine ⟨[⟨0, 16, 19, 19⟩], [], ⟨0, 16, 23, 21⟩, "java/lang/IllegalStateException", rfl, ?_, by decide, by decide, (ms_at 510 (by decide +kernel) rfl), rfl, by decide, rfl⟩
  exact by
    intro z hz
    simp only [List.mem_cons, List.not_mem_nil, or_false] at hz
    rcases hz with rfl
    · exact ⟨by decide, "java/lang/IndexOutOfBoundsException", (ms_at 509 (by decide +kernel) rfl), by decide +kernel⟩
theorem hd_L_mark_0 : ms_hd m_L_mark "java/lang/IndexOutOfBoundsException" 7 15 := by
  refine ⟨[], [⟨0, 12, 19, 21⟩], ⟨0, 12, 15, 19⟩, "java/lang/IndexOutOfBoundsException", rfl, ?_, by decide, by decide, (ms_at 509 (by decide +kernel) rfl), rfl, by decide, rfl⟩
  exact fun z hz => by cases hz
theorem hd_L_mark_1 : ms_hd m_L_mark "java/lang/IllegalStateException" 7 19 := by
  refine ⟨[⟨0, 12, 15, 19⟩], [], ⟨0, 12, 19, 21⟩, "java/lang/IllegalStateException", rfl, ?_, by decide, by decide, (ms_at 510 (by decide +kernel) rfl), rfl, by decide, rfl⟩
  exact by
    intro z hz
    simp only [List.mem_cons, List.not_mem_nil, or_false] at hz
    rcases hz with rfl
    · exact ⟨by decide, "java/lang/IndexOutOfBoundsException", (ms_at 509 (by decide +kernel) rfl), by decide +kernel⟩
theorem hd_L_set_0 : ms_hd m_L_set "java/lang/IllegalArgumentException" 5 13 := by
  refine ⟨[], [], ⟨0, 10, 13, 13⟩, "java/lang/IllegalArgumentException", rfl, ?_, by decide, by decide, (ms_at 433 (by decide +kernel) rfl), rfl, by decide, rfl⟩
  exact fun z hz => by cases hz
theorem hd_L_field_0 : ms_hd m_L_field "java/lang/IndexOutOfBoundsException" 7 15 := by
  refine ⟨[], [⟨0, 12, 19, 13⟩], ⟨0, 12, 15, 19⟩, "java/lang/IndexOutOfBoundsException", rfl, ?_, by decide, by decide, (ms_at 509 (by decide +kernel) rfl), rfl, by decide, rfl⟩
  exact fun z hz => by cases hz
theorem hd_L_field_1 : ms_hd m_L_field "java/lang/IllegalArgumentException" 7 19 := by
  refine ⟨[⟨0, 12, 15, 19⟩], [], ⟨0, 12, 19, 13⟩, "java/lang/IllegalArgumentException", rfl, ?_, by decide, by decide, (ms_at 433 (by decide +kernel) rfl), rfl, by decide, rfl⟩
  exact by
    intro z hz
    simp only [List.mem_cons, List.not_mem_nil, or_false] at hz
    rcases hz with rfl
    · exact ⟨by decide, "java/lang/IndexOutOfBoundsException", (ms_at 509 (by decide +kernel) rfl), by decide +kernel⟩
theorem hd_L_far_0 : ms_hd m_L_far "java/lang/IndexOutOfBoundsException" 7 15 := by
  refine ⟨[], [], ⟨0, 12, 15, 19⟩, "java/lang/IndexOutOfBoundsException", rfl, ?_, by decide, by decide, (ms_at 509 (by decide +kernel) rfl), rfl, by decide, rfl⟩
  exact fun z hz => by cases hz
theorem hd_L_farthest_0 : ms_hd m_L_farthest "java/lang/IndexOutOfBoundsException" 4 12 := by
  refine ⟨[], [], ⟨0, 9, 12, 19⟩, "java/lang/IndexOutOfBoundsException", rfl, ?_, by decide, by decide, (ms_at 509 (by decide +kernel) rfl), rfl, by decide, rfl⟩
  exact fun z hz => by cases hz
theorem hd_L_walker_0 : ms_hd m_L_walker "java/lang/IndexOutOfBoundsException" 11 19 := by
  refine ⟨[], [⟨0, 16, 23, 13⟩, ⟨0, 16, 27, 21⟩], ⟨0, 16, 19, 19⟩, "java/lang/IndexOutOfBoundsException", rfl, ?_, by decide, by decide, (ms_at 509 (by decide +kernel) rfl), rfl, by decide, rfl⟩
  exact fun z hz => by cases hz
theorem hd_L_walker_1 : ms_hd m_L_walker "java/lang/IllegalArgumentException" 11 23 := by
  refine ⟨[⟨0, 16, 19, 19⟩], [⟨0, 16, 27, 21⟩], ⟨0, 16, 23, 13⟩, "java/lang/IllegalArgumentException", rfl, ?_, by decide, by decide, (ms_at 433 (by decide +kernel) rfl), rfl, by decide, rfl⟩
  exact by
    intro z hz
    simp only [List.mem_cons, List.not_mem_nil, or_false] at hz
    rcases hz with rfl
    · exact ⟨by decide, "java/lang/IndexOutOfBoundsException", (ms_at 509 (by decide +kernel) rfl), by decide +kernel⟩
theorem hd_L_walker_2 : ms_hd m_L_walker "java/lang/IllegalStateException" 11 27 := by
  refine ⟨[⟨0, 16, 19, 19⟩, ⟨0, 16, 23, 13⟩], [], ⟨0, 16, 27, 21⟩, "java/lang/IllegalStateException", rfl, ?_, by decide, by decide, (ms_at 510 (by decide +kernel) rfl), rfl, by decide, rfl⟩
  exact by
    intro z hz
    simp only [List.mem_cons, List.not_mem_nil, or_false] at hz
    rcases hz with rfl | rfl
    · exact ⟨by decide, "java/lang/IndexOutOfBoundsException", (ms_at 509 (by decide +kernel) rfl), by decide +kernel⟩
    · exact ⟨by decide, "java/lang/IllegalArgumentException", (ms_at 433 (by decide +kernel) rfl), by decide +kernel⟩
theorem hd_L_turnTo_0 : ms_hd m_L_turnTo "java/lang/IndexOutOfBoundsException" 7 15 := by
  refine ⟨[], [⟨0, 12, 19, 13⟩, ⟨0, 12, 23, 21⟩], ⟨0, 12, 15, 19⟩, "java/lang/IndexOutOfBoundsException", rfl, ?_, by decide, by decide, (ms_at 509 (by decide +kernel) rfl), rfl, by decide, rfl⟩
  exact fun z hz => by cases hz
theorem hd_L_turnTo_1 : ms_hd m_L_turnTo "java/lang/IllegalArgumentException" 7 19 := by
  refine ⟨[⟨0, 12, 15, 19⟩], [⟨0, 12, 23, 21⟩], ⟨0, 12, 19, 13⟩, "java/lang/IllegalArgumentException", rfl, ?_, by decide, by decide, (ms_at 433 (by decide +kernel) rfl), rfl, by decide, rfl⟩
  exact by
    intro z hz
    simp only [List.mem_cons, List.not_mem_nil, or_false] at hz
    rcases hz with rfl
    · exact ⟨by decide, "java/lang/IndexOutOfBoundsException", (ms_at 509 (by decide +kernel) rfl), by decide +kernel⟩
theorem hd_L_turnTo_2 : ms_hd m_L_turnTo "java/lang/IllegalStateException" 7 23 := by
  refine ⟨[⟨0, 12, 15, 19⟩, ⟨0, 12, 19, 13⟩], [], ⟨0, 12, 23, 21⟩, "java/lang/IllegalStateException", rfl, ?_, by decide, by decide, (ms_at 510 (by decide +kernel) rfl), rfl, by decide, rfl⟩
  exact by
    intro z hz
    simp only [List.mem_cons, List.not_mem_nil, or_false] at hz
    rcases hz with rfl | rfl
    · exact ⟨by decide, "java/lang/IndexOutOfBoundsException", (ms_at 509 (by decide +kernel) rfl), by decide +kernel⟩
    · exact ⟨by decide, "java/lang/IllegalArgumentException", (ms_at 433 (by decide +kernel) rfl), by decide +kernel⟩
theorem hd_L_tick_0 : ms_hd m_L_tick "java/lang/IllegalArgumentException" 4 12 := by
  refine ⟨[], [], ⟨0, 9, 12, 13⟩, "java/lang/IllegalArgumentException", rfl, ?_, by decide, by decide, (ms_at 433 (by decide +kernel) rfl), rfl, by decide, rfl⟩
  exact fun z hz => by cases hz
theorem hd_L_many_0 : ms_hd m_L_many "java/lang/IllegalArgumentException" 4 12 := by
  refine ⟨[], [], ⟨0, 9, 12, 13⟩, "java/lang/IllegalArgumentException", rfl, ?_, by decide, by decide, (ms_at 433 (by decide +kernel) rfl), rfl, by decide, rfl⟩
  exact fun z hz => by cases hz
theorem hd_L_ofWalker_0 : ms_hd m_L_ofWalker "java/lang/IndexOutOfBoundsException" 5 13 := by
  refine ⟨[], [⟨0, 10, 17, 13⟩], ⟨0, 10, 13, 19⟩, "java/lang/IndexOutOfBoundsException", rfl, ?_, by decide, by decide, (ms_at 509 (by decide +kernel) rfl), rfl, by decide, rfl⟩
  exact fun z hz => by cases hz
theorem hd_L_ofWalker_1 : ms_hd m_L_ofWalker "java/lang/IllegalArgumentException" 5 17 := by
  refine ⟨[⟨0, 10, 13, 19⟩], [], ⟨0, 10, 17, 13⟩, "java/lang/IllegalArgumentException", rfl, ?_, by decide, by decide, (ms_at 433 (by decide +kernel) rfl), rfl, by decide, rfl⟩
  exact by
    intro z hz
    simp only [List.mem_cons, List.not_mem_nil, or_false] at hz
    rcases hz with rfl
    · exact ⟨by decide, "java/lang/IndexOutOfBoundsException", (ms_at 509 (by decide +kernel) rfl), by decide +kernel⟩
theorem hd_L_cost_0 : ms_hd m_L_cost "java/lang/IndexOutOfBoundsException" 5 13 := by
  refine ⟨[], [⟨0, 10, 17, 13⟩], ⟨0, 10, 13, 19⟩, "java/lang/IndexOutOfBoundsException", rfl, ?_, by decide, by decide, (ms_at 509 (by decide +kernel) rfl), rfl, by decide, rfl⟩
  exact fun z hz => by cases hz
theorem hd_L_cost_1 : ms_hd m_L_cost "java/lang/IllegalArgumentException" 5 17 := by
  refine ⟨[⟨0, 10, 13, 19⟩], [], ⟨0, 10, 17, 13⟩, "java/lang/IllegalArgumentException", rfl, ?_, by decide, by decide, (ms_at 433 (by decide +kernel) rfl), rfl, by decide, rfl⟩
  exact by
    intro z hz
    simp only [List.mem_cons, List.not_mem_nil, or_false] at hz
    rcases hz with rfl
    · exact ⟨by decide, "java/lang/IndexOutOfBoundsException", (ms_at 509 (by decide +kernel) rfl), by decide +kernel⟩
theorem hd_L_wants_0 : ms_hd m_L_wants "java/lang/IndexOutOfBoundsException" 4 12 := by
  refine ⟨[], [], ⟨0, 9, 12, 19⟩, "java/lang/IndexOutOfBoundsException", rfl, ?_, by decide, by decide, (ms_at 509 (by decide +kernel) rfl), rfl, by decide, rfl⟩
  exact fun z hz => by cases hz
theorem hd_L_way_0 : ms_hd m_L_way "java/lang/IndexOutOfBoundsException" 5 13 := by
  refine ⟨[], [⟨0, 10, 17, 13⟩], ⟨0, 10, 13, 19⟩, "java/lang/IndexOutOfBoundsException", rfl, ?_, by decide, by decide, (ms_at 509 (by decide +kernel) rfl), rfl, by decide, rfl⟩
  exact fun z hz => by cases hz
theorem hd_L_way_1 : ms_hd m_L_way "java/lang/IllegalArgumentException" 5 17 := by
  refine ⟨[⟨0, 10, 13, 19⟩], [], ⟨0, 10, 17, 13⟩, "java/lang/IllegalArgumentException", rfl, ?_, by decide, by decide, (ms_at 433 (by decide +kernel) rfl), rfl, by decide, rfl⟩
  exact by
    intro z hz
    simp only [List.mem_cons, List.not_mem_nil, or_false] at hz
    rcases hz with rfl
    · exact ⟨by decide, "java/lang/IndexOutOfBoundsException", (ms_at 509 (by decide +kernel) rfl), by decide +kernel⟩
theorem hd_L_jam_0 : ms_hd m_L_jam "java/lang/IndexOutOfBoundsException" 4 12 := by
  refine ⟨[], [], ⟨0, 9, 12, 19⟩, "java/lang/IndexOutOfBoundsException", rfl, ?_, by decide, by decide, (ms_at 509 (by decide +kernel) rfl), rfl, by decide, rfl⟩
  exact fun z hz => by cases hz
theorem hd_L_outIn_0 : ms_hd m_L_outIn "java/lang/IndexOutOfBoundsException" 5 13 := by
  refine ⟨[], [⟨0, 10, 17, 13⟩], ⟨0, 10, 13, 19⟩, "java/lang/IndexOutOfBoundsException", rfl, ?_, by decide, by decide, (ms_at 509 (by decide +kernel) rfl), rfl, by decide, rfl⟩
  exact fun z hz => by cases hz
theorem hd_L_outIn_1 : ms_hd m_L_outIn "java/lang/IllegalArgumentException" 5 17 := by
  refine ⟨[⟨0, 10, 13, 19⟩], [], ⟨0, 10, 17, 13⟩, "java/lang/IllegalArgumentException", rfl, ?_, by decide, by decide, (ms_at 433 (by decide +kernel) rfl), rfl, by decide, rfl⟩
  exact by
    intro z hz
    simp only [List.mem_cons, List.not_mem_nil, or_false] at hz
    rcases hz with rfl
    · exact ⟨by decide, "java/lang/IndexOutOfBoundsException", (ms_at 509 (by decide +kernel) rfl), by decide +kernel⟩
theorem hd_L_outWith_0 : ms_hd m_L_outWith "java/lang/IllegalArgumentException" 5 13 := by
  refine ⟨[], [], ⟨0, 10, 13, 13⟩, "java/lang/IllegalArgumentException", rfl, ?_, by decide, by decide, (ms_at 433 (by decide +kernel) rfl), rfl, by decide, rfl⟩
  exact fun z hz => by cases hz
theorem hd_L_outBy_0 : ms_hd m_L_outBy "java/lang/IndexOutOfBoundsException" 7 15 := by
  refine ⟨[], [⟨0, 12, 19, 13⟩, ⟨0, 12, 23, 21⟩], ⟨0, 12, 15, 19⟩, "java/lang/IndexOutOfBoundsException", rfl, ?_, by decide, by decide, (ms_at 509 (by decide +kernel) rfl), rfl, by decide, rfl⟩
  exact fun z hz => by cases hz
theorem hd_L_outBy_1 : ms_hd m_L_outBy "java/lang/IllegalArgumentException" 7 19 := by
  refine ⟨[⟨0, 12, 15, 19⟩], [⟨0, 12, 23, 21⟩], ⟨0, 12, 19, 13⟩, "java/lang/IllegalArgumentException", rfl, ?_, by decide, by decide, (ms_at 433 (by decide +kernel) rfl), rfl, by decide, rfl⟩
  exact by
    intro z hz
    simp only [List.mem_cons, List.not_mem_nil, or_false] at hz
    rcases hz with rfl
    · exact ⟨by decide, "java/lang/IndexOutOfBoundsException", (ms_at 509 (by decide +kernel) rfl), by decide +kernel⟩
theorem hd_L_outBy_2 : ms_hd m_L_outBy "java/lang/IllegalStateException" 7 23 := by
  refine ⟨[⟨0, 12, 15, 19⟩, ⟨0, 12, 19, 13⟩], [], ⟨0, 12, 23, 21⟩, "java/lang/IllegalStateException", rfl, ?_, by decide, by decide, (ms_at 510 (by decide +kernel) rfl), rfl, by decide, rfl⟩
  exact by
    intro z hz
    simp only [List.mem_cons, List.not_mem_nil, or_false] at hz
    rcases hz with rfl | rfl
    · exact ⟨by decide, "java/lang/IndexOutOfBoundsException", (ms_at 509 (by decide +kernel) rfl), by decide +kernel⟩
    · exact ⟨by decide, "java/lang/IllegalArgumentException", (ms_at 433 (by decide +kernel) rfl), by decide +kernel⟩
theorem hd_L_jamIn_0 : ms_hd m_L_jamIn "java/lang/IllegalArgumentException" 4 12 := by
  refine ⟨[], [], ⟨0, 9, 12, 13⟩, "java/lang/IllegalArgumentException", rfl, ?_, by decide, by decide, (ms_at 433 (by decide +kernel) rfl), rfl, by decide, rfl⟩
  exact fun z hz => by cases hz
theorem hd_L_farWith_0 : ms_hd m_L_farWith "java/lang/IndexOutOfBoundsException" 7 15 := by
  refine ⟨[], [], ⟨0, 12, 15, 19⟩, "java/lang/IndexOutOfBoundsException", rfl, ?_, by decide, by decide, (ms_at 509 (by decide +kernel) rfl), rfl, by decide, rfl⟩
  exact fun z hz => by cases hz
