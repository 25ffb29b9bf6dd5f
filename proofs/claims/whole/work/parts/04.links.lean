set_option maxRecDepth 100000 in
theorem fl_P_18 : mx_fl R_P 18 5 0 := ⟨R_P, F_P, 5, rfl, by decide, mw 229 rfl rfl, in_P⟩
set_option maxRecDepth 100000 in
theorem fF_P_18 : mx_fF R_P 18 5 0 (.int) := ⟨R_P, F_P, 5, tf_P, rfl, by decide, mw 229 rfl rfl, in_P, ty_P, nm_P, rfl, by decide +kernel, rfl⟩
set_option maxRecDepth 100000 in
theorem fl_P_22 : mx_fl R_P 22 5 1 := ⟨R_P, F_P, 5, rfl, by decide, mw 230 rfl rfl, in_P⟩
set_option maxRecDepth 100000 in
theorem fF_P_22 : mx_fF R_P 22 5 1 (.int) := ⟨R_P, F_P, 5, tf_P, rfl, by decide, mw 230 rfl rfl, in_P, ty_P, nm_P, rfl, by decide +kernel, rfl⟩
set_option maxRecDepth 100000 in
theorem fl_P_27 : mx_fl R_P 27 5 2 := ⟨R_P, F_P, 5, rfl, by decide, mw 231 rfl rfl, in_P⟩
set_option maxRecDepth 100000 in
theorem fF_P_27 : mx_fF R_P 27 5 2 (.array (.object "SlotPaxos$Replica")) := ⟨R_P, F_P, 5, tf_P, rfl, by decide, mw 231 rfl rfl, in_P, ty_P, nm_P, rfl, by decide +kernel, rfl⟩
set_option maxRecDepth 100000 in
theorem fl_P_37 : mx_fl R_P 37 5 3 := ⟨R_P, F_P, 5, rfl, by decide, mw 232 rfl rfl, in_P⟩
set_option maxRecDepth 100000 in
theorem fF_P_37 : mx_fF R_P 37 5 3 (.object "SlotPaxos$Flight") := ⟨R_P, F_P, 5, tf_P, rfl, by decide, mw 232 rfl rfl, in_P, ty_P, nm_P, rfl, by decide +kernel, rfl⟩
set_option maxRecDepth 100000 in
theorem fl_P_44 : mx_fl R_P 44 5 4 := ⟨R_P, F_P, 5, rfl, by decide, mw 233 rfl rfl, in_P⟩
set_option maxRecDepth 100000 in
theorem fF_P_44 : mx_fF R_P 44 5 4 (.object "SlotPaxos$Message") := ⟨R_P, F_P, 5, tf_P, rfl, by decide, mw 233 rfl rfl, in_P, ty_P, nm_P, rfl, by decide +kernel, rfl⟩
set_option maxRecDepth 100000 in
theorem fl_P_52 : mx_fl R_P 52 4 3 := ⟨R_R, F_R, 14, rfl, by decide, mw 122 rfl rfl, in_R⟩
set_option maxRecDepth 100000 in
theorem fw_P_52 : mx_fw R_P 52 4 3 (.boolean) := ⟨R_R, F_R, 14, tf_R, rfl, by decide, mw 122 rfl rfl, in_R, ty_R, nm_R, rfl, by decide +kernel⟩
set_option maxRecDepth 100000 in
theorem fl_P_56 : mx_fl R_P 56 4 2 := ⟨R_R, F_R, 14, rfl, by decide, mw 120 rfl rfl, in_R⟩
set_option maxRecDepth 100000 in
theorem fl_P_66 : mx_fl R_P 66 4 7 := ⟨R_R, F_R, 14, rfl, by decide, mw 130 rfl rfl, in_R⟩
set_option maxRecDepth 100000 in
theorem fw_P_66 : mx_fw R_P 66 4 7 (.int) := ⟨R_R, F_R, 14, tf_R, rfl, by decide, mw 130 rfl rfl, in_R, ty_R, nm_R, rfl, by decide +kernel⟩
set_option maxRecDepth 100000 in
theorem fl_P_76 : mx_fl R_P 76 1 1 := ⟨R_L, F_L, 2, rfl, by decide, mw 109 rfl rfl, in_L⟩
set_option maxRecDepth 100000 in
theorem fw_P_76 : mx_fw R_P 76 1 1 (.int) := ⟨R_L, F_L, 2, tf_L, rfl, by decide, mw 109 rfl rfl, in_L, ty_L, nm_L, rfl, by decide +kernel⟩
set_option maxRecDepth 100000 in
theorem fl_P_82 : mx_fl R_P 82 4 0 := ⟨R_R, F_R, 14, rfl, by decide, mw 116 rfl rfl, in_R⟩
set_option maxRecDepth 100000 in
theorem fl_P_89 : mx_fl R_P 89 0 1 := ⟨R_F, F_F, 4, rfl, by decide, mw 180 rfl rfl, in_F⟩
set_option maxRecDepth 100000 in
theorem fw_P_89 : mx_fw R_P 89 0 1 (.int) := ⟨R_F, F_F, 4, tf_F, rfl, by decide, mw 180 rfl rfl, in_F, ty_F, nm_F, rfl, by decide +kernel⟩
set_option maxRecDepth 100000 in
theorem fl_P_101 : mx_fl R_P 101 3 2 := ⟨R_M, F_M, 7, rfl, by decide, mw 204 rfl rfl, in_M⟩
set_option maxRecDepth 100000 in
theorem fw_P_101 : mx_fw R_P 101 3 2 (.int) := ⟨R_M, F_M, 7, tf_M, rfl, by decide, mw 204 rfl rfl, in_M, ty_M, nm_M, rfl, by decide +kernel⟩
set_option maxRecDepth 100000 in
theorem fl_P_108 : mx_fl R_P 108 3 0 := ⟨R_M, F_M, 7, rfl, by decide, mw 200 rfl rfl, in_M⟩
set_option maxRecDepth 100000 in
theorem fw_P_108 : mx_fw R_P 108 3 0 (.int) := ⟨R_M, F_M, 7, tf_M, rfl, by decide, mw 200 rfl rfl, in_M, ty_M, nm_M, rfl, by decide +kernel⟩
set_option maxRecDepth 100000 in
theorem fl_P_117 : mx_fl R_P 117 4 1 := ⟨R_R, F_R, 14, rfl, by decide, mw 118 rfl rfl, in_R⟩
set_option maxRecDepth 100000 in
theorem fl_P_121 : mx_fl R_P 121 2 2 := ⟨R_G, F_G, 5, rfl, by decide, mw 84 rfl rfl, in_G⟩
set_option maxRecDepth 100000 in
theorem fw_P_121 : mx_fw R_P 121 2 2 (.int) := ⟨R_G, F_G, 5, tf_G, rfl, by decide, mw 84 rfl rfl, in_G, ty_G, nm_G, rfl, by decide +kernel⟩
set_option maxRecDepth 100000 in
theorem fl_P_126 : mx_fl R_P 126 2 3 := ⟨R_G, F_G, 5, rfl, by decide, mw 86 rfl rfl, in_G⟩
set_option maxRecDepth 100000 in
theorem fw_P_126 : mx_fw R_P 126 2 3 (.int) := ⟨R_G, F_G, 5, tf_G, rfl, by decide, mw 86 rfl rfl, in_G, ty_G, nm_G, rfl, by decide +kernel⟩
set_option maxRecDepth 100000 in
theorem fl_P_133 : mx_fl R_P 133 4 4 := ⟨R_R, F_R, 14, rfl, by decide, mw 124 rfl rfl, in_R⟩
set_option maxRecDepth 100000 in
theorem fw_P_133 : mx_fw R_P 133 4 4 (.int) := ⟨R_R, F_R, 14, tf_R, rfl, by decide, mw 124 rfl rfl, in_R, ty_R, nm_R, rfl, by decide +kernel⟩
set_option maxRecDepth 100000 in
theorem fl_P_140 : mx_fl R_P 140 4 5 := ⟨R_R, F_R, 14, rfl, by decide, mw 126 rfl rfl, in_R⟩
set_option maxRecDepth 100000 in
theorem fw_P_140 : mx_fw R_P 140 4 5 (.int) := ⟨R_R, F_R, 14, tf_R, rfl, by decide, mw 126 rfl rfl, in_R, ty_R, nm_R, rfl, by decide +kernel⟩
set_option maxRecDepth 100000 in
theorem fl_P_143 : mx_fl R_P 143 4 6 := ⟨R_R, F_R, 14, rfl, by decide, mw 128 rfl rfl, in_R⟩
set_option maxRecDepth 100000 in
theorem fw_P_143 : mx_fw R_P 143 4 6 (.int) := ⟨R_R, F_R, 14, tf_R, rfl, by decide, mw 128 rfl rfl, in_R, ty_R, nm_R, rfl, by decide +kernel⟩
set_option maxRecDepth 100000 in
theorem fl_P_159 : mx_fl R_P 159 0 2 := ⟨R_F, F_F, 4, rfl, by decide, mw 182 rfl rfl, in_F⟩
set_option maxRecDepth 100000 in
theorem fw_P_159 : mx_fw R_P 159 0 2 (.int) := ⟨R_F, F_F, 4, tf_F, rfl, by decide, mw 182 rfl rfl, in_F, ty_F, nm_F, rfl, by decide +kernel⟩
set_option maxRecDepth 100000 in
theorem fl_P_162 : mx_fl R_P 162 0 3 := ⟨R_F, F_F, 4, rfl, by decide, mw 184 rfl rfl, in_F⟩
set_option maxRecDepth 100000 in
theorem fw_P_162 : mx_fw R_P 162 0 3 (.int) := ⟨R_F, F_F, 4, tf_F, rfl, by decide, mw 184 rfl rfl, in_F, ty_F, nm_F, rfl, by decide +kernel⟩
set_option maxRecDepth 100000 in
theorem fl_P_173 : mx_fl R_P 173 4 10 := ⟨R_R, F_R, 14, rfl, by decide, mw 136 rfl rfl, in_R⟩
set_option maxRecDepth 100000 in
theorem fw_P_173 : mx_fw R_P 173 4 10 (.int) := ⟨R_R, F_R, 14, tf_R, rfl, by decide, mw 136 rfl rfl, in_R, ty_R, nm_R, rfl, by decide +kernel⟩
set_option maxRecDepth 100000 in
theorem fl_P_189 : mx_fl R_P 189 4 11 := ⟨R_R, F_R, 14, rfl, by decide, mw 138 rfl rfl, in_R⟩
set_option maxRecDepth 100000 in
theorem fw_P_189 : mx_fw R_P 189 4 11 (.int) := ⟨R_R, F_R, 14, tf_R, rfl, by decide, mw 138 rfl rfl, in_R, ty_R, nm_R, rfl, by decide +kernel⟩
set_option maxRecDepth 100000 in
theorem fl_P_198 : mx_fl R_P 198 3 3 := ⟨R_M, F_M, 7, rfl, by decide, mw 207 rfl rfl, in_M⟩
set_option maxRecDepth 100000 in
theorem fw_P_198 : mx_fw R_P 198 3 3 (.int) := ⟨R_M, F_M, 7, tf_M, rfl, by decide, mw 207 rfl rfl, in_M, ty_M, nm_M, rfl, by decide +kernel⟩
set_option maxRecDepth 100000 in
theorem fl_P_225 : mx_fl R_P 225 3 4 := ⟨R_M, F_M, 7, rfl, by decide, mw 209 rfl rfl, in_M⟩
set_option maxRecDepth 100000 in
theorem fw_P_225 : mx_fw R_P 225 3 4 (.int) := ⟨R_M, F_M, 7, tf_M, rfl, by decide, mw 209 rfl rfl, in_M, ty_M, nm_M, rfl, by decide +kernel⟩
set_option maxRecDepth 100000 in
theorem fl_P_228 : mx_fl R_P 228 3 1 := ⟨R_M, F_M, 7, rfl, by decide, mw 203 rfl rfl, in_M⟩
set_option maxRecDepth 100000 in
theorem fw_P_228 : mx_fw R_P 228 3 1 (.int) := ⟨R_M, F_M, 7, tf_M, rfl, by decide, mw 203 rfl rfl, in_M, ty_M, nm_M, rfl, by decide +kernel⟩
set_option maxRecDepth 100000 in
theorem fl_P_244 : mx_fl R_P 244 4 8 := ⟨R_R, F_R, 14, rfl, by decide, mw 132 rfl rfl, in_R⟩
set_option maxRecDepth 100000 in
theorem fw_P_244 : mx_fw R_P 244 4 8 (.int) := ⟨R_R, F_R, 14, tf_R, rfl, by decide, mw 132 rfl rfl, in_R, ty_R, nm_R, rfl, by decide +kernel⟩
set_option maxRecDepth 100000 in
theorem fl_P_254 : mx_fl R_P 254 3 6 := ⟨R_M, F_M, 7, rfl, by decide, mw 213 rfl rfl, in_M⟩
set_option maxRecDepth 100000 in
theorem fw_P_254 : mx_fw R_P 254 3 6 (.int) := ⟨R_M, F_M, 7, tf_M, rfl, by decide, mw 213 rfl rfl, in_M, ty_M, nm_M, rfl, by decide +kernel⟩
set_option maxRecDepth 100000 in
theorem fl_P_257 : mx_fl R_P 257 3 5 := ⟨R_M, F_M, 7, rfl, by decide, mw 211 rfl rfl, in_M⟩
set_option maxRecDepth 100000 in
theorem fw_P_257 : mx_fw R_P 257 3 5 (.int) := ⟨R_M, F_M, 7, tf_M, rfl, by decide, mw 211 rfl rfl, in_M, ty_M, nm_M, rfl, by decide +kernel⟩
set_option maxRecDepth 100000 in
theorem fl_P_263 : mx_fl R_P 263 4 9 := ⟨R_R, F_R, 14, rfl, by decide, mw 134 rfl rfl, in_R⟩
set_option maxRecDepth 100000 in
theorem fw_P_263 : mx_fw R_P 263 4 9 (.int) := ⟨R_R, F_R, 14, tf_R, rfl, by decide, mw 134 rfl rfl, in_R, ty_R, nm_R, rfl, by decide +kernel⟩
set_option maxRecDepth 100000 in
theorem fl_P_272 : mx_fl R_P 272 4 12 := ⟨R_R, F_R, 14, rfl, by decide, mw 140 rfl rfl, in_R⟩
set_option maxRecDepth 100000 in
theorem fw_P_272 : mx_fw R_P 272 4 12 (.int) := ⟨R_R, F_R, 14, tf_R, rfl, by decide, mw 140 rfl rfl, in_R, ty_R, nm_R, rfl, by decide +kernel⟩
set_option maxRecDepth 100000 in
theorem fl_P_275 : mx_fl R_P 275 4 13 := ⟨R_R, F_R, 14, rfl, by decide, mw 142 rfl rfl, in_R⟩
set_option maxRecDepth 100000 in
theorem fw_P_275 : mx_fw R_P 275 4 13 (.int) := ⟨R_R, F_R, 14, tf_R, rfl, by decide, mw 142 rfl rfl, in_R, ty_R, nm_R, rfl, by decide +kernel⟩
set_option maxRecDepth 100000 in
theorem fl_F_11 : mx_fl R_F 11 0 0 := ⟨R_F, F_F, 4, rfl, by decide, mw 178 rfl rfl, in_F⟩
set_option maxRecDepth 100000 in
theorem fF_F_11 : mx_fF R_F 11 0 0 (.array .int) := ⟨R_F, F_F, 4, tf_F, rfl, by decide, mw 178 rfl rfl, in_F, ty_F, nm_F, rfl, by decide +kernel, rfl⟩
set_option maxRecDepth 100000 in
theorem fl_F_15 : mx_fl R_F 15 0 1 := ⟨R_F, F_F, 4, rfl, by decide, mw 179 rfl rfl, in_F⟩
set_option maxRecDepth 100000 in
theorem fw_F_15 : mx_fw R_F 15 0 1 (.int) := ⟨R_F, F_F, 4, tf_F, rfl, by decide, mw 179 rfl rfl, in_F, ty_F, nm_F, rfl, by decide +kernel⟩
set_option maxRecDepth 100000 in
theorem fl_F_23 : mx_fl R_F 23 0 2 := ⟨R_F, F_F, 4, rfl, by decide, mw 181 rfl rfl, in_F⟩
set_option maxRecDepth 100000 in
theorem fw_F_23 : mx_fw R_F 23 0 2 (.int) := ⟨R_F, F_F, 4, tf_F, rfl, by decide, mw 181 rfl rfl, in_F, ty_F, nm_F, rfl, by decide +kernel⟩
set_option maxRecDepth 100000 in
theorem fl_F_26 : mx_fl R_F 26 0 3 := ⟨R_F, F_F, 4, rfl, by decide, mw 183 rfl rfl, in_F⟩
set_option maxRecDepth 100000 in
theorem fw_F_26 : mx_fw R_F 26 0 3 (.int) := ⟨R_F, F_F, 4, tf_F, rfl, by decide, mw 183 rfl rfl, in_F, ty_F, nm_F, rfl, by decide +kernel⟩
set_option maxRecDepth 100000 in
theorem fl_F_33 : mx_fl R_F 33 3 0 := ⟨R_M, F_M, 7, rfl, by decide, mw 201 rfl rfl, in_M⟩
set_option maxRecDepth 100000 in
theorem fw_F_33 : mx_fw R_F 33 3 0 (.int) := ⟨R_M, F_M, 7, tf_M, rfl, by decide, mw 201 rfl rfl, in_M, ty_M, nm_M, rfl, by decide +kernel⟩
set_option maxRecDepth 100000 in
theorem fl_F_38 : mx_fl R_F 38 3 1 := ⟨R_M, F_M, 7, rfl, by decide, mw 202 rfl rfl, in_M⟩
set_option maxRecDepth 100000 in
theorem fw_F_38 : mx_fw R_F 38 3 1 (.int) := ⟨R_M, F_M, 7, tf_M, rfl, by decide, mw 202 rfl rfl, in_M, ty_M, nm_M, rfl, by decide +kernel⟩
set_option maxRecDepth 100000 in
theorem fl_F_41 : mx_fl R_F 41 3 2 := ⟨R_M, F_M, 7, rfl, by decide, mw 205 rfl rfl, in_M⟩
set_option maxRecDepth 100000 in
theorem fw_F_41 : mx_fw R_F 41 3 2 (.int) := ⟨R_M, F_M, 7, tf_M, rfl, by decide, mw 205 rfl rfl, in_M, ty_M, nm_M, rfl, by decide +kernel⟩
set_option maxRecDepth 100000 in
theorem fl_F_44 : mx_fl R_F 44 3 3 := ⟨R_M, F_M, 7, rfl, by decide, mw 206 rfl rfl, in_M⟩
set_option maxRecDepth 100000 in
theorem fw_F_44 : mx_fw R_F 44 3 3 (.int) := ⟨R_M, F_M, 7, tf_M, rfl, by decide, mw 206 rfl rfl, in_M, ty_M, nm_M, rfl, by decide +kernel⟩
set_option maxRecDepth 100000 in
theorem fl_F_47 : mx_fl R_F 47 3 4 := ⟨R_M, F_M, 7, rfl, by decide, mw 208 rfl rfl, in_M⟩
set_option maxRecDepth 100000 in
theorem fw_F_47 : mx_fw R_F 47 3 4 (.int) := ⟨R_M, F_M, 7, tf_M, rfl, by decide, mw 208 rfl rfl, in_M, ty_M, nm_M, rfl, by decide +kernel⟩
set_option maxRecDepth 100000 in
theorem fl_F_50 : mx_fl R_F 50 3 5 := ⟨R_M, F_M, 7, rfl, by decide, mw 210 rfl rfl, in_M⟩
set_option maxRecDepth 100000 in
theorem fw_F_50 : mx_fw R_F 50 3 5 (.int) := ⟨R_M, F_M, 7, tf_M, rfl, by decide, mw 210 rfl rfl, in_M, ty_M, nm_M, rfl, by decide +kernel⟩
set_option maxRecDepth 100000 in
theorem fl_F_53 : mx_fl R_F 53 3 6 := ⟨R_M, F_M, 7, rfl, by decide, mw 212 rfl rfl, in_M⟩
set_option maxRecDepth 100000 in
theorem fw_F_53 : mx_fw R_F 53 3 6 (.int) := ⟨R_M, F_M, 7, tf_M, rfl, by decide, mw 212 rfl rfl, in_M, ty_M, nm_M, rfl, by decide +kernel⟩
set_option maxRecDepth 100000 in
theorem fl_L_9 : mx_fl R_L 9 1 0 := ⟨R_L, F_L, 2, rfl, by decide, mw 106 rfl rfl, in_L⟩
set_option maxRecDepth 100000 in
theorem fF_L_9 : mx_fF R_L 9 1 0 (.array .int) := ⟨R_L, F_L, 2, tf_L, rfl, by decide, mw 106 rfl rfl, in_L, ty_L, nm_L, rfl, by decide +kernel, rfl⟩
set_option maxRecDepth 100000 in
theorem fl_L_15 : mx_fl R_L 15 1 1 := ⟨R_L, F_L, 2, rfl, by decide, mw 107 rfl rfl, in_L⟩
set_option maxRecDepth 100000 in
theorem fw_L_15 : mx_fw R_L 15 1 1 (.int) := ⟨R_L, F_L, 2, tf_L, rfl, by decide, mw 107 rfl rfl, in_L, ty_L, nm_L, rfl, by decide +kernel⟩
set_option maxRecDepth 100000 in
theorem fl_G_9 : mx_fl R_G 9 2 0 := ⟨R_G, F_G, 5, rfl, by decide, mw 80 rfl rfl, in_G⟩
set_option maxRecDepth 100000 in
theorem fF_G_9 : mx_fF R_G 9 2 0 (.int) := ⟨R_G, F_G, 5, tf_G, rfl, by decide, mw 80 rfl rfl, in_G, ty_G, nm_G, rfl, by decide +kernel, rfl⟩
set_option maxRecDepth 100000 in
theorem fl_G_15 : mx_fl R_G 15 2 1 := ⟨R_G, F_G, 5, rfl, by decide, mw 81 rfl rfl, in_G⟩
set_option maxRecDepth 100000 in
theorem fF_G_15 : mx_fF R_G 15 2 1 (.array .int) := ⟨R_G, F_G, 5, tf_G, rfl, by decide, mw 81 rfl rfl, in_G, ty_G, nm_G, rfl, by decide +kernel, rfl⟩
set_option maxRecDepth 100000 in
theorem fl_G_19 : mx_fl R_G 19 2 4 := ⟨R_G, F_G, 5, rfl, by decide, mw 87 rfl rfl, in_G⟩
set_option maxRecDepth 100000 in
theorem fw_G_19 : mx_fw R_G 19 2 4 (.int) := ⟨R_G, F_G, 5, tf_G, rfl, by decide, mw 87 rfl rfl, in_G, ty_G, nm_G, rfl, by decide +kernel⟩
set_option maxRecDepth 100000 in
theorem fl_G_22 : mx_fl R_G 22 2 2 := ⟨R_G, F_G, 5, rfl, by decide, mw 82 rfl rfl, in_G⟩
set_option maxRecDepth 100000 in
theorem fw_G_22 : mx_fw R_G 22 2 2 (.int) := ⟨R_G, F_G, 5, tf_G, rfl, by decide, mw 82 rfl rfl, in_G, ty_G, nm_G, rfl, by decide +kernel⟩
set_option maxRecDepth 100000 in
theorem fl_G_39 : mx_fl R_G 39 2 3 := ⟨R_G, F_G, 5, rfl, by decide, mw 85 rfl rfl, in_G⟩
set_option maxRecDepth 100000 in
theorem fw_G_39 : mx_fw R_G 39 2 3 (.int) := ⟨R_G, F_G, 5, tf_G, rfl, by decide, mw 85 rfl rfl, in_G, ty_G, nm_G, rfl, by decide +kernel⟩
set_option maxRecDepth 100000 in
theorem fl_R_9 : mx_fl R_R 9 4 0 := ⟨R_R, F_R, 14, rfl, by decide, mw 115 rfl rfl, in_R⟩
set_option maxRecDepth 100000 in
theorem fF_R_9 : mx_fF R_R 9 4 0 (.int) := ⟨R_R, F_R, 14, tf_R, rfl, by decide, mw 115 rfl rfl, in_R, ty_R, nm_R, rfl, by decide +kernel, rfl⟩
set_option maxRecDepth 100000 in
theorem fl_R_20 : mx_fl R_R 20 4 1 := ⟨R_R, F_R, 14, rfl, by decide, mw 117 rfl rfl, in_R⟩
set_option maxRecDepth 100000 in
theorem fF_R_20 : mx_fF R_R 20 4 1 (.object "SlotPaxos$Log") := ⟨R_R, F_R, 14, tf_R, rfl, by decide, mw 117 rfl rfl, in_R, ty_R, nm_R, rfl, by decide +kernel, rfl⟩
set_option maxRecDepth 100000 in
theorem fl_R_27 : mx_fl R_R 27 4 2 := ⟨R_R, F_R, 14, rfl, by decide, mw 119 rfl rfl, in_R⟩
set_option maxRecDepth 100000 in
theorem fF_R_27 : mx_fF R_R 27 4 2 (.object "SlotPaxos$Line") := ⟨R_R, F_R, 14, tf_R, rfl, by decide, mw 119 rfl rfl, in_R, ty_R, nm_R, rfl, by decide +kernel, rfl⟩
set_option maxRecDepth 100000 in
theorem fl_R_31 : mx_fl R_R 31 4 3 := ⟨R_R, F_R, 14, rfl, by decide, mw 121 rfl rfl, in_R⟩
set_option maxRecDepth 100000 in
theorem fw_R_31 : mx_fw R_R 31 4 3 (.boolean) := ⟨R_R, F_R, 14, tf_R, rfl, by decide, mw 121 rfl rfl, in_R, ty_R, nm_R, rfl, by decide +kernel⟩
set_option maxRecDepth 100000 in
theorem fl_R_38 : mx_fl R_R 38 4 4 := ⟨R_R, F_R, 14, rfl, by decide, mw 123 rfl rfl, in_R⟩
set_option maxRecDepth 100000 in
theorem fw_R_38 : mx_fw R_R 38 4 4 (.int) := ⟨R_R, F_R, 14, tf_R, rfl, by decide, mw 123 rfl rfl, in_R, ty_R, nm_R, rfl, by decide +kernel⟩
set_option maxRecDepth 100000 in
theorem fl_R_41 : mx_fl R_R 41 4 11 := ⟨R_R, F_R, 14, rfl, by decide, mw 137 rfl rfl, in_R⟩
set_option maxRecDepth 100000 in
theorem fw_R_41 : mx_fw R_R 41 4 11 (.int) := ⟨R_R, F_R, 14, tf_R, rfl, by decide, mw 137 rfl rfl, in_R, ty_R, nm_R, rfl, by decide +kernel⟩
set_option maxRecDepth 100000 in
theorem fl_R_44 : mx_fl R_R 44 1 1 := ⟨R_L, F_L, 2, rfl, by decide, mw 108 rfl rfl, in_L⟩
set_option maxRecDepth 100000 in
theorem fw_R_44 : mx_fw R_R 44 1 1 (.int) := ⟨R_L, F_L, 2, tf_L, rfl, by decide, mw 108 rfl rfl, in_L, ty_L, nm_L, rfl, by decide +kernel⟩
set_option maxRecDepth 100000 in
theorem fl_R_47 : mx_fl R_R 47 4 7 := ⟨R_R, F_R, 14, rfl, by decide, mw 129 rfl rfl, in_R⟩
set_option maxRecDepth 100000 in
theorem fw_R_47 : mx_fw R_R 47 4 7 (.int) := ⟨R_R, F_R, 14, tf_R, rfl, by decide, mw 129 rfl rfl, in_R, ty_R, nm_R, rfl, by decide +kernel⟩
set_option maxRecDepth 100000 in
theorem fl_R_50 : mx_fl R_R 50 4 8 := ⟨R_R, F_R, 14, rfl, by decide, mw 131 rfl rfl, in_R⟩
set_option maxRecDepth 100000 in
theorem fw_R_50 : mx_fw R_R 50 4 8 (.int) := ⟨R_R, F_R, 14, tf_R, rfl, by decide, mw 131 rfl rfl, in_R, ty_R, nm_R, rfl, by decide +kernel⟩
set_option maxRecDepth 100000 in
theorem fl_R_53 : mx_fl R_R 53 4 9 := ⟨R_R, F_R, 14, rfl, by decide, mw 133 rfl rfl, in_R⟩
set_option maxRecDepth 100000 in
theorem fw_R_53 : mx_fw R_R 53 4 9 (.int) := ⟨R_R, F_R, 14, tf_R, rfl, by decide, mw 133 rfl rfl, in_R, ty_R, nm_R, rfl, by decide +kernel⟩
set_option maxRecDepth 100000 in
theorem fl_R_56 : mx_fl R_R 56 4 10 := ⟨R_R, F_R, 14, rfl, by decide, mw 135 rfl rfl, in_R⟩
set_option maxRecDepth 100000 in
theorem fw_R_56 : mx_fw R_R 56 4 10 (.int) := ⟨R_R, F_R, 14, tf_R, rfl, by decide, mw 135 rfl rfl, in_R, ty_R, nm_R, rfl, by decide +kernel⟩
set_option maxRecDepth 100000 in
theorem fl_R_59 : mx_fl R_R 59 4 5 := ⟨R_R, F_R, 14, rfl, by decide, mw 125 rfl rfl, in_R⟩
set_option maxRecDepth 100000 in
theorem fw_R_59 : mx_fw R_R 59 4 5 (.int) := ⟨R_R, F_R, 14, tf_R, rfl, by decide, mw 125 rfl rfl, in_R, ty_R, nm_R, rfl, by decide +kernel⟩
set_option maxRecDepth 100000 in
theorem fl_R_62 : mx_fl R_R 62 4 12 := ⟨R_R, F_R, 14, rfl, by decide, mw 139 rfl rfl, in_R⟩
set_option maxRecDepth 100000 in
theorem fw_R_62 : mx_fw R_R 62 4 12 (.int) := ⟨R_R, F_R, 14, tf_R, rfl, by decide, mw 139 rfl rfl, in_R, ty_R, nm_R, rfl, by decide +kernel⟩
set_option maxRecDepth 100000 in
theorem fl_R_65 : mx_fl R_R 65 4 6 := ⟨R_R, F_R, 14, rfl, by decide, mw 127 rfl rfl, in_R⟩
set_option maxRecDepth 100000 in
theorem fw_R_65 : mx_fw R_R 65 4 6 (.int) := ⟨R_R, F_R, 14, tf_R, rfl, by decide, mw 127 rfl rfl, in_R, ty_R, nm_R, rfl, by decide +kernel⟩
set_option maxRecDepth 100000 in
theorem fl_R_68 : mx_fl R_R 68 4 13 := ⟨R_R, F_R, 14, rfl, by decide, mw 141 rfl rfl, in_R⟩
set_option maxRecDepth 100000 in
theorem fw_R_68 : mx_fw R_R 68 4 13 (.int) := ⟨R_R, F_R, 14, tf_R, rfl, by decide, mw 141 rfl rfl, in_R, ty_R, nm_R, rfl, by decide +kernel⟩
set_option maxRecDepth 100000 in
theorem fl_R_71 : mx_fl R_R 71 2 2 := ⟨R_G, F_G, 5, rfl, by decide, mw 83 rfl rfl, in_G⟩
set_option maxRecDepth 100000 in
theorem fw_R_71 : mx_fw R_R 71 2 2 (.int) := ⟨R_G, F_G, 5, tf_G, rfl, by decide, mw 83 rfl rfl, in_G, ty_G, nm_G, rfl, by decide +kernel⟩
set_option maxRecDepth 100000 in
theorem fl_T_7 : mx_fl R_T 7 6 3 := ⟨R_T, F_T, 24, rfl, by decide, mw 526 rfl rfl, in_T⟩
set_option maxRecDepth 100000 in
theorem fF_T_7 : mx_fF R_T 7 6 3 (.array .boolean) := ⟨R_T, F_T, 24, tf_T, rfl, by decide, mw 526 rfl rfl, in_T, ty_T, nm_T, rfl, by decide +kernel, rfl⟩
set_option maxRecDepth 100000 in
theorem fl_T_13 : mx_fl R_T 13 6 4 := ⟨R_T, F_T, 24, rfl, by decide, mw 527 rfl rfl, in_T⟩
set_option maxRecDepth 100000 in
theorem fF_T_13 : mx_fF R_T 13 6 4 (.array .int) := ⟨R_T, F_T, 24, tf_T, rfl, by decide, mw 527 rfl rfl, in_T, ty_T, nm_T, rfl, by decide +kernel, rfl⟩
set_option maxRecDepth 100000 in
theorem fl_T_17 : mx_fl R_T 17 6 5 := ⟨R_T, F_T, 24, rfl, by decide, mw 528 rfl rfl, in_T⟩
set_option maxRecDepth 100000 in
theorem fF_T_17 : mx_fF R_T 17 6 5 (.array .int) := ⟨R_T, F_T, 24, tf_T, rfl, by decide, mw 528 rfl rfl, in_T, ty_T, nm_T, rfl, by decide +kernel, rfl⟩
set_option maxRecDepth 100000 in
theorem fl_T_20 : mx_fl R_T 20 6 6 := ⟨R_T, F_T, 24, rfl, by decide, mw 529 rfl rfl, in_T⟩
set_option maxRecDepth 100000 in
theorem fF_T_20 : mx_fF R_T 20 6 6 (.array .int) := ⟨R_T, F_T, 24, tf_T, rfl, by decide, mw 529 rfl rfl, in_T, ty_T, nm_T, rfl, by decide +kernel, rfl⟩
set_option maxRecDepth 100000 in
theorem fl_T_23 : mx_fl R_T 23 6 7 := ⟨R_T, F_T, 24, rfl, by decide, mw 530 rfl rfl, in_T⟩
set_option maxRecDepth 100000 in
theorem fF_T_23 : mx_fF R_T 23 6 7 (.array .int) := ⟨R_T, F_T, 24, tf_T, rfl, by decide, mw 530 rfl rfl, in_T, ty_T, nm_T, rfl, by decide +kernel, rfl⟩
set_option maxRecDepth 100000 in
theorem fl_T_26 : mx_fl R_T 26 6 8 := ⟨R_T, F_T, 24, rfl, by decide, mw 531 rfl rfl, in_T⟩
set_option maxRecDepth 100000 in
theorem fF_T_26 : mx_fF R_T 26 6 8 (.array .int) := ⟨R_T, F_T, 24, tf_T, rfl, by decide, mw 531 rfl rfl, in_T, ty_T, nm_T, rfl, by decide +kernel, rfl⟩
set_option maxRecDepth 100000 in
theorem fl_T_29 : mx_fl R_T 29 6 9 := ⟨R_T, F_T, 24, rfl, by decide, mw 532 rfl rfl, in_T⟩
set_option maxRecDepth 100000 in
theorem fF_T_29 : mx_fF R_T 29 6 9 (.array .int) := ⟨R_T, F_T, 24, tf_T, rfl, by decide, mw 532 rfl rfl, in_T, ty_T, nm_T, rfl, by decide +kernel, rfl⟩
set_option maxRecDepth 100000 in
theorem fl_T_32 : mx_fl R_T 32 6 10 := ⟨R_T, F_T, 24, rfl, by decide, mw 533 rfl rfl, in_T⟩
set_option maxRecDepth 100000 in
theorem fF_T_32 : mx_fF R_T 32 6 10 (.array .int) := ⟨R_T, F_T, 24, tf_T, rfl, by decide, mw 533 rfl rfl, in_T, ty_T, nm_T, rfl, by decide +kernel, rfl⟩
set_option maxRecDepth 100000 in
theorem fl_T_35 : mx_fl R_T 35 6 11 := ⟨R_T, F_T, 24, rfl, by decide, mw 534 rfl rfl, in_T⟩
set_option maxRecDepth 100000 in
theorem fF_T_35 : mx_fF R_T 35 6 11 (.array .int) := ⟨R_T, F_T, 24, tf_T, rfl, by decide, mw 534 rfl rfl, in_T, ty_T, nm_T, rfl, by decide +kernel, rfl⟩
set_option maxRecDepth 100000 in
theorem fl_T_38 : mx_fl R_T 38 6 12 := ⟨R_T, F_T, 24, rfl, by decide, mw 535 rfl rfl, in_T⟩
set_option maxRecDepth 100000 in
theorem fF_T_38 : mx_fF R_T 38 6 12 (.array .int) := ⟨R_T, F_T, 24, tf_T, rfl, by decide, mw 535 rfl rfl, in_T, ty_T, nm_T, rfl, by decide +kernel, rfl⟩
set_option maxRecDepth 100000 in
theorem fl_T_41 : mx_fl R_T 41 6 13 := ⟨R_T, F_T, 24, rfl, by decide, mw 536 rfl rfl, in_T⟩
set_option maxRecDepth 100000 in
theorem fF_T_41 : mx_fF R_T 41 6 13 (.array .int) := ⟨R_T, F_T, 24, tf_T, rfl, by decide, mw 536 rfl rfl, in_T, ty_T, nm_T, rfl, by decide +kernel, rfl⟩
set_option maxRecDepth 100000 in
theorem fl_T_44 : mx_fl R_T 44 6 14 := ⟨R_T, F_T, 24, rfl, by decide, mw 537 rfl rfl, in_T⟩
set_option maxRecDepth 100000 in
theorem fF_T_44 : mx_fF R_T 44 6 14 (.array .int) := ⟨R_T, F_T, 24, tf_T, rfl, by decide, mw 537 rfl rfl, in_T, ty_T, nm_T, rfl, by decide +kernel, rfl⟩
set_option maxRecDepth 100000 in
theorem fl_T_47 : mx_fl R_T 47 6 15 := ⟨R_T, F_T, 24, rfl, by decide, mw 538 rfl rfl, in_T⟩
set_option maxRecDepth 100000 in
theorem fF_T_47 : mx_fF R_T 47 6 15 (.array .int) := ⟨R_T, F_T, 24, tf_T, rfl, by decide, mw 538 rfl rfl, in_T, ty_T, nm_T, rfl, by decide +kernel, rfl⟩
set_option maxRecDepth 100000 in
theorem fl_T_50 : mx_fl R_T 50 6 16 := ⟨R_T, F_T, 24, rfl, by decide, mw 539 rfl rfl, in_T⟩
set_option maxRecDepth 100000 in
theorem fF_T_50 : mx_fF R_T 50 6 16 (.array .int) := ⟨R_T, F_T, 24, tf_T, rfl, by decide, mw 539 rfl rfl, in_T, ty_T, nm_T, rfl, by decide +kernel, rfl⟩
set_option maxRecDepth 100000 in
theorem fl_T_53 : mx_fl R_T 53 6 17 := ⟨R_T, F_T, 24, rfl, by decide, mw 540 rfl rfl, in_T⟩
set_option maxRecDepth 100000 in
theorem fF_T_53 : mx_fF R_T 53 6 17 (.array .int) := ⟨R_T, F_T, 24, tf_T, rfl, by decide, mw 540 rfl rfl, in_T, ty_T, nm_T, rfl, by decide +kernel, rfl⟩
set_option maxRecDepth 100000 in
theorem fl_T_56 : mx_fl R_T 56 6 18 := ⟨R_T, F_T, 24, rfl, by decide, mw 541 rfl rfl, in_T⟩
set_option maxRecDepth 100000 in
theorem fF_T_56 : mx_fF R_T 56 6 18 (.array .int) := ⟨R_T, F_T, 24, tf_T, rfl, by decide, mw 541 rfl rfl, in_T, ty_T, nm_T, rfl, by decide +kernel, rfl⟩
set_option maxRecDepth 100000 in
theorem fl_T_59 : mx_fl R_T 59 6 19 := ⟨R_T, F_T, 24, rfl, by decide, mw 542 rfl rfl, in_T⟩
set_option maxRecDepth 100000 in
theorem fF_T_59 : mx_fF R_T 59 6 19 (.array .int) := ⟨R_T, F_T, 24, tf_T, rfl, by decide, mw 542 rfl rfl, in_T, ty_T, nm_T, rfl, by decide +kernel, rfl⟩
set_option maxRecDepth 100000 in
theorem fl_T_62 : mx_fl R_T 62 6 20 := ⟨R_T, F_T, 24, rfl, by decide, mw 543 rfl rfl, in_T⟩
set_option maxRecDepth 100000 in
theorem fF_T_62 : mx_fF R_T 62 6 20 (.array .int) := ⟨R_T, F_T, 24, tf_T, rfl, by decide, mw 543 rfl rfl, in_T, ty_T, nm_T, rfl, by decide +kernel, rfl⟩
set_option maxRecDepth 100000 in
theorem fl_T_65 : mx_fl R_T 65 6 1 := ⟨R_T, F_T, 24, rfl, by decide, mw 524 rfl rfl, in_T⟩
set_option maxRecDepth 100000 in
theorem fF_T_65 : mx_fF R_T 65 6 1 (.int) := ⟨R_T, F_T, 24, tf_T, rfl, by decide, mw 524 rfl rfl, in_T, ty_T, nm_T, rfl, by decide +kernel, rfl⟩
set_option maxRecDepth 100000 in
theorem fl_T_69 : mx_fl R_T 69 6 2 := ⟨R_T, F_T, 24, rfl, by decide, mw 525 rfl rfl, in_T⟩
set_option maxRecDepth 100000 in
theorem fF_T_69 : mx_fF R_T 69 6 2 (.int) := ⟨R_T, F_T, 24, tf_T, rfl, by decide, mw 525 rfl rfl, in_T, ty_T, nm_T, rfl, by decide +kernel, rfl⟩
set_option maxRecDepth 100000 in
theorem fl_T_72 : mx_fl R_T 72 6 0 := ⟨R_T, F_T, 24, rfl, by decide, mw 523 rfl rfl, in_T⟩
set_option maxRecDepth 100000 in
theorem fw_T_72 : mx_fw R_T 72 6 0 (.int) := ⟨R_T, F_T, 24, tf_T, rfl, by decide, mw 523 rfl rfl, in_T, ty_T, nm_T, rfl, by decide +kernel⟩
set_option maxRecDepth 100000 in
theorem fl_T_79 : mx_fl R_T 79 6 22 := ⟨R_T, F_T, 24, rfl, by decide, mw 545 rfl rfl, in_T⟩
set_option maxRecDepth 100000 in
theorem fw_T_79 : mx_fw R_T 79 6 22 (.int) := ⟨R_T, F_T, 24, tf_T, rfl, by decide, mw 545 rfl rfl, in_T, ty_T, nm_T, rfl, by decide +kernel⟩
set_option maxRecDepth 100000 in
theorem fl_T_82 : mx_fl R_T 82 6 21 := ⟨R_T, F_T, 24, rfl, by decide, mw 544 rfl rfl, in_T⟩
set_option maxRecDepth 100000 in
theorem fw_T_82 : mx_fw R_T 82 6 21 (.int) := ⟨R_T, F_T, 24, tf_T, rfl, by decide, mw 544 rfl rfl, in_T, ty_T, nm_T, rfl, by decide +kernel⟩
set_option maxRecDepth 100000 in
theorem fl_T_85 : mx_fl R_T 85 6 23 := ⟨R_T, F_T, 24, rfl, by decide, mw 546 rfl rfl, in_T⟩
set_option maxRecDepth 100000 in
theorem fw_T_85 : mx_fw R_T 85 6 23 (.int) := ⟨R_T, F_T, 24, tf_T, rfl, by decide, mw 546 rfl rfl, in_T, ty_T, nm_T, rfl, by decide +kernel⟩
set_option maxRecDepth 100000 in
theorem cb_P_31 : mx_cB R_P 31 y_R_init b_R_init 3 none 2 := ⟨mw 70 rfl rfl, mw 45 rfl rfl, mw 72 rfl rfl, by decide +kernel⟩
set_option maxRecDepth 100000 in
theorem ci_R_init : y_R_init.name = "<init>" ∧ Cond.instanceMethod y_R_init ∈ mx_tbl := ⟨rfl, mw 71 rfl rfl⟩
set_option maxRecDepth 100000 in
theorem cb_P_36 : mx_cB R_P 36 y_F_init b_F_init 1 none 0 := ⟨mw 174 rfl rfl, mw 48 rfl rfl, mw 176 rfl rfl, by decide +kernel⟩
set_option maxRecDepth 100000 in
theorem ci_F_init : y_F_init.name = "<init>" ∧ Cond.instanceMethod y_F_init ∈ mx_tbl := ⟨rfl, mw 175 rfl rfl⟩
set_option maxRecDepth 100000 in
theorem cb_P_48 : mx_cB R_P 48 y_P_find b_P_find 2 (some (.object "SlotPaxos$Replica")) 1 := ⟨mw 249 rfl rfl, mw 43 rfl rfl, mw 252 rfl rfl, by decide +kernel⟩
set_option maxRecDepth 100000 in
theorem cv_P_find : mx_cV y_P_find := ⟨mw 251 rfl rfl, mw 0 rfl rfl⟩
set_option maxRecDepth 100000 in
theorem cb_P_60 : mx_cB R_P 60 y_L_add b_L_add 2 (some (.boolean)) 1 := ⟨mw 253 rfl rfl, mw 47 rfl rfl, mw 256 rfl rfl, by decide +kernel⟩
set_option maxRecDepth 100000 in
theorem cv_L_add : mx_cV y_L_add := ⟨mw 254 rfl rfl, mw 255 rfl rfl⟩
set_option maxRecDepth 100000 in
theorem cb_P_69 : mx_cB R_P 69 y_P_tickLeader b_P_tickLeader 2 none 1 := ⟨mw 261 rfl rfl, mw 43 rfl rfl, mw 264 rfl rfl, by decide +kernel⟩
set_option maxRecDepth 100000 in
theorem cv_P_tickLeader : mx_cV y_P_tickLeader := ⟨mw 263 rfl rfl, mw 1 rfl rfl⟩
set_option maxRecDepth 100000 in
theorem cb_P_73 : mx_cB R_P 73 y_P_sendPrepare b_P_sendPrepare 2 none 1 := ⟨mw 297 rfl rfl, mw 43 rfl rfl, mw 300 rfl rfl, by decide +kernel⟩
set_option maxRecDepth 100000 in
theorem cv_P_sendPrepare : mx_cV y_P_sendPrepare := ⟨mw 299 rfl rfl, mw 6 rfl rfl⟩
set_option maxRecDepth 100000 in
theorem cb_P_79 : mx_cB R_P 79 y_P_campaign b_P_campaign 2 none 1 := ⟨mw 301 rfl rfl, mw 43 rfl rfl, mw 304 rfl rfl, by decide +kernel⟩
set_option maxRecDepth 100000 in
theorem cv_P_campaign : mx_cV y_P_campaign := ⟨mw 303 rfl rfl, mw 7 rfl rfl⟩
set_option maxRecDepth 100000 in
theorem cb_P_85 : mx_cB R_P 85 y_P_ask b_P_ask 3 none 2 := ⟨mw 313 rfl rfl, mw 43 rfl rfl, mw 316 rfl rfl, by decide +kernel⟩
set_option maxRecDepth 100000 in
theorem cv_P_ask : mx_cV y_P_ask := ⟨mw 315 rfl rfl, mw 9 rfl rfl⟩
set_option maxRecDepth 100000 in
theorem cb_P_90 : mx_cB R_P 90 y_F_has b_F_has 2 (some (.boolean)) 1 := ⟨mw 321 rfl rfl, mw 48 rfl rfl, mw 324 rfl rfl, by decide +kernel⟩
set_option maxRecDepth 100000 in
theorem cv_F_has : mx_cV y_F_has := ⟨mw 322 rfl rfl, mw 323 rfl rfl⟩
set_option maxRecDepth 100000 in
theorem cb_P_93 : mx_cB R_P 93 y_F_read b_F_read 3 none 2 := ⟨mw 325 rfl rfl, mw 48 rfl rfl, mw 328 rfl rfl, by decide +kernel⟩
set_option maxRecDepth 100000 in
theorem cv_F_read : mx_cV y_F_read := ⟨mw 326 rfl rfl, mw 327 rfl rfl⟩
set_option maxRecDepth 100000 in
theorem cb_P_97 : mx_cB R_P 97 y_F_remove b_F_remove 3 none 1 := ⟨mw 334 rfl rfl, mw 48 rfl rfl, mw 337 rfl rfl, by decide +kernel⟩
set_option maxRecDepth 100000 in
theorem cv_F_remove : mx_cV y_F_remove := ⟨mw 335 rfl rfl, mw 336 rfl rfl⟩
set_option maxRecDepth 100000 in
theorem cb_P_104 : mx_cB R_P 104 y_P_arrive b_P_arrive 3 none 2 := ⟨mw 341 rfl rfl, mw 43 rfl rfl, mw 344 rfl rfl, by decide +kernel⟩
set_option maxRecDepth 100000 in
theorem cv_P_arrive : mx_cV y_P_arrive := ⟨mw 343 rfl rfl, mw 10 rfl rfl⟩
set_option maxRecDepth 100000 in
theorem cb_P_111 : mx_cB R_P 111 y_F_repeat b_F_repeat 2 (some (.boolean)) 1 := ⟨mw 472 rfl rfl, mw 48 rfl rfl, mw 475 rfl rfl, by decide +kernel⟩
set_option maxRecDepth 100000 in
theorem cv_F_repeat : mx_cV y_F_repeat := ⟨mw 473 rfl rfl, mw 474 rfl rfl⟩
set_option maxRecDepth 100000 in
theorem cb_P_114 : mx_cB R_P 114 y_R_forget b_R_forget 1 none 0 := ⟨mw 480 rfl rfl, mw 45 rfl rfl, mw 483 rfl rfl, by decide +kernel⟩
set_option maxRecDepth 100000 in
theorem cv_R_forget : mx_cV y_R_forget := ⟨mw 481 rfl rfl, mw 482 rfl rfl⟩
set_option maxRecDepth 100000 in
theorem cb_P_129 : mx_cB R_P 129 y_G_ahead b_G_ahead 1 (some (.int)) 0 := ⟨mw 488 rfl rfl, mw 46 rfl rfl, mw 360 rfl rfl, by decide +kernel⟩
set_option maxRecDepth 100000 in
theorem cv_G_ahead : mx_cV y_G_ahead := ⟨mw 358 rfl rfl, mw 359 rfl rfl⟩
set_option maxRecDepth 100000 in
theorem cb_P_136 : mx_cB R_P 136 y_R_hasAccepted b_R_hasAccepted 1 (some (.boolean)) 0 := ⟨mw 379 rfl rfl, mw 45 rfl rfl, mw 382 rfl rfl, by decide +kernel⟩
set_option maxRecDepth 100000 in
theorem cv_R_hasAccepted : mx_cV y_R_hasAccepted := ⟨mw 380 rfl rfl, mw 381 rfl rfl⟩
set_option maxRecDepth 100000 in
theorem cb_P_146 : mx_cB R_P 146 y_R_passing b_R_passing 2 (some (.int)) 1 := ⟨mw 489 rfl rfl, mw 45 rfl rfl, mw 492 rfl rfl, by decide +kernel⟩
set_option maxRecDepth 100000 in
theorem cv_R_passing : mx_cV y_R_passing := ⟨mw 490 rfl rfl, mw 491 rfl rfl⟩
set_option maxRecDepth 100000 in
theorem cb_P_150 : mx_cB R_P 150 y_G_numberOf b_G_numberOf 2 (some (.int)) 1 := ⟨mw 362 rfl rfl, mw 46 rfl rfl, mw 365 rfl rfl, by decide +kernel⟩
set_option maxRecDepth 100000 in
theorem cv_G_numberOf : mx_cV y_G_numberOf := ⟨mw 363 rfl rfl, mw 364 rfl rfl⟩
set_option maxRecDepth 100000 in
theorem cb_P_153 : mx_cB R_P 153 y_L_at b_L_at 2 (some (.int)) 1 := ⟨mw 281 rfl rfl, mw 47 rfl rfl, mw 284 rfl rfl, by decide +kernel⟩
set_option maxRecDepth 100000 in
theorem cv_L_at : mx_cV y_L_at := ⟨mw 282 rfl rfl, mw 283 rfl rfl⟩
set_option maxRecDepth 100000 in
theorem cb_P_156 : mx_cB R_P 156 y_F_cell b_F_cell 3 (some (.int)) 2 := ⟨mw 505 rfl rfl, mw 48 rfl rfl, mw 332 rfl rfl, by decide +kernel⟩
set_option maxRecDepth 100000 in
theorem cv_F_cell : mx_cV y_F_cell := ⟨mw 330 rfl rfl, mw 331 rfl rfl⟩
set_option maxRecDepth 100000 in
theorem cb_P_165 : mx_cB R_P 165 y_P_greatestIndex b_P_greatestIndex 3 (some (.int)) 0 := ⟨mw 510 rfl rfl, mw 43 rfl rfl, mw 513 rfl rfl, by decide +kernel⟩
set_option maxRecDepth 100000 in
theorem cv_P_greatestIndex : mx_cV y_P_greatestIndex := ⟨mw 512 rfl rfl, mw 23 rfl rfl⟩
set_option maxRecDepth 100000 in
theorem cb_P_168 : mx_cB R_P 168 y_J_bitCount b_J_bitCount 1 (some (.int)) 1 := ⟨mw 407 rfl rfl, mw 52 rfl rfl, mw 409 rfl rfl, by decide +kernel⟩
set_option maxRecDepth 100000 in
theorem cs_J_bitCount : Cond.static y_J_bitCount ∈ mx_tbl := mw 408 rfl rfl
set_option maxRecDepth 100000 in
theorem cb_P_176 : mx_cB R_P 176 y_P_sendAccept b_P_sendAccept 2 none 1 := ⟨mw 265 rfl rfl, mw 43 rfl rfl, mw 268 rfl rfl, by decide +kernel⟩
set_option maxRecDepth 100000 in
theorem cv_P_sendAccept : mx_cV y_P_sendAccept := ⟨mw 267 rfl rfl, mw 2 rfl rfl⟩
set_option maxRecDepth 100000 in
theorem cb_P_179 : mx_cB R_P 179 y_P_propose b_P_propose 3 none 1 := ⟨mw 277 rfl rfl, mw 43 rfl rfl, mw 280 rfl rfl, by decide +kernel⟩
set_option maxRecDepth 100000 in
theorem cv_P_propose : mx_cV y_P_propose := ⟨mw 279 rfl rfl, mw 4 rfl rfl⟩
set_option maxRecDepth 100000 in
theorem cb_P_182 : mx_cB R_P 182 y_P_nextBallot b_P_nextBallot 4 (some (.int)) 1 := ⟨mw 305 rfl rfl, mw 43 rfl rfl, mw 308 rfl rfl, by decide +kernel⟩
set_option maxRecDepth 100000 in
theorem cv_P_nextBallot : mx_cV y_P_nextBallot := ⟨mw 307 rfl rfl, mw 8 rfl rfl⟩
set_option maxRecDepth 100000 in
theorem cb_P_186 : mx_cB R_P 186 y_R_becomeCandidate b_R_becomeCandidate 2 none 1 := ⟨mw 309 rfl rfl, mw 45 rfl rfl, mw 312 rfl rfl, by decide +kernel⟩
set_option maxRecDepth 100000 in
theorem cv_R_becomeCandidate : mx_cV y_R_becomeCandidate := ⟨mw 310 rfl rfl, mw 311 rfl rfl⟩
set_option maxRecDepth 100000 in
theorem cb_P_192 : mx_cB R_P 192 y_P_proposeNumber b_P_proposeNumber 3 none 2 := ⟨mw 285 rfl rfl, mw 43 rfl rfl, mw 288 rfl rfl, by decide +kernel⟩
set_option maxRecDepth 100000 in
theorem cv_P_proposeNumber : mx_cV y_P_proposeNumber := ⟨mw 287 rfl rfl, mw 5 rfl rfl⟩
set_option maxRecDepth 100000 in
theorem cb_P_195 : mx_cB R_P 195 y_R_proposeAndAccept b_R_proposeAndAccept 2 none 1 := ⟨mw 289 rfl rfl, mw 45 rfl rfl, mw 292 rfl rfl, by decide +kernel⟩
set_option maxRecDepth 100000 in
theorem cv_R_proposeAndAccept : mx_cV y_R_proposeAndAccept := ⟨mw 290 rfl rfl, mw 291 rfl rfl⟩
set_option maxRecDepth 100000 in
theorem cb_P_201 : mx_cB R_P 201 y_P_onPrepare b_P_onPrepare 3 none 2 := ⟨mw 345 rfl rfl, mw 43 rfl rfl, mw 348 rfl rfl, by decide +kernel⟩
set_option maxRecDepth 100000 in
theorem cv_P_onPrepare : mx_cV y_P_onPrepare := ⟨mw 347 rfl rfl, mw 11 rfl rfl⟩
set_option maxRecDepth 100000 in
theorem cb_P_204 : mx_cB R_P 204 y_P_onPromise b_P_onPromise 4 none 2 := ⟨mw 387 rfl rfl, mw 43 rfl rfl, mw 390 rfl rfl, by decide +kernel⟩
set_option maxRecDepth 100000 in
theorem cv_P_onPromise : mx_cV y_P_onPromise := ⟨mw 389 rfl rfl, mw 15 rfl rfl⟩
set_option maxRecDepth 100000 in
theorem cb_P_207 : mx_cB R_P 207 y_P_onAccept b_P_onAccept 3 none 2 := ⟨mw 417 rfl rfl, mw 43 rfl rfl, mw 420 rfl rfl, by decide +kernel⟩
set_option maxRecDepth 100000 in
theorem cv_P_onAccept : mx_cV y_P_onAccept := ⟨mw 419 rfl rfl, mw 17 rfl rfl⟩
set_option maxRecDepth 100000 in
theorem cb_P_210 : mx_cB R_P 210 y_P_onAccepted b_P_onAccepted 5 none 2 := ⟨mw 422 rfl rfl, mw 43 rfl rfl, mw 425 rfl rfl, by decide +kernel⟩
set_option maxRecDepth 100000 in
theorem cv_P_onAccepted : mx_cV y_P_onAccepted := ⟨mw 424 rfl rfl, mw 18 rfl rfl⟩
set_option maxRecDepth 100000 in
theorem cb_P_213 : mx_cB R_P 213 y_P_onChosen b_P_onChosen 3 none 2 := ⟨mw 443 rfl rfl, mw 43 rfl rfl, mw 446 rfl rfl, by decide +kernel⟩
set_option maxRecDepth 100000 in
theorem cv_P_onChosen : mx_cV y_P_onChosen := ⟨mw 445 rfl rfl, mw 19 rfl rfl⟩
set_option maxRecDepth 100000 in
theorem cb_P_216 : mx_cB R_P 216 y_P_onAsk b_P_onAsk 3 none 2 := ⟨mw 447 rfl rfl, mw 43 rfl rfl, mw 450 rfl rfl, by decide +kernel⟩
set_option maxRecDepth 100000 in
theorem cv_P_onAsk : mx_cV y_P_onAsk := ⟨mw 449 rfl rfl, mw 20 rfl rfl⟩
set_option maxRecDepth 100000 in
theorem cb_P_219 : mx_cB R_P 219 y_P_onDeny b_P_onDeny 3 none 2 := ⟨mw 451 rfl rfl, mw 43 rfl rfl, mw 454 rfl rfl, by decide +kernel⟩
set_option maxRecDepth 100000 in
theorem cv_P_onDeny : mx_cV y_P_onDeny := ⟨mw 453 rfl rfl, mw 21 rfl rfl⟩
set_option maxRecDepth 100000 in
theorem cb_P_222 : mx_cB R_P 222 y_P_onState b_P_onState 3 none 2 := ⟨mw 455 rfl rfl, mw 43 rfl rfl, mw 458 rfl rfl, by decide +kernel⟩
set_option maxRecDepth 100000 in
theorem cv_P_onState : mx_cV y_P_onState := ⟨mw 457 rfl rfl, mw 22 rfl rfl⟩
set_option maxRecDepth 100000 in
theorem cb_P_231 : mx_cB R_P 231 y_P_help b_P_help 4 none 3 := ⟨mw 349 rfl rfl, mw 43 rfl rfl, mw 352 rfl rfl, by decide +kernel⟩
set_option maxRecDepth 100000 in
theorem cv_P_help : mx_cV y_P_help := ⟨mw 351 rfl rfl, mw 12 rfl rfl⟩
set_option maxRecDepth 100000 in
theorem cb_P_235 : mx_cB R_P 235 y_R_becomeFollower b_R_becomeFollower 1 none 0 := ⟨mw 367 rfl rfl, mw 45 rfl rfl, mw 370 rfl rfl, by decide +kernel⟩
set_option maxRecDepth 100000 in
theorem cv_R_becomeFollower : mx_cV y_R_becomeFollower := ⟨mw 368 rfl rfl, mw 369 rfl rfl⟩
set_option maxRecDepth 100000 in
theorem cb_P_238 : mx_cB R_P 238 y_P_sendPromise b_P_sendPromise 6 none 2 := ⟨mw 371 rfl rfl, mw 43 rfl rfl, mw 374 rfl rfl, by decide +kernel⟩
set_option maxRecDepth 100000 in
theorem cv_P_sendPromise : mx_cV y_P_sendPromise := ⟨mw 373 rfl rfl, mw 13 rfl rfl⟩
set_option maxRecDepth 100000 in
theorem cb_P_241 : mx_cB R_P 241 y_P_deny b_P_deny 3 none 2 := ⟨mw 383 rfl rfl, mw 43 rfl rfl, mw 386 rfl rfl, by decide +kernel⟩
set_option maxRecDepth 100000 in
theorem cv_P_deny : mx_cV y_P_deny := ⟨mw 385 rfl rfl, mw 14 rfl rfl⟩
set_option maxRecDepth 100000 in
theorem cb_P_245 : mx_cB R_P 245 y_R_isNext b_R_isNext 2 (some (.boolean)) 1 := ⟨mw 375 rfl rfl, mw 45 rfl rfl, mw 378 rfl rfl, by decide +kernel⟩
set_option maxRecDepth 100000 in
theorem cv_R_isNext : mx_cV y_R_isNext := ⟨mw 376 rfl rfl, mw 377 rfl rfl⟩
set_option maxRecDepth 100000 in
theorem cb_P_248 : mx_cB R_P 248 y_R_hasAnswer b_R_hasAnswer 2 (some (.boolean)) 1 := ⟨mw 391 rfl rfl, mw 45 rfl rfl, mw 394 rfl rfl, by decide +kernel⟩
set_option maxRecDepth 100000 in
theorem cv_R_hasAnswer : mx_cV y_R_hasAnswer := ⟨mw 392 rfl rfl, mw 393 rfl rfl⟩
set_option maxRecDepth 100000 in
theorem cb_P_251 : mx_cB R_P 251 y_R_addAnswer b_R_addAnswer 2 none 1 := ⟨mw 395 rfl rfl, mw 45 rfl rfl, mw 398 rfl rfl, by decide +kernel⟩
set_option maxRecDepth 100000 in
theorem cv_R_addAnswer : mx_cV y_R_addAnswer := ⟨mw 396 rfl rfl, mw 397 rfl rfl⟩
set_option maxRecDepth 100000 in
theorem cb_P_260 : mx_cB R_P 260 y_R_keepGreatest b_R_keepGreatest 3 none 2 := ⟨mw 399 rfl rfl, mw 45 rfl rfl, mw 402 rfl rfl, by decide +kernel⟩
set_option maxRecDepth 100000 in
theorem cv_R_keepGreatest : mx_cV y_R_keepGreatest := ⟨mw 400 rfl rfl, mw 401 rfl rfl⟩
set_option maxRecDepth 100000 in
theorem cb_P_266 : mx_cB R_P 266 y_P_isMajority b_P_isMajority 2 (some (.boolean)) 1 := ⟨mw 403 rfl rfl, mw 43 rfl rfl, mw 406 rfl rfl, by decide +kernel⟩
set_option maxRecDepth 100000 in
theorem cv_P_isMajority : mx_cV y_P_isMajority := ⟨mw 405 rfl rfl, mw 16 rfl rfl⟩
set_option maxRecDepth 100000 in
theorem cb_P_269 : mx_cB R_P 269 y_R_becomeLeader b_R_becomeLeader 1 none 0 := ⟨mw 413 rfl rfl, mw 45 rfl rfl, mw 416 rfl rfl, by decide +kernel⟩
set_option maxRecDepth 100000 in
theorem cv_R_becomeLeader : mx_cV y_R_becomeLeader := ⟨mw 414 rfl rfl, mw 415 rfl rfl⟩
set_option maxRecDepth 100000 in
theorem cb_P_278 : mx_cB R_P 278 y_R_accept b_R_accept 3 none 2 := ⟨mw 421 rfl rfl, mw 45 rfl rfl, mw 296 rfl rfl, by decide +kernel⟩
set_option maxRecDepth 100000 in
theorem cv_R_accept : mx_cV y_R_accept := ⟨mw 294 rfl rfl, mw 295 rfl rfl⟩
set_option maxRecDepth 100000 in
theorem cb_P_281 : mx_cB R_P 281 y_F_send b_F_send 9 none 7 := ⟨mw 273 rfl rfl, mw 48 rfl rfl, mw 276 rfl rfl, by decide +kernel⟩
set_option maxRecDepth 100000 in
theorem cv_F_send : mx_cV y_F_send := ⟨mw 274 rfl rfl, mw 275 rfl rfl⟩
set_option maxRecDepth 100000 in
theorem cb_P_285 : mx_cB R_P 285 y_P_sendToAll b_P_sendToAll 7 none 5 := ⟨mw 269 rfl rfl, mw 43 rfl rfl, mw 272 rfl rfl, by decide +kernel⟩
set_option maxRecDepth 100000 in
theorem cv_P_sendToAll : mx_cV y_P_sendToAll := ⟨mw 271 rfl rfl, mw 3 rfl rfl⟩
set_option maxRecDepth 100000 in
theorem cb_P_289 : mx_cB R_P 289 y_R_learn b_R_learn 2 none 1 := ⟨mw 426 rfl rfl, mw 45 rfl rfl, mw 429 rfl rfl, by decide +kernel⟩
set_option maxRecDepth 100000 in
theorem cv_R_learn : mx_cV y_R_learn := ⟨mw 427 rfl rfl, mw 428 rfl rfl⟩
set_option maxRecDepth 100000 in
theorem cb_P_292 : mx_cB R_P 292 y_G_jump b_G_jump 3 none 2 := ⟨mw 459 rfl rfl, mw 46 rfl rfl, mw 462 rfl rfl, by decide +kernel⟩
set_option maxRecDepth 100000 in
theorem cv_G_jump : mx_cV y_G_jump := ⟨mw 460 rfl rfl, mw 461 rfl rfl⟩
set_option maxRecDepth 100000 in
theorem cb_P_295 : mx_cB R_P 295 y_R_dropAccepted b_R_dropAccepted 1 none 0 := ⟨mw 463 rfl rfl, mw 45 rfl rfl, mw 437 rfl rfl, by decide +kernel⟩
set_option maxRecDepth 100000 in
theorem cv_R_dropAccepted : mx_cV y_R_dropAccepted := ⟨mw 435 rfl rfl, mw 436 rfl rfl⟩
set_option maxRecDepth 100000 in
theorem cb_P_298 : mx_cB R_P 298 y_G_keeps b_G_keeps 2 (some (.boolean)) 1 := ⟨mw 353 rfl rfl, mw 46 rfl rfl, mw 356 rfl rfl, by decide +kernel⟩
set_option maxRecDepth 100000 in
theorem cv_G_keeps : mx_cV y_G_keeps := ⟨mw 354 rfl rfl, mw 355 rfl rfl⟩
set_option maxRecDepth 100000 in
theorem cb_F_19 : mx_cB R_F 19 y_F_has b_F_has 2 (some (.boolean)) 1 := ⟨mw 333 rfl rfl, mw 48 rfl rfl, mw 324 rfl rfl, by decide +kernel⟩
set_option maxRecDepth 100000 in
theorem cb_F_29 : mx_cB R_F 29 y_F_cell b_F_cell 3 (some (.int)) 2 := ⟨mw 329 rfl rfl, mw 48 rfl rfl, mw 332 rfl rfl, by decide +kernel⟩
set_option maxRecDepth 100000 in
theorem cb_G_31 : mx_cB R_G 31 y_G_ahead b_G_ahead 1 (some (.int)) 0 := ⟨mw 357 rfl rfl, mw 46 rfl rfl, mw 360 rfl rfl, by decide +kernel⟩
set_option maxRecDepth 100000 in
theorem cb_G_35 : mx_cB R_G 35 y_G_keeps b_G_keeps 2 (some (.boolean)) 1 := ⟨mw 366 rfl rfl, mw 46 rfl rfl, mw 356 rfl rfl, by decide +kernel⟩
set_option maxRecDepth 100000 in
theorem cb_R_17 : mx_cB R_R 17 y_G_init b_G_init 2 none 1 := ⟨mw 76 rfl rfl, mw 46 rfl rfl, mw 78 rfl rfl, by decide +kernel⟩
set_option maxRecDepth 100000 in
theorem ci_G_init : y_G_init.name = "<init>" ∧ Cond.instanceMethod y_G_init ∈ mx_tbl := ⟨rfl, mw 77 rfl rfl⟩
set_option maxRecDepth 100000 in
theorem cb_R_26 : mx_cB R_R 26 y_L_init b_L_init 1 none 0 := ⟨mw 102 rfl rfl, mw 47 rfl rfl, mw 104 rfl rfl, by decide +kernel⟩
set_option maxRecDepth 100000 in
theorem ci_L_init : y_L_init.name = "<init>" ∧ Cond.instanceMethod y_L_init ∈ mx_tbl := ⟨rfl, mw 103 rfl rfl⟩
set_option maxRecDepth 100000 in
theorem cb_R_35 : mx_cB R_R 35 y_R_becomeFollower b_R_becomeFollower 1 none 0 := ⟨mw 438 rfl rfl, mw 45 rfl rfl, mw 370 rfl rfl, by decide +kernel⟩
set_option maxRecDepth 100000 in
theorem cb_R_74 : mx_cB R_R 74 y_R_accept b_R_accept 3 none 2 := ⟨mw 293 rfl rfl, mw 45 rfl rfl, mw 296 rfl rfl, by decide +kernel⟩
set_option maxRecDepth 100000 in
theorem cb_R_78 : mx_cB R_R 78 y_G_append b_G_append 2 none 1 := ⟨mw 430 rfl rfl, mw 46 rfl rfl, mw 433 rfl rfl, by decide +kernel⟩
set_option maxRecDepth 100000 in
theorem cv_G_append : mx_cV y_G_append := ⟨mw 431 rfl rfl, mw 432 rfl rfl⟩
set_option maxRecDepth 100000 in
theorem cb_R_81 : mx_cB R_R 81 y_R_dropAccepted b_R_dropAccepted 1 none 0 := ⟨mw 434 rfl rfl, mw 45 rfl rfl, mw 437 rfl rfl, by decide +kernel⟩
set_option maxRecDepth 100000 in
theorem cb_R_84 : mx_cB R_R 84 y_L_drop b_L_drop 4 none 1 := ⟨mw 439 rfl rfl, mw 47 rfl rfl, mw 442 rfl rfl, by decide +kernel⟩
set_option maxRecDepth 100000 in
theorem cv_L_drop : mx_cV y_L_drop := ⟨mw 440 rfl rfl, mw 441 rfl rfl⟩
set_option maxRecDepth 100000 in
theorem cb_W_9 : mx_cB R_W 9 y_W_cell b_W_cell 2 (some (.int)) 2 := ⟨mw 514 rfl rfl, mw 42 rfl rfl, mw 516 rfl rfl, by decide +kernel⟩
set_option maxRecDepth 100000 in
theorem cs_W_cell : Cond.static y_W_cell ∈ mx_tbl := mw 515 rfl rfl
set_option maxRecDepth 100000 in
theorem cb_W_15 : mx_cB R_W 15 y_P_init b_P_init 4 none 2 := ⟨mw 55 rfl rfl, mw 43 rfl rfl, mw 57 rfl rfl, by decide +kernel⟩
set_option maxRecDepth 100000 in
theorem ci_P_init : y_P_init.name = "<init>" ∧ Cond.instanceMethod y_P_init ∈ mx_tbl := ⟨rfl, mw 56 rfl rfl⟩
set_option maxRecDepth 100000 in
theorem cb_W_20 : mx_cB R_W 20 y_T_init b_T_init 4 none 2 := ⟨mw 519 rfl rfl, mw 50 rfl rfl, mw 521 rfl rfl, by decide +kernel⟩
set_option maxRecDepth 100000 in
theorem ci_T_init : y_T_init.name = "<init>" ∧ Cond.instanceMethod y_T_init ∈ mx_tbl := ⟨rfl, mw 520 rfl rfl⟩
set_option maxRecDepth 100000 in
theorem cb_W_21 : mx_cB R_W 21 y_P_request b_P_request 4 (some (.boolean)) 2 := ⟨mw 245 rfl rfl, mw 43 rfl rfl, mw 248 rfl rfl, by decide +kernel⟩
set_option maxRecDepth 100000 in
theorem cv_P_request : mx_cV y_P_request := ⟨mw 246 rfl rfl, mw 247 rfl rfl⟩
set_option maxRecDepth 100000 in
theorem cb_W_25 : mx_cB R_W 25 y_T_request b_T_request 3 (some (.boolean)) 2 := ⟨mw 597 rfl rfl, mw 50 rfl rfl, mw 600 rfl rfl, by decide +kernel⟩
set_option maxRecDepth 100000 in
theorem cv_T_request : mx_cV y_T_request := ⟨mw 598 rfl rfl, mw 599 rfl rfl⟩
set_option maxRecDepth 100000 in
theorem cb_W_26 : mx_cB R_W 26 y_P_tick b_P_tick 3 (some (.int)) 1 := ⟨mw 257 rfl rfl, mw 43 rfl rfl, mw 260 rfl rfl, by decide +kernel⟩
set_option maxRecDepth 100000 in
theorem cv_P_tick : mx_cV y_P_tick := ⟨mw 258 rfl rfl, mw 259 rfl rfl⟩
set_option maxRecDepth 100000 in
theorem cb_W_30 : mx_cB R_W 30 y_T_tick b_T_tick 2 (some (.int)) 1 := ⟨mw 609 rfl rfl, mw 50 rfl rfl, mw 612 rfl rfl, by decide +kernel⟩
set_option maxRecDepth 100000 in
theorem cv_T_tick : mx_cV y_T_tick := ⟨mw 610 rfl rfl, mw 611 rfl rfl⟩
set_option maxRecDepth 100000 in
theorem cb_W_31 : mx_cB R_W 31 y_P_deliver b_P_deliver 3 (some (.int)) 1 := ⟨mw 317 rfl rfl, mw 43 rfl rfl, mw 320 rfl rfl, by decide +kernel⟩
set_option maxRecDepth 100000 in
theorem cv_P_deliver : mx_cV y_P_deliver := ⟨mw 318 rfl rfl, mw 319 rfl rfl⟩
set_option maxRecDepth 100000 in
theorem cb_W_34 : mx_cB R_W 34 y_T_deliver b_T_deliver 10 (some (.int)) 1 := ⟨mw 637 rfl rfl, mw 50 rfl rfl, mw 640 rfl rfl, by decide +kernel⟩
set_option maxRecDepth 100000 in
theorem cv_T_deliver : mx_cV y_T_deliver := ⟨mw 638 rfl rfl, mw 639 rfl rfl⟩
set_option maxRecDepth 100000 in
theorem cb_W_35 : mx_cB R_W 35 y_P_lose b_P_lose 2 (some (.boolean)) 1 := ⟨mw 464 rfl rfl, mw 43 rfl rfl, mw 467 rfl rfl, by decide +kernel⟩
set_option maxRecDepth 100000 in
theorem cv_P_lose : mx_cV y_P_lose := ⟨mw 465 rfl rfl, mw 466 rfl rfl⟩
set_option maxRecDepth 100000 in
theorem cb_W_39 : mx_cB R_W 39 y_T_lose b_T_lose 2 (some (.boolean)) 1 := ⟨mw 681 rfl rfl, mw 50 rfl rfl, mw 684 rfl rfl, by decide +kernel⟩
set_option maxRecDepth 100000 in
theorem cv_T_lose : mx_cV y_T_lose := ⟨mw 682 rfl rfl, mw 683 rfl rfl⟩
set_option maxRecDepth 100000 in
theorem cb_W_40 : mx_cB R_W 40 y_P_twice b_P_twice 2 (some (.boolean)) 1 := ⟨mw 468 rfl rfl, mw 43 rfl rfl, mw 471 rfl rfl, by decide +kernel⟩
set_option maxRecDepth 100000 in
theorem cv_P_twice : mx_cV y_P_twice := ⟨mw 469 rfl rfl, mw 470 rfl rfl⟩
set_option maxRecDepth 100000 in
theorem cb_W_43 : mx_cB R_W 43 y_T_twice b_T_twice 3 (some (.boolean)) 1 := ⟨mw 685 rfl rfl, mw 50 rfl rfl, mw 688 rfl rfl, by decide +kernel⟩
set_option maxRecDepth 100000 in
theorem cv_T_twice : mx_cV y_T_twice := ⟨mw 686 rfl rfl, mw 687 rfl rfl⟩
set_option maxRecDepth 100000 in
theorem cb_W_44 : mx_cB R_W 44 y_P_turn b_P_turn 4 (some (.boolean)) 2 := ⟨mw 476 rfl rfl, mw 43 rfl rfl, mw 479 rfl rfl, by decide +kernel⟩
set_option maxRecDepth 100000 in
theorem cv_P_turn : mx_cV y_P_turn := ⟨mw 477 rfl rfl, mw 478 rfl rfl⟩
set_option maxRecDepth 100000 in
theorem cb_W_48 : mx_cB R_W 48 y_T_turn b_T_turn 3 (some (.boolean)) 2 := ⟨mw 689 rfl rfl, mw 50 rfl rfl, mw 692 rfl rfl, by decide +kernel⟩
set_option maxRecDepth 100000 in
theorem cv_T_turn : mx_cV y_T_turn := ⟨mw 690 rfl rfl, mw 691 rfl rfl⟩
set_option maxRecDepth 100000 in
theorem cb_W_49 : mx_cB R_W 49 y_P_replica b_P_replica 4 (some (.int)) 2 := ⟨mw 484 rfl rfl, mw 43 rfl rfl, mw 487 rfl rfl, by decide +kernel⟩
set_option maxRecDepth 100000 in
theorem cv_P_replica : mx_cV y_P_replica := ⟨mw 485 rfl rfl, mw 486 rfl rfl⟩
set_option maxRecDepth 100000 in
theorem cb_W_53 : mx_cB R_W 53 y_T_replica b_T_replica 3 (some (.int)) 2 := ⟨mw 693 rfl rfl, mw 50 rfl rfl, mw 696 rfl rfl, by decide +kernel⟩
set_option maxRecDepth 100000 in
theorem cv_T_replica : mx_cV y_T_replica := ⟨mw 694 rfl rfl, mw 695 rfl rfl⟩
set_option maxRecDepth 100000 in
theorem cb_W_54 : mx_cB R_W 54 y_P_slot b_P_slot 4 (some (.int)) 2 := ⟨mw 493 rfl rfl, mw 43 rfl rfl, mw 496 rfl rfl, by decide +kernel⟩
set_option maxRecDepth 100000 in
theorem cv_P_slot : mx_cV y_P_slot := ⟨mw 494 rfl rfl, mw 495 rfl rfl⟩
set_option maxRecDepth 100000 in
theorem cb_W_57 : mx_cB R_W 57 y_T_slot b_T_slot 4 (some (.int)) 2 := ⟨mw 697 rfl rfl, mw 50 rfl rfl, mw 700 rfl rfl, by decide +kernel⟩
set_option maxRecDepth 100000 in
theorem cv_T_slot : mx_cV y_T_slot := ⟨mw 698 rfl rfl, mw 699 rfl rfl⟩
set_option maxRecDepth 100000 in
theorem cb_W_58 : mx_cB R_W 58 y_P_waiting b_P_waiting 4 (some (.int)) 2 := ⟨mw 497 rfl rfl, mw 43 rfl rfl, mw 500 rfl rfl, by decide +kernel⟩
set_option maxRecDepth 100000 in
theorem cv_P_waiting : mx_cV y_P_waiting := ⟨mw 498 rfl rfl, mw 499 rfl rfl⟩
set_option maxRecDepth 100000 in
theorem cb_W_61 : mx_cB R_W 61 y_T_waiting b_T_waiting 3 (some (.int)) 2 := ⟨mw 701 rfl rfl, mw 50 rfl rfl, mw 704 rfl rfl, by decide +kernel⟩
set_option maxRecDepth 100000 in
theorem cv_T_waiting : mx_cV y_T_waiting := ⟨mw 702 rfl rfl, mw 703 rfl rfl⟩
set_option maxRecDepth 100000 in
theorem cb_W_62 : mx_cB R_W 62 y_P_message b_P_message 3 (some (.int)) 2 := ⟨mw 501 rfl rfl, mw 43 rfl rfl, mw 504 rfl rfl, by decide +kernel⟩
set_option maxRecDepth 100000 in
theorem cv_P_message : mx_cV y_P_message := ⟨mw 502 rfl rfl, mw 503 rfl rfl⟩
set_option maxRecDepth 100000 in
theorem cb_W_65 : mx_cB R_W 65 y_T_message b_T_message 3 (some (.int)) 2 := ⟨mw 705 rfl rfl, mw 50 rfl rfl, mw 708 rfl rfl, by decide +kernel⟩
set_option maxRecDepth 100000 in
theorem cv_T_message : mx_cV y_T_message := ⟨mw 706 rfl rfl, mw 707 rfl rfl⟩
set_option maxRecDepth 100000 in
theorem cb_W_66 : mx_cB R_W 66 y_P_look b_P_look 2 (some (.int)) 1 := ⟨mw 506 rfl rfl, mw 43 rfl rfl, mw 509 rfl rfl, by decide +kernel⟩
set_option maxRecDepth 100000 in
theorem cv_P_look : mx_cV y_P_look := ⟨mw 507 rfl rfl, mw 508 rfl rfl⟩
set_option maxRecDepth 100000 in
theorem cb_W_69 : mx_cB R_W 69 y_T_look b_T_look 4 (some (.int)) 1 := ⟨mw 709 rfl rfl, mw 50 rfl rfl, mw 712 rfl rfl, by decide +kernel⟩
set_option maxRecDepth 100000 in
theorem cv_T_look : mx_cV y_T_look := ⟨mw 710 rfl rfl, mw 711 rfl rfl⟩
set_option maxRecDepth 100000 in
theorem cb_T_75 : mx_cB R_T 75 y_T_isReplica b_T_isReplica 2 (some (.boolean)) 1 := ⟨mw 605 rfl rfl, mw 50 rfl rfl, mw 608 rfl rfl, by decide +kernel⟩
set_option maxRecDepth 100000 in
theorem cv_T_isReplica : mx_cV y_T_isReplica := ⟨mw 607 rfl rfl, mw 25 rfl rfl⟩
set_option maxRecDepth 100000 in
theorem cb_T_88 : mx_cB R_T 88 y_T_send b_T_send 9 none 7 := ⟨mw 617 rfl rfl, mw 50 rfl rfl, mw 620 rfl rfl, by decide +kernel⟩
set_option maxRecDepth 100000 in
theorem cv_T_send : mx_cV y_T_send := ⟨mw 619 rfl rfl, mw 27 rfl rfl⟩
set_option maxRecDepth 100000 in
theorem cb_T_92 : mx_cB R_T 92 y_T_follow b_T_follow 2 none 1 := ⟨mw 633 rfl rfl, mw 50 rfl rfl, mw 636 rfl rfl, by decide +kernel⟩
set_option maxRecDepth 100000 in
theorem cv_T_follow : mx_cV y_T_follow := ⟨mw 635 rfl rfl, mw 31 rfl rfl⟩
set_option maxRecDepth 100000 in
theorem cb_T_96 : mx_cB R_T 96 y_T_sendAll b_T_sendAll 7 none 5 := ⟨mw 613 rfl rfl, mw 50 rfl rfl, mw 616 rfl rfl, by decide +kernel⟩
set_option maxRecDepth 100000 in
theorem cv_T_sendAll : mx_cV y_T_sendAll := ⟨mw 615 rfl rfl, mw 26 rfl rfl⟩
set_option maxRecDepth 100000 in
theorem cb_T_100 : mx_cB R_T 100 y_T_proposeIt b_T_proposeIt 3 none 2 := ⟨mw 625 rfl rfl, mw 50 rfl rfl, mw 628 rfl rfl, by decide +kernel⟩
set_option maxRecDepth 100000 in
theorem cv_T_proposeIt : mx_cV y_T_proposeIt := ⟨mw 627 rfl rfl, mw 29 rfl rfl⟩
set_option maxRecDepth 100000 in
theorem cb_T_104 : mx_cB R_T 104 y_T_help b_T_help 4 none 3 := ⟨mw 653 rfl rfl, mw 50 rfl rfl, mw 656 rfl rfl, by decide +kernel⟩
set_option maxRecDepth 100000 in
theorem cv_T_help : mx_cV y_T_help := ⟨mw 655 rfl rfl, mw 35 rfl rfl⟩
set_option maxRecDepth 100000 in
theorem cb_T_108 : mx_cB R_T 108 y_T_count b_T_count 4 (some (.int)) 1 := ⟨mw 661 rfl rfl, mw 50 rfl rfl, mw 664 rfl rfl, by decide +kernel⟩
set_option maxRecDepth 100000 in
theorem cv_T_count : mx_cV y_T_count := ⟨mw 663 rfl rfl, mw 37 rfl rfl⟩
set_option maxRecDepth 100000 in
theorem cb_T_112 : mx_cB R_T 112 y_T_propose b_T_propose 2 none 1 := ⟨mw 621 rfl rfl, mw 50 rfl rfl, mw 624 rfl rfl, by decide +kernel⟩
set_option maxRecDepth 100000 in
theorem cv_T_propose : mx_cV y_T_propose := ⟨mw 623 rfl rfl, mw 28 rfl rfl⟩
set_option maxRecDepth 100000 in
theorem cb_T_115 : mx_cB R_T 115 y_T_learn b_T_learn 5 none 2 := ⟨mw 673 rfl rfl, mw 50 rfl rfl, mw 676 rfl rfl, by decide +kernel⟩
set_option maxRecDepth 100000 in
theorem cv_T_learn : mx_cV y_T_learn := ⟨mw 675 rfl rfl, mw 40 rfl rfl⟩
set_option maxRecDepth 100000 in
theorem cb_T_118 : mx_cB R_T 118 y_T_prepared b_T_prepared 6 none 4 := ⟨mw 649 rfl rfl, mw 50 rfl rfl, mw 652 rfl rfl, by decide +kernel⟩
set_option maxRecDepth 100000 in
theorem cv_T_prepared : mx_cV y_T_prepared := ⟨mw 651 rfl rfl, mw 34 rfl rfl⟩
set_option maxRecDepth 100000 in
theorem cb_T_122 : mx_cB R_T 122 y_T_gotPromise b_T_gotPromise 7 none 6 := ⟨mw 657 rfl rfl, mw 50 rfl rfl, mw 660 rfl rfl, by decide +kernel⟩
set_option maxRecDepth 100000 in
theorem cv_T_gotPromise : mx_cV y_T_gotPromise := ⟨mw 659 rfl rfl, mw 36 rfl rfl⟩
set_option maxRecDepth 100000 in
theorem cb_T_126 : mx_cB R_T 126 y_T_gotAccept b_T_gotAccept 6 none 5 := ⟨mw 665 rfl rfl, mw 50 rfl rfl, mw 668 rfl rfl, by decide +kernel⟩
set_option maxRecDepth 100000 in
theorem cv_T_gotAccept : mx_cV y_T_gotAccept := ⟨mw 667 rfl rfl, mw 38 rfl rfl⟩
set_option maxRecDepth 100000 in
theorem cb_T_129 : mx_cB R_T 129 y_T_gotAccepted b_T_gotAccepted 6 none 4 := ⟨mw 669 rfl rfl, mw 50 rfl rfl, mw 672 rfl rfl, by decide +kernel⟩
set_option maxRecDepth 100000 in
theorem cv_T_gotAccepted : mx_cV y_T_gotAccepted := ⟨mw 671 rfl rfl, mw 39 rfl rfl⟩
set_option maxRecDepth 100000 in
theorem cb_T_132 : mx_cB R_T 132 y_T_gotState b_T_gotState 4 none 3 := ⟨mw 677 rfl rfl, mw 50 rfl rfl, mw 680 rfl rfl, by decide +kernel⟩
set_option maxRecDepth 100000 in
theorem cv_T_gotState : mx_cV y_T_gotState := ⟨mw 679 rfl rfl, mw 41 rfl rfl⟩
set_option maxRecDepth 100000 in
theorem cb_T_135 : mx_cB R_T 135 y_T_isUp b_T_isUp 2 (some (.boolean)) 1 := ⟨mw 601 rfl rfl, mw 50 rfl rfl, mw 604 rfl rfl, by decide +kernel⟩
set_option maxRecDepth 100000 in
theorem cv_T_isUp : mx_cV y_T_isUp := ⟨mw 603 rfl rfl, mw 24 rfl rfl⟩
set_option maxRecDepth 100000 in
theorem cb_T_138 : mx_cB R_T 138 y_T_campaign b_T_campaign 4 none 1 := ⟨mw 629 rfl rfl, mw 50 rfl rfl, mw 632 rfl rfl, by decide +kernel⟩
set_option maxRecDepth 100000 in
theorem cv_T_campaign : mx_cV y_T_campaign := ⟨mw 631 rfl rfl, mw 30 rfl rfl⟩
set_option maxRecDepth 100000 in
theorem cb_T_141 : mx_cB R_T 141 y_T_remove b_T_remove 3 none 1 := ⟨mw 641 rfl rfl, mw 50 rfl rfl, mw 644 rfl rfl, by decide +kernel⟩
set_option maxRecDepth 100000 in
theorem cv_T_remove : mx_cV y_T_remove := ⟨mw 643 rfl rfl, mw 32 rfl rfl⟩
set_option maxRecDepth 100000 in
theorem cb_T_144 : mx_cB R_T 144 y_T_comes b_T_comes 8 none 7 := ⟨mw 645 rfl rfl, mw 50 rfl rfl, mw 648 rfl rfl, by decide +kernel⟩
set_option maxRecDepth 100000 in
theorem cv_T_comes : mx_cV y_T_comes := ⟨mw 647 rfl rfl, mw 33 rfl rfl⟩
