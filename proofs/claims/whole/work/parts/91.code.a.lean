theorem d_Lw_0 {nm : String} : dd (m_Lw nm) 0 (.new 8) 3 3 := ⟨show decode code 0 = .ok (.new 8, 3) by decide +kernel, rfl⟩
theorem d_Lw_3 {nm : String} : dd (m_Lw nm) 3 .dup 1 4 := ⟨show decode code 3 = .ok (.dup, 1) by decide +kernel, rfl⟩
theorem d_Lw_4 {nm : String} : dd (m_Lw nm) 4 (.invokespecial 18) 3 7 := ⟨show decode code 4 = .ok (.invokespecial 18, 3) by decide +kernel, rfl⟩
theorem d_Lw_7 {nm : String} : dd (m_Lw nm) 7 (.astore_n 1) 1 8 := ⟨show decode code 7 = .ok (.astore_n 1, 1) by decide +kernel, rfl⟩
theorem d_Lw_8 {nm : String} : dd (m_Lw nm) 8 (.new 19) 3 11 := ⟨show decode code 8 = .ok (.new 19, 3) by decide +kernel, rfl⟩
theorem d_Lw_11 {nm : String} : dd (m_Lw nm) 11 .dup 1 12 := ⟨show decode code 11 = .ok (.dup, 1) by decide +kernel, rfl⟩
theorem d_Lw_12 {nm : String} : dd (m_Lw nm) 12 (.invokespecial 21) 3 15 := ⟨show decode code 12 = .ok (.invokespecial 21, 3) by decide +kernel, rfl⟩
theorem d_Lw_15 {nm : String} : dd (m_Lw nm) 15 (.astore_n 2) 1 16 := ⟨show decode code 15 = .ok (.astore_n 2, 1) by decide +kernel, rfl⟩
theorem d_Lw_16 {nm : String} : dd (m_Lw nm) 16 (.iconst 1) 1 17 := ⟨show decode code 16 = .ok (.iconst 1, 1) by decide +kernel, rfl⟩
theorem d_Lw_17 {nm : String} : dd (m_Lw nm) 17 (.newarray .long) 2 19 := ⟨show decode code 17 = .ok (.newarray .long, 2) by decide +kernel, rfl⟩
theorem d_Lw_19 {nm : String} : dd (m_Lw nm) 19 (.astore_n 3) 1 20 := ⟨show decode code 19 = .ok (.astore_n 3, 1) by decide +kernel, rfl⟩
theorem d_Lw_20 {nm : String} : dd (m_Lw nm) 20 (.iconst 0) 1 21 := ⟨show decode code 20 = .ok (.iconst 0, 1) by decide +kernel, rfl⟩
theorem d_Lw_21 {nm : String} : dd (m_Lw nm) 21 (.istore 4) 2 23 := ⟨show decode code 21 = .ok (.istore 4, 2) by decide +kernel, rfl⟩
theorem d_Lw_23 {nm : String} : dd (m_Lw nm) 23 (.iload 4) 2 25 := ⟨show decode code 23 = .ok (.iload 4, 2) by decide +kernel, rfl⟩
theorem d_Lw_25 {nm : String} : dd (m_Lw nm) 25 (.aload_n 0) 1 26 := ⟨show decode code 25 = .ok (.aload_n 0, 1) by decide +kernel, rfl⟩
theorem d_Lw_26 {nm : String} : dd (m_Lw nm) 26 .arraylength 1 27 := ⟨show decode code 26 = .ok (.arraylength, 1) by decide +kernel, rfl⟩
theorem d_Lw_27 {nm : String} : dd (m_Lw nm) 27 (.bipush 6) 2 29 := ⟨show decode code 27 = .ok (.bipush 6, 2) by decide +kernel, rfl⟩
theorem d_Lw_29 {nm : String} : dd (m_Lw nm) 29 .isub 1 30 := ⟨show decode code 29 = .ok (.isub, 1) by decide +kernel, rfl⟩
theorem d_Lw_30 {nm : String} : db (m_Lw nm) 30 (.if_icmp .gt) 33 1402 := ⟨1372, show decode code 30 = .ok (.if_icmp .gt 1372, 3) by decide +kernel, rfl, rfl⟩
theorem d_Lw_33 {nm : String} : dd (m_Lw nm) 33 (.aload_n 0) 1 34 := ⟨show decode code 33 = .ok (.aload_n 0, 1) by decide +kernel, rfl⟩
theorem d_Lw_34 {nm : String} : dd (m_Lw nm) 34 (.iload 4) 2 36 := ⟨show decode code 34 = .ok (.iload 4, 2) by decide +kernel, rfl⟩
theorem d_Lw_36 {nm : String} : dd (m_Lw nm) 36 .iaload 1 37 := ⟨show decode code 36 = .ok (.iaload, 1) by decide +kernel, rfl⟩
theorem d_Lw_37 {nm : String} : dd (m_Lw nm) 37 (.bipush 31) 2 39 := ⟨show decode code 37 = .ok (.bipush 31, 2) by decide +kernel, rfl⟩
theorem d_Lw_39 {nm : String} : dd (m_Lw nm) 39 .iand 1 40 := ⟨show decode code 39 = .ok (.iand, 1) by decide +kernel, rfl⟩
theorem d_Lw_40 {nm : String} : decode (mbt (m_Lw nm)) 40 = .ok (.tableswitch 1356 0 29 #[136, 209, 234, 247, 260, 285, 322, 371, 432, 481, 530, 579, 659, 708, 757, 806, 855, 904, 984, 1009, 1058, 1107, 1144, 1193, 1218, 1231, 1256, 1293, 1306, 1331], 136) := show decode code 40 = .ok (.tableswitch 1356 0 29 #[136, 209, 234, 247, 260, 285, 322, 371, 432, 481, 530, 579, 659, 708, 757, 806, 855, 904, 984, 1009, 1058, 1107, 1144, 1193, 1218, 1231, 1256, 1293, 1306, 1331], 136) by decide +kernel
theorem d_Lw_176 {nm : String} : dd (m_Lw nm) 176 (.aload_n 1) 1 177 := ⟨show decode code 176 = .ok (.aload_n 1, 1) by decide +kernel, rfl⟩
theorem d_Lw_177 {nm : String} : dd (m_Lw nm) 177 (.aload_n 0) 1 178 := ⟨show decode code 177 = .ok (.aload_n 0, 1) by decide +kernel, rfl⟩
theorem d_Lw_178 {nm : String} : dd (m_Lw nm) 178 (.iload 4) 2 180 := ⟨show decode code 178 = .ok (.iload 4, 2) by decide +kernel, rfl⟩
theorem d_Lw_180 {nm : String} : dd (m_Lw nm) 180 (.iconst 1) 1 181 := ⟨show decode code 180 = .ok (.iconst 1, 1) by decide +kernel, rfl⟩
theorem d_Lw_181 {nm : String} : dd (m_Lw nm) 181 .iadd 1 182 := ⟨show decode code 181 = .ok (.iadd, 1) by decide +kernel, rfl⟩
theorem d_Lw_182 {nm : String} : dd (m_Lw nm) 182 .iaload 1 183 := ⟨show decode code 182 = .ok (.iaload, 1) by decide +kernel, rfl⟩
theorem d_Lw_183 {nm : String} : dd (m_Lw nm) 183 (.aload_n 0) 1 184 := ⟨show decode code 183 = .ok (.aload_n 0, 1) by decide +kernel, rfl⟩
theorem d_Lw_184 {nm : String} : dd (m_Lw nm) 184 (.iload 4) 2 186 := ⟨show decode code 184 = .ok (.iload 4, 2) by decide +kernel, rfl⟩
theorem d_Lw_186 {nm : String} : dd (m_Lw nm) 186 (.iconst 2) 1 187 := ⟨show decode code 186 = .ok (.iconst 2, 1) by decide +kernel, rfl⟩
theorem d_Lw_187 {nm : String} : dd (m_Lw nm) 187 .iadd 1 188 := ⟨show decode code 187 = .ok (.iadd, 1) by decide +kernel, rfl⟩
theorem d_Lw_188 {nm : String} : dd (m_Lw nm) 188 .iaload 1 189 := ⟨show decode code 188 = .ok (.iaload, 1) by decide +kernel, rfl⟩
theorem d_Lw_189 {nm : String} : dd (m_Lw nm) 189 (.aload_n 0) 1 190 := ⟨show decode code 189 = .ok (.aload_n 0, 1) by decide +kernel, rfl⟩
theorem d_Lw_190 {nm : String} : dd (m_Lw nm) 190 (.iload 4) 2 192 := ⟨show decode code 190 = .ok (.iload 4, 2) by decide +kernel, rfl⟩
theorem d_Lw_192 {nm : String} : dd (m_Lw nm) 192 (.iconst 3) 1 193 := ⟨show decode code 192 = .ok (.iconst 3, 1) by decide +kernel, rfl⟩
theorem d_Lw_193 {nm : String} : dd (m_Lw nm) 193 .iadd 1 194 := ⟨show decode code 193 = .ok (.iadd, 1) by decide +kernel, rfl⟩
theorem d_Lw_194 {nm : String} : dd (m_Lw nm) 194 .iaload 1 195 := ⟨show decode code 194 = .ok (.iaload, 1) by decide +kernel, rfl⟩
theorem d_Lw_195 {nm : String} : dd (m_Lw nm) 195 (.aload_n 0) 1 196 := ⟨show decode code 195 = .ok (.aload_n 0, 1) by decide +kernel, rfl⟩
theorem d_Lw_196 {nm : String} : dd (m_Lw nm) 196 (.iload 4) 2 198 := ⟨show decode code 196 = .ok (.iload 4, 2) by decide +kernel, rfl⟩
theorem d_Lw_198 {nm : String} : dd (m_Lw nm) 198 (.iconst 4) 1 199 := ⟨show decode code 198 = .ok (.iconst 4, 1) by decide +kernel, rfl⟩
theorem d_Lw_199 {nm : String} : dd (m_Lw nm) 199 .iadd 1 200 := ⟨show decode code 199 = .ok (.iadd, 1) by decide +kernel, rfl⟩
theorem d_Lw_200 {nm : String} : dd (m_Lw nm) 200 .iaload 1 201 := ⟨show decode code 200 = .ok (.iaload, 1) by decide +kernel, rfl⟩
theorem d_Lw_201 {nm : String} : dd (m_Lw nm) 201 (.aload_n 0) 1 202 := ⟨show decode code 201 = .ok (.aload_n 0, 1) by decide +kernel, rfl⟩
theorem d_Lw_202 {nm : String} : dd (m_Lw nm) 202 (.iload 4) 2 204 := ⟨show decode code 202 = .ok (.iload 4, 2) by decide +kernel, rfl⟩
theorem d_Lw_204 {nm : String} : dd (m_Lw nm) 204 (.iconst 5) 1 205 := ⟨show decode code 204 = .ok (.iconst 5, 1) by decide +kernel, rfl⟩
theorem d_Lw_205 {nm : String} : dd (m_Lw nm) 205 .iadd 1 206 := ⟨show decode code 205 = .ok (.iadd, 1) by decide +kernel, rfl⟩
theorem d_Lw_206 {nm : String} : dd (m_Lw nm) 206 .iaload 1 207 := ⟨show decode code 206 = .ok (.iaload, 1) by decide +kernel, rfl⟩
theorem d_Lw_207 {nm : String} : dd (m_Lw nm) 207 (.invokevirtual 22) 3 210 := ⟨show decode code 207 = .ok (.invokevirtual 22, 3) by decide +kernel, rfl⟩
theorem d_Lw_210 {nm : String} : dd (m_Lw nm) 210 (.aload_n 2) 1 211 := ⟨show decode code 210 = .ok (.aload_n 2, 1) by decide +kernel, rfl⟩
theorem d_Lw_211 {nm : String} : dd (m_Lw nm) 211 (.aload_n 0) 1 212 := ⟨show decode code 211 = .ok (.aload_n 0, 1) by decide +kernel, rfl⟩
theorem d_Lw_212 {nm : String} : dd (m_Lw nm) 212 (.iload 4) 2 214 := ⟨show decode code 212 = .ok (.iload 4, 2) by decide +kernel, rfl⟩
theorem d_Lw_214 {nm : String} : dd (m_Lw nm) 214 (.iconst 1) 1 215 := ⟨show decode code 214 = .ok (.iconst 1, 1) by decide +kernel, rfl⟩
theorem d_Lw_215 {nm : String} : dd (m_Lw nm) 215 .iadd 1 216 := ⟨show decode code 215 = .ok (.iadd, 1) by decide +kernel, rfl⟩
theorem d_Lw_216 {nm : String} : dd (m_Lw nm) 216 .iaload 1 217 := ⟨show decode code 216 = .ok (.iaload, 1) by decide +kernel, rfl⟩
theorem d_Lw_217 {nm : String} : dd (m_Lw nm) 217 (.aload_n 0) 1 218 := ⟨show decode code 217 = .ok (.aload_n 0, 1) by decide +kernel, rfl⟩
theorem d_Lw_218 {nm : String} : dd (m_Lw nm) 218 (.iload 4) 2 220 := ⟨show decode code 218 = .ok (.iload 4, 2) by decide +kernel, rfl⟩
theorem d_Lw_220 {nm : String} : dd (m_Lw nm) 220 (.iconst 2) 1 221 := ⟨show decode code 220 = .ok (.iconst 2, 1) by decide +kernel, rfl⟩
theorem d_Lw_221 {nm : String} : dd (m_Lw nm) 221 .iadd 1 222 := ⟨show decode code 221 = .ok (.iadd, 1) by decide +kernel, rfl⟩
theorem d_Lw_222 {nm : String} : dd (m_Lw nm) 222 .iaload 1 223 := ⟨show decode code 222 = .ok (.iaload, 1) by decide +kernel, rfl⟩
theorem d_Lw_223 {nm : String} : dd (m_Lw nm) 223 (.aload_n 0) 1 224 := ⟨show decode code 223 = .ok (.aload_n 0, 1) by decide +kernel, rfl⟩
theorem d_Lw_224 {nm : String} : dd (m_Lw nm) 224 (.iload 4) 2 226 := ⟨show decode code 224 = .ok (.iload 4, 2) by decide +kernel, rfl⟩
theorem d_Lw_226 {nm : String} : dd (m_Lw nm) 226 (.iconst 3) 1 227 := ⟨show decode code 226 = .ok (.iconst 3, 1) by decide +kernel, rfl⟩
theorem d_Lw_227 {nm : String} : dd (m_Lw nm) 227 .iadd 1 228 := ⟨show decode code 227 = .ok (.iadd, 1) by decide +kernel, rfl⟩
theorem d_Lw_228 {nm : String} : dd (m_Lw nm) 228 .iaload 1 229 := ⟨show decode code 228 = .ok (.iaload, 1) by decide +kernel, rfl⟩
theorem d_Lw_229 {nm : String} : dd (m_Lw nm) 229 (.aload_n 0) 1 230 := ⟨show decode code 229 = .ok (.aload_n 0, 1) by decide +kernel, rfl⟩
theorem d_Lw_230 {nm : String} : dd (m_Lw nm) 230 (.iload 4) 2 232 := ⟨show decode code 230 = .ok (.iload 4, 2) by decide +kernel, rfl⟩
theorem d_Lw_232 {nm : String} : dd (m_Lw nm) 232 (.iconst 4) 1 233 := ⟨show decode code 232 = .ok (.iconst 4, 1) by decide +kernel, rfl⟩
theorem d_Lw_233 {nm : String} : dd (m_Lw nm) 233 .iadd 1 234 := ⟨show decode code 233 = .ok (.iadd, 1) by decide +kernel, rfl⟩
theorem d_Lw_234 {nm : String} : dd (m_Lw nm) 234 .iaload 1 235 := ⟨show decode code 234 = .ok (.iaload, 1) by decide +kernel, rfl⟩
theorem d_Lw_235 {nm : String} : dd (m_Lw nm) 235 (.aload_n 0) 1 236 := ⟨show decode code 235 = .ok (.aload_n 0, 1) by decide +kernel, rfl⟩
theorem d_Lw_236 {nm : String} : dd (m_Lw nm) 236 (.iload 4) 2 238 := ⟨show decode code 236 = .ok (.iload 4, 2) by decide +kernel, rfl⟩
theorem d_Lw_238 {nm : String} : dd (m_Lw nm) 238 (.iconst 5) 1 239 := ⟨show decode code 238 = .ok (.iconst 5, 1) by decide +kernel, rfl⟩
theorem d_Lw_239 {nm : String} : dd (m_Lw nm) 239 .iadd 1 240 := ⟨show decode code 239 = .ok (.iadd, 1) by decide +kernel, rfl⟩
theorem d_Lw_240 {nm : String} : dd (m_Lw nm) 240 .iaload 1 241 := ⟨show decode code 240 = .ok (.iaload, 1) by decide +kernel, rfl⟩
theorem d_Lw_241 {nm : String} : dd (m_Lw nm) 241 (.invokevirtual 26) 3 244 := ⟨show decode code 241 = .ok (.invokevirtual 26, 3) by decide +kernel, rfl⟩
theorem d_Lw_244 {nm : String} : db (m_Lw nm) 244 (.if_icmp .eq) 247 1396 := ⟨1152, show decode code 244 = .ok (.if_icmp .eq 1152, 3) by decide +kernel, rfl, rfl⟩
theorem d_Lw_247 {nm : String} : dd (m_Lw nm) 247 (.iconst 0) 1 248 := ⟨show decode code 247 = .ok (.iconst 0, 1) by decide +kernel, rfl⟩
theorem d_Lw_248 {nm : String} : decode (mbt (m_Lw nm)) 248 = .ok (.ireturn, 1) := show decode code 248 = .ok (.ireturn, 1) by decide +kernel
theorem d_Lw_249 {nm : String} : dd (m_Lw nm) 249 (.aload_n 1) 1 250 := ⟨show decode code 249 = .ok (.aload_n 1, 1) by decide +kernel, rfl⟩
theorem d_Lw_250 {nm : String} : dd (m_Lw nm) 250 (.aload_n 0) 1 251 := ⟨show decode code 250 = .ok (.aload_n 0, 1) by decide +kernel, rfl⟩
theorem d_Lw_251 {nm : String} : dd (m_Lw nm) 251 (.iload 4) 2 253 := ⟨show decode code 251 = .ok (.iload 4, 2) by decide +kernel, rfl⟩
theorem d_Lw_253 {nm : String} : dd (m_Lw nm) 253 (.iconst 1) 1 254 := ⟨show decode code 253 = .ok (.iconst 1, 1) by decide +kernel, rfl⟩
theorem d_Lw_254 {nm : String} : dd (m_Lw nm) 254 .iadd 1 255 := ⟨show decode code 254 = .ok (.iadd, 1) by decide +kernel, rfl⟩
theorem d_Lw_255 {nm : String} : dd (m_Lw nm) 255 .iaload 1 256 := ⟨show decode code 255 = .ok (.iaload, 1) by decide +kernel, rfl⟩
theorem d_Lw_256 {nm : String} : dd (m_Lw nm) 256 (.invokevirtual 27) 3 259 := ⟨show decode code 256 = .ok (.invokevirtual 27, 3) by decide +kernel, rfl⟩
theorem d_Lw_259 {nm : String} : dd (m_Lw nm) 259 (.aload_n 2) 1 260 := ⟨show decode code 259 = .ok (.aload_n 2, 1) by decide +kernel, rfl⟩
theorem d_Lw_260 {nm : String} : dd (m_Lw nm) 260 (.aload_n 0) 1 261 := ⟨show decode code 260 = .ok (.aload_n 0, 1) by decide +kernel, rfl⟩
theorem d_Lw_261 {nm : String} : dd (m_Lw nm) 261 (.iload 4) 2 263 := ⟨show decode code 261 = .ok (.iload 4, 2) by decide +kernel, rfl⟩
theorem d_Lw_263 {nm : String} : dd (m_Lw nm) 263 (.iconst 1) 1 264 := ⟨show decode code 263 = .ok (.iconst 1, 1) by decide +kernel, rfl⟩
theorem d_Lw_264 {nm : String} : dd (m_Lw nm) 264 .iadd 1 265 := ⟨show decode code 264 = .ok (.iadd, 1) by decide +kernel, rfl⟩
theorem d_Lw_265 {nm : String} : dd (m_Lw nm) 265 .iaload 1 266 := ⟨show decode code 265 = .ok (.iaload, 1) by decide +kernel, rfl⟩
theorem d_Lw_266 {nm : String} : dd (m_Lw nm) 266 (.invokevirtual 31) 3 269 := ⟨show decode code 266 = .ok (.invokevirtual 31, 3) by decide +kernel, rfl⟩
theorem d_Lw_269 {nm : String} : db (m_Lw nm) 269 (.if_icmp .eq) 272 1396 := ⟨1127, show decode code 269 = .ok (.if_icmp .eq 1127, 3) by decide +kernel, rfl, rfl⟩
theorem d_Lw_272 {nm : String} : dd (m_Lw nm) 272 (.iconst 0) 1 273 := ⟨show decode code 272 = .ok (.iconst 0, 1) by decide +kernel, rfl⟩
theorem d_Lw_273 {nm : String} : decode (mbt (m_Lw nm)) 273 = .ok (.ireturn, 1) := show decode code 273 = .ok (.ireturn, 1) by decide +kernel
theorem d_Lw_274 {nm : String} : dd (m_Lw nm) 274 (.aload_n 1) 1 275 := ⟨show decode code 274 = .ok (.aload_n 1, 1) by decide +kernel, rfl⟩
theorem d_Lw_275 {nm : String} : dd (m_Lw nm) 275 (.invokevirtual 32) 3 278 := ⟨show decode code 275 = .ok (.invokevirtual 32, 3) by decide +kernel, rfl⟩
theorem d_Lw_278 {nm : String} : dd (m_Lw nm) 278 (.aload_n 2) 1 279 := ⟨show decode code 278 = .ok (.aload_n 2, 1) by decide +kernel, rfl⟩
theorem d_Lw_279 {nm : String} : dd (m_Lw nm) 279 (.invokevirtual 36) 3 282 := ⟨show decode code 279 = .ok (.invokevirtual 36, 3) by decide +kernel, rfl⟩
theorem d_Lw_282 {nm : String} : db (m_Lw nm) 282 (.if_icmp .eq) 285 1396 := ⟨1114, show decode code 282 = .ok (.if_icmp .eq 1114, 3) by decide +kernel, rfl, rfl⟩
theorem d_Lw_285 {nm : String} : dd (m_Lw nm) 285 (.iconst 0) 1 286 := ⟨show decode code 285 = .ok (.iconst 0, 1) by decide +kernel, rfl⟩
theorem d_Lw_286 {nm : String} : decode (mbt (m_Lw nm)) 286 = .ok (.ireturn, 1) := show decode code 286 = .ok (.ireturn, 1) by decide +kernel
theorem d_Lw_287 {nm : String} : dd (m_Lw nm) 287 (.aload_n 1) 1 288 := ⟨show decode code 287 = .ok (.aload_n 1, 1) by decide +kernel, rfl⟩
theorem d_Lw_288 {nm : String} : dd (m_Lw nm) 288 (.invokevirtual 37) 3 291 := ⟨show decode code 288 = .ok (.invokevirtual 37, 3) by decide +kernel, rfl⟩
theorem d_Lw_291 {nm : String} : dd (m_Lw nm) 291 (.aload_n 2) 1 292 := ⟨show decode code 291 = .ok (.aload_n 2, 1) by decide +kernel, rfl⟩
theorem d_Lw_292 {nm : String} : dd (m_Lw nm) 292 (.invokevirtual 40) 3 295 := ⟨show decode code 292 = .ok (.invokevirtual 40, 3) by decide +kernel, rfl⟩
theorem d_Lw_295 {nm : String} : db (m_Lw nm) 295 (.if_icmp .eq) 298 1396 := ⟨1101, show decode code 295 = .ok (.if_icmp .eq 1101, 3) by decide +kernel, rfl, rfl⟩
theorem d_Lw_298 {nm : String} : dd (m_Lw nm) 298 (.iconst 0) 1 299 := ⟨show decode code 298 = .ok (.iconst 0, 1) by decide +kernel, rfl⟩
theorem d_Lw_299 {nm : String} : decode (mbt (m_Lw nm)) 299 = .ok (.ireturn, 1) := show decode code 299 = .ok (.ireturn, 1) by decide +kernel
theorem d_Lw_300 {nm : String} : dd (m_Lw nm) 300 (.aload_n 1) 1 301 := ⟨show decode code 300 = .ok (.aload_n 1, 1) by decide +kernel, rfl⟩
theorem d_Lw_301 {nm : String} : dd (m_Lw nm) 301 (.aload_n 0) 1 302 := ⟨show decode code 301 = .ok (.aload_n 0, 1) by decide +kernel, rfl⟩
theorem d_Lw_302 {nm : String} : dd (m_Lw nm) 302 (.iload 4) 2 304 := ⟨show decode code 302 = .ok (.iload 4, 2) by decide +kernel, rfl⟩
theorem d_Lw_304 {nm : String} : dd (m_Lw nm) 304 (.iconst 1) 1 305 := ⟨show decode code 304 = .ok (.iconst 1, 1) by decide +kernel, rfl⟩
theorem d_Lw_305 {nm : String} : dd (m_Lw nm) 305 .iadd 1 306 := ⟨show decode code 305 = .ok (.iadd, 1) by decide +kernel, rfl⟩
theorem d_Lw_306 {nm : String} : dd (m_Lw nm) 306 .iaload 1 307 := ⟨show decode code 306 = .ok (.iaload, 1) by decide +kernel, rfl⟩
theorem d_Lw_307 {nm : String} : dd (m_Lw nm) 307 (.invokevirtual 41) 3 310 := ⟨show decode code 307 = .ok (.invokevirtual 41, 3) by decide +kernel, rfl⟩
theorem d_Lw_310 {nm : String} : dd (m_Lw nm) 310 (.aload_n 2) 1 311 := ⟨show decode code 310 = .ok (.aload_n 2, 1) by decide +kernel, rfl⟩
theorem d_Lw_311 {nm : String} : dd (m_Lw nm) 311 (.aload_n 0) 1 312 := ⟨show decode code 311 = .ok (.aload_n 0, 1) by decide +kernel, rfl⟩
theorem d_Lw_312 {nm : String} : dd (m_Lw nm) 312 (.iload 4) 2 314 := ⟨show decode code 312 = .ok (.iload 4, 2) by decide +kernel, rfl⟩
theorem d_Lw_314 {nm : String} : dd (m_Lw nm) 314 (.iconst 1) 1 315 := ⟨show decode code 314 = .ok (.iconst 1, 1) by decide +kernel, rfl⟩
theorem d_Lw_315 {nm : String} : dd (m_Lw nm) 315 .iadd 1 316 := ⟨show decode code 315 = .ok (.iadd, 1) by decide +kernel, rfl⟩
theorem d_Lw_316 {nm : String} : dd (m_Lw nm) 316 .iaload 1 317 := ⟨show decode code 316 = .ok (.iaload, 1) by decide +kernel, rfl⟩
theorem d_Lw_317 {nm : String} : dd (m_Lw nm) 317 (.invokevirtual 45) 3 320 := ⟨show decode code 317 = .ok (.invokevirtual 45, 3) by decide +kernel, rfl⟩
theorem d_Lw_320 {nm : String} : db (m_Lw nm) 320 (.if_icmp .eq) 323 1396 := ⟨1076, show decode code 320 = .ok (.if_icmp .eq 1076, 3) by decide +kernel, rfl, rfl⟩
theorem d_Lw_323 {nm : String} : dd (m_Lw nm) 323 (.iconst 0) 1 324 := ⟨show decode code 323 = .ok (.iconst 0, 1) by decide +kernel, rfl⟩
theorem d_Lw_324 {nm : String} : decode (mbt (m_Lw nm)) 324 = .ok (.ireturn, 1) := show decode code 324 = .ok (.ireturn, 1) by decide +kernel
theorem d_Lw_325 {nm : String} : dd (m_Lw nm) 325 (.aload_n 1) 1 326 := ⟨show decode code 325 = .ok (.aload_n 1, 1) by decide +kernel, rfl⟩
theorem d_Lw_326 {nm : String} : dd (m_Lw nm) 326 (.aload_n 0) 1 327 := ⟨show decode code 326 = .ok (.aload_n 0, 1) by decide +kernel, rfl⟩
theorem d_Lw_327 {nm : String} : dd (m_Lw nm) 327 (.iload 4) 2 329 := ⟨show decode code 327 = .ok (.iload 4, 2) by decide +kernel, rfl⟩
theorem d_Lw_329 {nm : String} : dd (m_Lw nm) 329 (.iconst 1) 1 330 := ⟨show decode code 329 = .ok (.iconst 1, 1) by decide +kernel, rfl⟩
theorem d_Lw_330 {nm : String} : dd (m_Lw nm) 330 .iadd 1 331 := ⟨show decode code 330 = .ok (.iadd, 1) by decide +kernel, rfl⟩
theorem d_Lw_331 {nm : String} : dd (m_Lw nm) 331 .iaload 1 332 := ⟨show decode code 331 = .ok (.iaload, 1) by decide +kernel, rfl⟩
theorem d_Lw_332 {nm : String} : dd (m_Lw nm) 332 (.aload_n 0) 1 333 := ⟨show decode code 332 = .ok (.aload_n 0, 1) by decide +kernel, rfl⟩
theorem d_Lw_333 {nm : String} : dd (m_Lw nm) 333 (.iload 4) 2 335 := ⟨show decode code 333 = .ok (.iload 4, 2) by decide +kernel, rfl⟩
theorem d_Lw_335 {nm : String} : dd (m_Lw nm) 335 (.iconst 2) 1 336 := ⟨show decode code 335 = .ok (.iconst 2, 1) by decide +kernel, rfl⟩
theorem d_Lw_336 {nm : String} : dd (m_Lw nm) 336 .iadd 1 337 := ⟨show decode code 336 = .ok (.iadd, 1) by decide +kernel, rfl⟩
theorem d_Lw_337 {nm : String} : dd (m_Lw nm) 337 .iaload 1 338 := ⟨show decode code 337 = .ok (.iaload, 1) by decide +kernel, rfl⟩
theorem d_Lw_338 {nm : String} : dd (m_Lw nm) 338 (.invokevirtual 46) 3 341 := ⟨show decode code 338 = .ok (.invokevirtual 46, 3) by decide +kernel, rfl⟩
theorem d_Lw_341 {nm : String} : dd (m_Lw nm) 341 (.aload_n 2) 1 342 := ⟨show decode code 341 = .ok (.aload_n 2, 1) by decide +kernel, rfl⟩
theorem d_Lw_342 {nm : String} : dd (m_Lw nm) 342 (.aload_n 0) 1 343 := ⟨show decode code 342 = .ok (.aload_n 0, 1) by decide +kernel, rfl⟩
theorem d_Lw_343 {nm : String} : dd (m_Lw nm) 343 (.iload 4) 2 345 := ⟨show decode code 343 = .ok (.iload 4, 2) by decide +kernel, rfl⟩
theorem d_Lw_345 {nm : String} : dd (m_Lw nm) 345 (.iconst 1) 1 346 := ⟨show decode code 345 = .ok (.iconst 1, 1) by decide +kernel, rfl⟩
theorem d_Lw_346 {nm : String} : dd (m_Lw nm) 346 .iadd 1 347 := ⟨show decode code 346 = .ok (.iadd, 1) by decide +kernel, rfl⟩
theorem d_Lw_347 {nm : String} : dd (m_Lw nm) 347 .iaload 1 348 := ⟨show decode code 347 = .ok (.iaload, 1) by decide +kernel, rfl⟩
theorem d_Lw_348 {nm : String} : dd (m_Lw nm) 348 (.aload_n 0) 1 349 := ⟨show decode code 348 = .ok (.aload_n 0, 1) by decide +kernel, rfl⟩
theorem d_Lw_349 {nm : String} : dd (m_Lw nm) 349 (.iload 4) 2 351 := ⟨show decode code 349 = .ok (.iload 4, 2) by decide +kernel, rfl⟩
theorem d_Lw_351 {nm : String} : dd (m_Lw nm) 351 (.iconst 2) 1 352 := ⟨show decode code 351 = .ok (.iconst 2, 1) by decide +kernel, rfl⟩
theorem d_Lw_352 {nm : String} : dd (m_Lw nm) 352 .iadd 1 353 := ⟨show decode code 352 = .ok (.iadd, 1) by decide +kernel, rfl⟩
theorem d_Lw_353 {nm : String} : dd (m_Lw nm) 353 .iaload 1 354 := ⟨show decode code 353 = .ok (.iaload, 1) by decide +kernel, rfl⟩
theorem d_Lw_354 {nm : String} : dd (m_Lw nm) 354 (.invokevirtual 50) 3 357 := ⟨show decode code 354 = .ok (.invokevirtual 50, 3) by decide +kernel, rfl⟩
theorem d_Lw_357 {nm : String} : db (m_Lw nm) 357 (.if_icmp .eq) 360 1396 := ⟨1039, show decode code 357 = .ok (.if_icmp .eq 1039, 3) by decide +kernel, rfl, rfl⟩
theorem d_Lw_360 {nm : String} : dd (m_Lw nm) 360 (.iconst 0) 1 361 := ⟨show decode code 360 = .ok (.iconst 0, 1) by decide +kernel, rfl⟩
theorem d_Lw_361 {nm : String} : decode (mbt (m_Lw nm)) 361 = .ok (.ireturn, 1) := show decode code 361 = .ok (.ireturn, 1) by decide +kernel
theorem d_Lw_362 {nm : String} : dd (m_Lw nm) 362 (.aload_n 1) 1 363 := ⟨show decode code 362 = .ok (.aload_n 1, 1) by decide +kernel, rfl⟩
theorem d_Lw_363 {nm : String} : dd (m_Lw nm) 363 (.aload_n 0) 1 364 := ⟨show decode code 363 = .ok (.aload_n 0, 1) by decide +kernel, rfl⟩
theorem d_Lw_364 {nm : String} : dd (m_Lw nm) 364 (.iload 4) 2 366 := ⟨show decode code 364 = .ok (.iload 4, 2) by decide +kernel, rfl⟩
theorem d_Lw_366 {nm : String} : dd (m_Lw nm) 366 (.iconst 1) 1 367 := ⟨show decode code 366 = .ok (.iconst 1, 1) by decide +kernel, rfl⟩
theorem d_Lw_367 {nm : String} : dd (m_Lw nm) 367 .iadd 1 368 := ⟨show decode code 367 = .ok (.iadd, 1) by decide +kernel, rfl⟩
theorem d_Lw_368 {nm : String} : dd (m_Lw nm) 368 .iaload 1 369 := ⟨show decode code 368 = .ok (.iaload, 1) by decide +kernel, rfl⟩
theorem d_Lw_369 {nm : String} : dd (m_Lw nm) 369 (.aload_n 0) 1 370 := ⟨show decode code 369 = .ok (.aload_n 0, 1) by decide +kernel, rfl⟩
theorem d_Lw_370 {nm : String} : dd (m_Lw nm) 370 (.iload 4) 2 372 := ⟨show decode code 370 = .ok (.iload 4, 2) by decide +kernel, rfl⟩
theorem d_Lw_372 {nm : String} : dd (m_Lw nm) 372 (.iconst 2) 1 373 := ⟨show decode code 372 = .ok (.iconst 2, 1) by decide +kernel, rfl⟩
theorem d_Lw_373 {nm : String} : dd (m_Lw nm) 373 .iadd 1 374 := ⟨show decode code 373 = .ok (.iadd, 1) by decide +kernel, rfl⟩
theorem d_Lw_374 {nm : String} : dd (m_Lw nm) 374 .iaload 1 375 := ⟨show decode code 374 = .ok (.iaload, 1) by decide +kernel, rfl⟩
theorem d_Lw_375 {nm : String} : dd (m_Lw nm) 375 (.aload_n 0) 1 376 := ⟨show decode code 375 = .ok (.aload_n 0, 1) by decide +kernel, rfl⟩
theorem d_Lw_376 {nm : String} : dd (m_Lw nm) 376 (.iload 4) 2 378 := ⟨show decode code 376 = .ok (.iload 4, 2) by decide +kernel, rfl⟩
theorem d_Lw_378 {nm : String} : dd (m_Lw nm) 378 (.iconst 3) 1 379 := ⟨show decode code 378 = .ok (.iconst 3, 1) by decide +kernel, rfl⟩
theorem d_Lw_379 {nm : String} : dd (m_Lw nm) 379 .iadd 1 380 := ⟨show decode code 379 = .ok (.iadd, 1) by decide +kernel, rfl⟩
theorem d_Lw_380 {nm : String} : dd (m_Lw nm) 380 .iaload 1 381 := ⟨show decode code 380 = .ok (.iaload, 1) by decide +kernel, rfl⟩
theorem d_Lw_381 {nm : String} : dd (m_Lw nm) 381 (.invokevirtual 51) 3 384 := ⟨show decode code 381 = .ok (.invokevirtual 51, 3) by decide +kernel, rfl⟩
theorem d_Lw_384 {nm : String} : dd (m_Lw nm) 384 (.aload_n 2) 1 385 := ⟨show decode code 384 = .ok (.aload_n 2, 1) by decide +kernel, rfl⟩
theorem d_Lw_385 {nm : String} : dd (m_Lw nm) 385 (.aload_n 0) 1 386 := ⟨show decode code 385 = .ok (.aload_n 0, 1) by decide +kernel, rfl⟩
theorem d_Lw_386 {nm : String} : dd (m_Lw nm) 386 (.iload 4) 2 388 := ⟨show decode code 386 = .ok (.iload 4, 2) by decide +kernel, rfl⟩
theorem d_Lw_388 {nm : String} : dd (m_Lw nm) 388 (.iconst 1) 1 389 := ⟨show decode code 388 = .ok (.iconst 1, 1) by decide +kernel, rfl⟩
theorem d_Lw_389 {nm : String} : dd (m_Lw nm) 389 .iadd 1 390 := ⟨show decode code 389 = .ok (.iadd, 1) by decide +kernel, rfl⟩
theorem d_Lw_390 {nm : String} : dd (m_Lw nm) 390 .iaload 1 391 := ⟨show decode code 390 = .ok (.iaload, 1) by decide +kernel, rfl⟩
theorem d_Lw_391 {nm : String} : dd (m_Lw nm) 391 (.aload_n 0) 1 392 := ⟨show decode code 391 = .ok (.aload_n 0, 1) by decide +kernel, rfl⟩
theorem d_Lw_392 {nm : String} : dd (m_Lw nm) 392 (.iload 4) 2 394 := ⟨show decode code 392 = .ok (.iload 4, 2) by decide +kernel, rfl⟩
theorem d_Lw_394 {nm : String} : dd (m_Lw nm) 394 (.iconst 2) 1 395 := ⟨show decode code 394 = .ok (.iconst 2, 1) by decide +kernel, rfl⟩
theorem d_Lw_395 {nm : String} : dd (m_Lw nm) 395 .iadd 1 396 := ⟨show decode code 395 = .ok (.iadd, 1) by decide +kernel, rfl⟩
theorem d_Lw_396 {nm : String} : dd (m_Lw nm) 396 .iaload 1 397 := ⟨show decode code 396 = .ok (.iaload, 1) by decide +kernel, rfl⟩
theorem d_Lw_397 {nm : String} : dd (m_Lw nm) 397 (.aload_n 0) 1 398 := ⟨show decode code 397 = .ok (.aload_n 0, 1) by decide +kernel, rfl⟩
theorem d_Lw_398 {nm : String} : dd (m_Lw nm) 398 (.iload 4) 2 400 := ⟨show decode code 398 = .ok (.iload 4, 2) by decide +kernel, rfl⟩
theorem d_Lw_400 {nm : String} : dd (m_Lw nm) 400 (.iconst 3) 1 401 := ⟨show decode code 400 = .ok (.iconst 3, 1) by decide +kernel, rfl⟩
theorem d_Lw_401 {nm : String} : dd (m_Lw nm) 401 .iadd 1 402 := ⟨show decode code 401 = .ok (.iadd, 1) by decide +kernel, rfl⟩
theorem d_Lw_402 {nm : String} : dd (m_Lw nm) 402 .iaload 1 403 := ⟨show decode code 402 = .ok (.iaload, 1) by decide +kernel, rfl⟩
theorem d_Lw_403 {nm : String} : dd (m_Lw nm) 403 (.invokevirtual 54) 3 406 := ⟨show decode code 403 = .ok (.invokevirtual 54, 3) by decide +kernel, rfl⟩
theorem d_Lw_406 {nm : String} : db (m_Lw nm) 406 (.if_icmp .eq) 409 1396 := ⟨990, show decode code 406 = .ok (.if_icmp .eq 990, 3) by decide +kernel, rfl, rfl⟩
theorem d_Lw_409 {nm : String} : dd (m_Lw nm) 409 (.iconst 0) 1 410 := ⟨show decode code 409 = .ok (.iconst 0, 1) by decide +kernel, rfl⟩
theorem d_Lw_410 {nm : String} : decode (mbt (m_Lw nm)) 410 = .ok (.ireturn, 1) := show decode code 410 = .ok (.ireturn, 1) by decide +kernel
theorem d_Lw_411 {nm : String} : dd (m_Lw nm) 411 (.aload_n 1) 1 412 := ⟨show decode code 411 = .ok (.aload_n 1, 1) by decide +kernel, rfl⟩
theorem d_Lw_412 {nm : String} : dd (m_Lw nm) 412 (.aload_n 0) 1 413 := ⟨show decode code 412 = .ok (.aload_n 0, 1) by decide +kernel, rfl⟩
theorem d_Lw_413 {nm : String} : dd (m_Lw nm) 413 (.iload 4) 2 415 := ⟨show decode code 413 = .ok (.iload 4, 2) by decide +kernel, rfl⟩
theorem d_Lw_415 {nm : String} : dd (m_Lw nm) 415 (.iconst 1) 1 416 := ⟨show decode code 415 = .ok (.iconst 1, 1) by decide +kernel, rfl⟩
theorem d_Lw_416 {nm : String} : dd (m_Lw nm) 416 .iadd 1 417 := ⟨show decode code 416 = .ok (.iadd, 1) by decide +kernel, rfl⟩
theorem d_Lw_417 {nm : String} : dd (m_Lw nm) 417 .iaload 1 418 := ⟨show decode code 417 = .ok (.iaload, 1) by decide +kernel, rfl⟩
theorem d_Lw_418 {nm : String} : dd (m_Lw nm) 418 (.aload_n 0) 1 419 := ⟨show decode code 418 = .ok (.aload_n 0, 1) by decide +kernel, rfl⟩
theorem d_Lw_419 {nm : String} : dd (m_Lw nm) 419 (.iload 4) 2 421 := ⟨show decode code 419 = .ok (.iload 4, 2) by decide +kernel, rfl⟩
theorem d_Lw_421 {nm : String} : dd (m_Lw nm) 421 (.iconst 2) 1 422 := ⟨show decode code 421 = .ok (.iconst 2, 1) by decide +kernel, rfl⟩
theorem d_Lw_422 {nm : String} : dd (m_Lw nm) 422 .iadd 1 423 := ⟨show decode code 422 = .ok (.iadd, 1) by decide +kernel, rfl⟩
theorem d_Lw_423 {nm : String} : dd (m_Lw nm) 423 .iaload 1 424 := ⟨show decode code 423 = .ok (.iaload, 1) by decide +kernel, rfl⟩
theorem d_Lw_424 {nm : String} : dd (m_Lw nm) 424 (.aload_n 0) 1 425 := ⟨show decode code 424 = .ok (.aload_n 0, 1) by decide +kernel, rfl⟩
theorem d_Lw_425 {nm : String} : dd (m_Lw nm) 425 (.iload 4) 2 427 := ⟨show decode code 425 = .ok (.iload 4, 2) by decide +kernel, rfl⟩
theorem d_Lw_427 {nm : String} : dd (m_Lw nm) 427 (.iconst 3) 1 428 := ⟨show decode code 427 = .ok (.iconst 3, 1) by decide +kernel, rfl⟩
theorem d_Lw_428 {nm : String} : dd (m_Lw nm) 428 .iadd 1 429 := ⟨show decode code 428 = .ok (.iadd, 1) by decide +kernel, rfl⟩
theorem d_Lw_429 {nm : String} : dd (m_Lw nm) 429 .iaload 1 430 := ⟨show decode code 429 = .ok (.iaload, 1) by decide +kernel, rfl⟩
theorem d_Lw_430 {nm : String} : dd (m_Lw nm) 430 (.aload_n 0) 1 431 := ⟨show decode code 430 = .ok (.aload_n 0, 1) by decide +kernel, rfl⟩
theorem d_Lw_431 {nm : String} : dd (m_Lw nm) 431 (.iload 4) 2 433 := ⟨show decode code 431 = .ok (.iload 4, 2) by decide +kernel, rfl⟩
theorem d_Lw_433 {nm : String} : dd (m_Lw nm) 433 (.iconst 4) 1 434 := ⟨show decode code 433 = .ok (.iconst 4, 1) by decide +kernel, rfl⟩
theorem d_Lw_434 {nm : String} : dd (m_Lw nm) 434 .iadd 1 435 := ⟨show decode code 434 = .ok (.iadd, 1) by decide +kernel, rfl⟩
theorem d_Lw_435 {nm : String} : dd (m_Lw nm) 435 .iaload 1 436 := ⟨show decode code 435 = .ok (.iaload, 1) by decide +kernel, rfl⟩
theorem d_Lw_436 {nm : String} : dd (m_Lw nm) 436 (.invokevirtual 55) 3 439 := ⟨show decode code 436 = .ok (.invokevirtual 55, 3) by decide +kernel, rfl⟩
theorem d_Lw_439 {nm : String} : dd (m_Lw nm) 439 (.aload_n 2) 1 440 := ⟨show decode code 439 = .ok (.aload_n 2, 1) by decide +kernel, rfl⟩
theorem d_Lw_440 {nm : String} : dd (m_Lw nm) 440 (.aload_n 0) 1 441 := ⟨show decode code 440 = .ok (.aload_n 0, 1) by decide +kernel, rfl⟩
theorem d_Lw_441 {nm : String} : dd (m_Lw nm) 441 (.iload 4) 2 443 := ⟨show decode code 441 = .ok (.iload 4, 2) by decide +kernel, rfl⟩
theorem d_Lw_443 {nm : String} : dd (m_Lw nm) 443 (.iconst 1) 1 444 := ⟨show decode code 443 = .ok (.iconst 1, 1) by decide +kernel, rfl⟩
theorem d_Lw_444 {nm : String} : dd (m_Lw nm) 444 .iadd 1 445 := ⟨show decode code 444 = .ok (.iadd, 1) by decide +kernel, rfl⟩
theorem d_Lw_445 {nm : String} : dd (m_Lw nm) 445 .iaload 1 446 := ⟨show decode code 445 = .ok (.iaload, 1) by decide +kernel, rfl⟩
theorem d_Lw_446 {nm : String} : dd (m_Lw nm) 446 (.aload_n 0) 1 447 := ⟨show decode code 446 = .ok (.aload_n 0, 1) by decide +kernel, rfl⟩
theorem d_Lw_447 {nm : String} : dd (m_Lw nm) 447 (.iload 4) 2 449 := ⟨show decode code 447 = .ok (.iload 4, 2) by decide +kernel, rfl⟩
theorem d_Lw_449 {nm : String} : dd (m_Lw nm) 449 (.iconst 2) 1 450 := ⟨show decode code 449 = .ok (.iconst 2, 1) by decide +kernel, rfl⟩
theorem d_Lw_450 {nm : String} : dd (m_Lw nm) 450 .iadd 1 451 := ⟨show decode code 450 = .ok (.iadd, 1) by decide +kernel, rfl⟩
theorem d_Lw_451 {nm : String} : dd (m_Lw nm) 451 .iaload 1 452 := ⟨show decode code 451 = .ok (.iaload, 1) by decide +kernel, rfl⟩
theorem d_Lw_452 {nm : String} : dd (m_Lw nm) 452 (.aload_n 0) 1 453 := ⟨show decode code 452 = .ok (.aload_n 0, 1) by decide +kernel, rfl⟩
theorem d_Lw_453 {nm : String} : dd (m_Lw nm) 453 (.iload 4) 2 455 := ⟨show decode code 453 = .ok (.iload 4, 2) by decide +kernel, rfl⟩
theorem d_Lw_455 {nm : String} : dd (m_Lw nm) 455 (.iconst 3) 1 456 := ⟨show decode code 455 = .ok (.iconst 3, 1) by decide +kernel, rfl⟩
theorem d_Lw_456 {nm : String} : dd (m_Lw nm) 456 .iadd 1 457 := ⟨show decode code 456 = .ok (.iadd, 1) by decide +kernel, rfl⟩
theorem d_Lw_457 {nm : String} : dd (m_Lw nm) 457 .iaload 1 458 := ⟨show decode code 457 = .ok (.iaload, 1) by decide +kernel, rfl⟩
theorem d_Lw_458 {nm : String} : dd (m_Lw nm) 458 (.aload_n 0) 1 459 := ⟨show decode code 458 = .ok (.aload_n 0, 1) by decide +kernel, rfl⟩
theorem d_Lw_459 {nm : String} : dd (m_Lw nm) 459 (.iload 4) 2 461 := ⟨show decode code 459 = .ok (.iload 4, 2) by decide +kernel, rfl⟩
theorem d_Lw_461 {nm : String} : dd (m_Lw nm) 461 (.iconst 4) 1 462 := ⟨show decode code 461 = .ok (.iconst 4, 1) by decide +kernel, rfl⟩
theorem d_Lw_462 {nm : String} : dd (m_Lw nm) 462 .iadd 1 463 := ⟨show decode code 462 = .ok (.iadd, 1) by decide +kernel, rfl⟩
theorem d_Lw_463 {nm : String} : dd (m_Lw nm) 463 .iaload 1 464 := ⟨show decode code 463 = .ok (.iaload, 1) by decide +kernel, rfl⟩
theorem d_Lw_464 {nm : String} : dd (m_Lw nm) 464 (.invokevirtual 59) 3 467 := ⟨show decode code 464 = .ok (.invokevirtual 59, 3) by decide +kernel, rfl⟩
theorem d_Lw_467 {nm : String} : db (m_Lw nm) 467 (.if_icmp .eq) 470 1396 := ⟨929, show decode code 467 = .ok (.if_icmp .eq 929, 3) by decide +kernel, rfl, rfl⟩
theorem d_Lw_470 {nm : String} : dd (m_Lw nm) 470 (.iconst 0) 1 471 := ⟨show decode code 470 = .ok (.iconst 0, 1) by decide +kernel, rfl⟩
theorem d_Lw_471 {nm : String} : decode (mbt (m_Lw nm)) 471 = .ok (.ireturn, 1) := show decode code 471 = .ok (.ireturn, 1) by decide +kernel
theorem d_Lw_472 {nm : String} : dd (m_Lw nm) 472 (.aload_n 1) 1 473 := ⟨show decode code 472 = .ok (.aload_n 1, 1) by decide +kernel, rfl⟩
theorem d_Lw_473 {nm : String} : dd (m_Lw nm) 473 (.aload_n 0) 1 474 := ⟨show decode code 473 = .ok (.aload_n 0, 1) by decide +kernel, rfl⟩
theorem d_Lw_474 {nm : String} : dd (m_Lw nm) 474 (.iload 4) 2 476 := ⟨show decode code 474 = .ok (.iload 4, 2) by decide +kernel, rfl⟩
theorem d_Lw_476 {nm : String} : dd (m_Lw nm) 476 (.iconst 1) 1 477 := ⟨show decode code 476 = .ok (.iconst 1, 1) by decide +kernel, rfl⟩
theorem d_Lw_477 {nm : String} : dd (m_Lw nm) 477 .iadd 1 478 := ⟨show decode code 477 = .ok (.iadd, 1) by decide +kernel, rfl⟩
theorem d_Lw_478 {nm : String} : dd (m_Lw nm) 478 .iaload 1 479 := ⟨show decode code 478 = .ok (.iaload, 1) by decide +kernel, rfl⟩
theorem d_Lw_479 {nm : String} : dd (m_Lw nm) 479 (.aload_n 0) 1 480 := ⟨show decode code 479 = .ok (.aload_n 0, 1) by decide +kernel, rfl⟩
theorem d_Lw_480 {nm : String} : dd (m_Lw nm) 480 (.iload 4) 2 482 := ⟨show decode code 480 = .ok (.iload 4, 2) by decide +kernel, rfl⟩
theorem d_Lw_482 {nm : String} : dd (m_Lw nm) 482 (.iconst 2) 1 483 := ⟨show decode code 482 = .ok (.iconst 2, 1) by decide +kernel, rfl⟩
theorem d_Lw_483 {nm : String} : dd (m_Lw nm) 483 .iadd 1 484 := ⟨show decode code 483 = .ok (.iadd, 1) by decide +kernel, rfl⟩
theorem d_Lw_484 {nm : String} : dd (m_Lw nm) 484 .iaload 1 485 := ⟨show decode code 484 = .ok (.iaload, 1) by decide +kernel, rfl⟩
theorem d_Lw_485 {nm : String} : dd (m_Lw nm) 485 (.aload_n 0) 1 486 := ⟨show decode code 485 = .ok (.aload_n 0, 1) by decide +kernel, rfl⟩
theorem d_Lw_486 {nm : String} : dd (m_Lw nm) 486 (.iload 4) 2 488 := ⟨show decode code 486 = .ok (.iload 4, 2) by decide +kernel, rfl⟩
theorem d_Lw_488 {nm : String} : dd (m_Lw nm) 488 (.iconst 3) 1 489 := ⟨show decode code 488 = .ok (.iconst 3, 1) by decide +kernel, rfl⟩
theorem d_Lw_489 {nm : String} : dd (m_Lw nm) 489 .iadd 1 490 := ⟨show decode code 489 = .ok (.iadd, 1) by decide +kernel, rfl⟩
theorem d_Lw_490 {nm : String} : dd (m_Lw nm) 490 .iaload 1 491 := ⟨show decode code 490 = .ok (.iaload, 1) by decide +kernel, rfl⟩
theorem d_Lw_491 {nm : String} : dd (m_Lw nm) 491 (.invokevirtual 60) 3 494 := ⟨show decode code 491 = .ok (.invokevirtual 60, 3) by decide +kernel, rfl⟩
theorem d_Lw_494 {nm : String} : dd (m_Lw nm) 494 (.aload_n 2) 1 495 := ⟨show decode code 494 = .ok (.aload_n 2, 1) by decide +kernel, rfl⟩
theorem d_Lw_495 {nm : String} : dd (m_Lw nm) 495 (.aload_n 0) 1 496 := ⟨show decode code 495 = .ok (.aload_n 0, 1) by decide +kernel, rfl⟩
theorem d_Lw_496 {nm : String} : dd (m_Lw nm) 496 (.iload 4) 2 498 := ⟨show decode code 496 = .ok (.iload 4, 2) by decide +kernel, rfl⟩
theorem d_Lw_498 {nm : String} : dd (m_Lw nm) 498 (.iconst 1) 1 499 := ⟨show decode code 498 = .ok (.iconst 1, 1) by decide +kernel, rfl⟩
theorem d_Lw_499 {nm : String} : dd (m_Lw nm) 499 .iadd 1 500 := ⟨show decode code 499 = .ok (.iadd, 1) by decide +kernel, rfl⟩
theorem d_Lw_500 {nm : String} : dd (m_Lw nm) 500 .iaload 1 501 := ⟨show decode code 500 = .ok (.iaload, 1) by decide +kernel, rfl⟩
theorem d_Lw_501 {nm : String} : dd (m_Lw nm) 501 (.aload_n 0) 1 502 := ⟨show decode code 501 = .ok (.aload_n 0, 1) by decide +kernel, rfl⟩
theorem d_Lw_502 {nm : String} : dd (m_Lw nm) 502 (.iload 4) 2 504 := ⟨show decode code 502 = .ok (.iload 4, 2) by decide +kernel, rfl⟩
theorem d_Lw_504 {nm : String} : dd (m_Lw nm) 504 (.iconst 2) 1 505 := ⟨show decode code 504 = .ok (.iconst 2, 1) by decide +kernel, rfl⟩
theorem d_Lw_505 {nm : String} : dd (m_Lw nm) 505 .iadd 1 506 := ⟨show decode code 505 = .ok (.iadd, 1) by decide +kernel, rfl⟩
theorem d_Lw_506 {nm : String} : dd (m_Lw nm) 506 .iaload 1 507 := ⟨show decode code 506 = .ok (.iaload, 1) by decide +kernel, rfl⟩
theorem d_Lw_507 {nm : String} : dd (m_Lw nm) 507 (.aload_n 0) 1 508 := ⟨show decode code 507 = .ok (.aload_n 0, 1) by decide +kernel, rfl⟩
theorem d_Lw_508 {nm : String} : dd (m_Lw nm) 508 (.iload 4) 2 510 := ⟨show decode code 508 = .ok (.iload 4, 2) by decide +kernel, rfl⟩
theorem d_Lw_510 {nm : String} : dd (m_Lw nm) 510 (.iconst 3) 1 511 := ⟨show decode code 510 = .ok (.iconst 3, 1) by decide +kernel, rfl⟩
theorem d_Lw_511 {nm : String} : dd (m_Lw nm) 511 .iadd 1 512 := ⟨show decode code 511 = .ok (.iadd, 1) by decide +kernel, rfl⟩
theorem d_Lw_512 {nm : String} : dd (m_Lw nm) 512 .iaload 1 513 := ⟨show decode code 512 = .ok (.iaload, 1) by decide +kernel, rfl⟩
theorem d_Lw_513 {nm : String} : dd (m_Lw nm) 513 (.invokevirtual 63) 3 516 := ⟨show decode code 513 = .ok (.invokevirtual 63, 3) by decide +kernel, rfl⟩
theorem d_Lw_516 {nm : String} : db (m_Lw nm) 516 (.if_icmp .eq) 519 1396 := ⟨880, show decode code 516 = .ok (.if_icmp .eq 880, 3) by decide +kernel, rfl, rfl⟩
theorem d_Lw_519 {nm : String} : dd (m_Lw nm) 519 (.iconst 0) 1 520 := ⟨show decode code 519 = .ok (.iconst 0, 1) by decide +kernel, rfl⟩
theorem d_Lw_520 {nm : String} : decode (mbt (m_Lw nm)) 520 = .ok (.ireturn, 1) := show decode code 520 = .ok (.ireturn, 1) by decide +kernel
theorem d_Lw_521 {nm : String} : dd (m_Lw nm) 521 (.aload_n 1) 1 522 := ⟨show decode code 521 = .ok (.aload_n 1, 1) by decide +kernel, rfl⟩
theorem d_Lw_522 {nm : String} : dd (m_Lw nm) 522 (.aload_n 0) 1 523 := ⟨show decode code 522 = .ok (.aload_n 0, 1) by decide +kernel, rfl⟩
theorem d_Lw_523 {nm : String} : dd (m_Lw nm) 523 (.iload 4) 2 525 := ⟨show decode code 523 = .ok (.iload 4, 2) by decide +kernel, rfl⟩
theorem d_Lw_525 {nm : String} : dd (m_Lw nm) 525 (.iconst 1) 1 526 := ⟨show decode code 525 = .ok (.iconst 1, 1) by decide +kernel, rfl⟩
theorem d_Lw_526 {nm : String} : dd (m_Lw nm) 526 .iadd 1 527 := ⟨show decode code 526 = .ok (.iadd, 1) by decide +kernel, rfl⟩
theorem d_Lw_527 {nm : String} : dd (m_Lw nm) 527 .iaload 1 528 := ⟨show decode code 527 = .ok (.iaload, 1) by decide +kernel, rfl⟩
theorem d_Lw_528 {nm : String} : dd (m_Lw nm) 528 (.aload_n 0) 1 529 := ⟨show decode code 528 = .ok (.aload_n 0, 1) by decide +kernel, rfl⟩
theorem d_Lw_529 {nm : String} : dd (m_Lw nm) 529 (.iload 4) 2 531 := ⟨show decode code 529 = .ok (.iload 4, 2) by decide +kernel, rfl⟩
theorem d_Lw_531 {nm : String} : dd (m_Lw nm) 531 (.iconst 2) 1 532 := ⟨show decode code 531 = .ok (.iconst 2, 1) by decide +kernel, rfl⟩
theorem d_Lw_532 {nm : String} : dd (m_Lw nm) 532 .iadd 1 533 := ⟨show decode code 532 = .ok (.iadd, 1) by decide +kernel, rfl⟩
theorem d_Lw_533 {nm : String} : dd (m_Lw nm) 533 .iaload 1 534 := ⟨show decode code 533 = .ok (.iaload, 1) by decide +kernel, rfl⟩
theorem d_Lw_534 {nm : String} : dd (m_Lw nm) 534 (.aload_n 0) 1 535 := ⟨show decode code 534 = .ok (.aload_n 0, 1) by decide +kernel, rfl⟩
theorem d_Lw_535 {nm : String} : dd (m_Lw nm) 535 (.iload 4) 2 537 := ⟨show decode code 535 = .ok (.iload 4, 2) by decide +kernel, rfl⟩
theorem d_Lw_537 {nm : String} : dd (m_Lw nm) 537 (.iconst 3) 1 538 := ⟨show decode code 537 = .ok (.iconst 3, 1) by decide +kernel, rfl⟩
theorem d_Lw_538 {nm : String} : dd (m_Lw nm) 538 .iadd 1 539 := ⟨show decode code 538 = .ok (.iadd, 1) by decide +kernel, rfl⟩
theorem d_Lw_539 {nm : String} : dd (m_Lw nm) 539 .iaload 1 540 := ⟨show decode code 539 = .ok (.iaload, 1) by decide +kernel, rfl⟩
theorem d_Lw_540 {nm : String} : dd (m_Lw nm) 540 (.invokevirtual 64) 3 543 := ⟨show decode code 540 = .ok (.invokevirtual 64, 3) by decide +kernel, rfl⟩
theorem d_Lw_543 {nm : String} : dd (m_Lw nm) 543 (.aload_n 2) 1 544 := ⟨show decode code 543 = .ok (.aload_n 2, 1) by decide +kernel, rfl⟩
theorem d_Lw_544 {nm : String} : dd (m_Lw nm) 544 (.aload_n 0) 1 545 := ⟨show decode code 544 = .ok (.aload_n 0, 1) by decide +kernel, rfl⟩
theorem d_Lw_545 {nm : String} : dd (m_Lw nm) 545 (.iload 4) 2 547 := ⟨show decode code 545 = .ok (.iload 4, 2) by decide +kernel, rfl⟩
theorem d_Lw_547 {nm : String} : dd (m_Lw nm) 547 (.iconst 1) 1 548 := ⟨show decode code 547 = .ok (.iconst 1, 1) by decide +kernel, rfl⟩
theorem d_Lw_548 {nm : String} : dd (m_Lw nm) 548 .iadd 1 549 := ⟨show decode code 548 = .ok (.iadd, 1) by decide +kernel, rfl⟩
theorem d_Lw_549 {nm : String} : dd (m_Lw nm) 549 .iaload 1 550 := ⟨show decode code 549 = .ok (.iaload, 1) by decide +kernel, rfl⟩
theorem d_Lw_550 {nm : String} : dd (m_Lw nm) 550 (.aload_n 0) 1 551 := ⟨show decode code 550 = .ok (.aload_n 0, 1) by decide +kernel, rfl⟩
theorem d_Lw_551 {nm : String} : dd (m_Lw nm) 551 (.iload 4) 2 553 := ⟨show decode code 551 = .ok (.iload 4, 2) by decide +kernel, rfl⟩
theorem d_Lw_553 {nm : String} : dd (m_Lw nm) 553 (.iconst 2) 1 554 := ⟨show decode code 553 = .ok (.iconst 2, 1) by decide +kernel, rfl⟩
theorem d_Lw_554 {nm : String} : dd (m_Lw nm) 554 .iadd 1 555 := ⟨show decode code 554 = .ok (.iadd, 1) by decide +kernel, rfl⟩
theorem d_Lw_555 {nm : String} : dd (m_Lw nm) 555 .iaload 1 556 := ⟨show decode code 555 = .ok (.iaload, 1) by decide +kernel, rfl⟩
theorem d_Lw_556 {nm : String} : dd (m_Lw nm) 556 (.aload_n 0) 1 557 := ⟨show decode code 556 = .ok (.aload_n 0, 1) by decide +kernel, rfl⟩
theorem d_Lw_557 {nm : String} : dd (m_Lw nm) 557 (.iload 4) 2 559 := ⟨show decode code 557 = .ok (.iload 4, 2) by decide +kernel, rfl⟩
theorem d_Lw_559 {nm : String} : dd (m_Lw nm) 559 (.iconst 3) 1 560 := ⟨show decode code 559 = .ok (.iconst 3, 1) by decide +kernel, rfl⟩
theorem d_Lw_560 {nm : String} : dd (m_Lw nm) 560 .iadd 1 561 := ⟨show decode code 560 = .ok (.iadd, 1) by decide +kernel, rfl⟩
