def zp_0 : ByteArray := ⟨#[0xbb, 0x00, 0x08, 0x59, 0xb7, 0x00, 0x87, 0x4c, 0xbb, 0x00, 0x88, 0x59, 0xb7, 0x00, 0x8a, 0x4d, 0x04, 0xbc, 0x0b, 0x4e, 0x04, 0xbc, 0x07, 0x3a, 0x04, 0x03, 0x36, 0x05, 0x15, 0x05, 0x2a, 0xbe, 0x10, 0x06, 0x64, 0xa3, 0x0a, 0xca, 0x2a, 0x15, 0x05, 0x2e, 0x10, 0x3f, 0x7e]⟩
theorem zh_0 : SubC cL_law zp_0 0 := sub_of (n := 45) (by decide +kernel)
theorem zb_0 : (zdC zp_0 0 (.new 8) 3 && zdC zp_0 3 (.dup) 1 && zdC zp_0 4 (.invokespecial 135) 3 && zdC zp_0 7 (.astore_n 1) 1 && zdC zp_0 8 (.new 136) 3 && zdC zp_0 11 (.dup) 1 && zdC zp_0 12 (.invokespecial 138) 3 && zdC zp_0 15 (.astore_n 2) 1 && zdC zp_0 16 (.iconst 1) 1 && zdC zp_0 19 (.astore_n 3) 1) = true := by decide +kernel
theorem eL_law_0 : dx cL_law 0 (.new 8) 3 3 := ⟨zd_c (o := 0) (p := 0) zh_0 (zc_1 (zc_1 (zc_1 (zc_1 (zc_1 (zc_1 (zc_1 (zc_1 (zc_1 zb_0))))))))), rfl⟩
theorem eL_law_3 : dx cL_law 3 (.dup) 1 4 := ⟨zd_c (o := 0) (p := 3) zh_0 (zc_2 (zc_1 (zc_1 (zc_1 (zc_1 (zc_1 (zc_1 (zc_1 (zc_1 zb_0))))))))), rfl⟩
theorem eL_law_4 : dx cL_law 4 (.invokespecial 135) 3 7 := ⟨zd_c (o := 0) (p := 4) zh_0 (zc_2 (zc_1 (zc_1 (zc_1 (zc_1 (zc_1 (zc_1 (zc_1 zb_0)))))))), rfl⟩
theorem eL_law_7 : dx cL_law 7 (.astore_n 1) 1 8 := ⟨zd_c (o := 0) (p := 7) zh_0 (zc_2 (zc_1 (zc_1 (zc_1 (zc_1 (zc_1 (zc_1 zb_0))))))), rfl⟩
theorem eL_law_8 : dx cL_law 8 (.new 136) 3 11 := ⟨zd_c (o := 0) (p := 8) zh_0 (zc_2 (zc_1 (zc_1 (zc_1 (zc_1 (zc_1 zb_0)))))), rfl⟩
theorem eL_law_11 : dx cL_law 11 (.dup) 1 12 := ⟨zd_c (o := 0) (p := 11) zh_0 (zc_2 (zc_1 (zc_1 (zc_1 (zc_1 zb_0))))), rfl⟩
theorem eL_law_12 : dx cL_law 12 (.invokespecial 138) 3 15 := ⟨zd_c (o := 0) (p := 12) zh_0 (zc_2 (zc_1 (zc_1 (zc_1 zb_0)))), rfl⟩
theorem eL_law_15 : dx cL_law 15 (.astore_n 2) 1 16 := ⟨zd_c (o := 0) (p := 15) zh_0 (zc_2 (zc_1 (zc_1 zb_0))), rfl⟩
theorem eL_law_16 : dx cL_law 16 (.iconst 1) 1 17 := ⟨zd_c (o := 0) (p := 16) zh_0 (zc_2 (zc_1 zb_0)), rfl⟩
theorem eL_law_19 : dx cL_law 19 (.astore_n 3) 1 20 := ⟨zd_c (o := 0) (p := 19) zh_0 (zc_2 zb_0), rfl⟩
theorem zb_20 : (zdC zp_0 20 (.iconst 1) 1 && zdC zp_0 23 (.astore 4) 2 && zdC zp_0 25 (.iconst 0) 1 && zdC zp_0 26 (.istore 5) 2 && zdC zp_0 28 (.iload 5) 2 && zdC zp_0 30 (.aload_n 0) 1 && zdC zp_0 31 (.arraylength) 1 && zdC zp_0 32 (.bipush 6) 2 && zdC zp_0 34 (.isub) 1 && zdC zp_0 35 (.if_icmp .gt 2762) 3) = true := by decide +kernel
theorem eL_law_20 : dx cL_law 20 (.iconst 1) 1 21 := ⟨zd_c (o := 0) (p := 20) zh_0 (zc_1 (zc_1 (zc_1 (zc_1 (zc_1 (zc_1 (zc_1 (zc_1 (zc_1 zb_20))))))))), rfl⟩
theorem eL_law_23 : dx cL_law 23 (.astore 4) 2 25 := ⟨zd_c (o := 0) (p := 23) zh_0 (zc_2 (zc_1 (zc_1 (zc_1 (zc_1 (zc_1 (zc_1 (zc_1 (zc_1 zb_20))))))))), rfl⟩
theorem eL_law_25 : dx cL_law 25 (.iconst 0) 1 26 := ⟨zd_c (o := 0) (p := 25) zh_0 (zc_2 (zc_1 (zc_1 (zc_1 (zc_1 (zc_1 (zc_1 (zc_1 zb_20)))))))), rfl⟩
theorem eL_law_26 : dx cL_law 26 (.istore 5) 2 28 := ⟨zd_c (o := 0) (p := 26) zh_0 (zc_2 (zc_1 (zc_1 (zc_1 (zc_1 (zc_1 (zc_1 zb_20))))))), rfl⟩
theorem eL_law_28 : dx cL_law 28 (.iload 5) 2 30 := ⟨zd_c (o := 0) (p := 28) zh_0 (zc_2 (zc_1 (zc_1 (zc_1 (zc_1 (zc_1 zb_20)))))), rfl⟩
theorem eL_law_30 : dx cL_law 30 (.aload_n 0) 1 31 := ⟨zd_c (o := 0) (p := 30) zh_0 (zc_2 (zc_1 (zc_1 (zc_1 (zc_1 zb_20))))), rfl⟩
theorem eL_law_31 : dx cL_law 31 (.arraylength) 1 32 := ⟨zd_c (o := 0) (p := 31) zh_0 (zc_2 (zc_1 (zc_1 (zc_1 zb_20)))), rfl⟩
theorem eL_law_32 : dx cL_law 32 (.bipush 6) 2 34 := ⟨zd_c (o := 0) (p := 32) zh_0 (zc_2 (zc_1 (zc_1 zb_20))), rfl⟩
theorem eL_law_34 : dx cL_law 34 (.isub) 1 35 := ⟨zd_c (o := 0) (p := 34) zh_0 (zc_2 (zc_1 zb_20)), rfl⟩
theorem eL_law_35 : dx cL_law 35 (.if_icmp .gt 2762) 3 38 := ⟨zd_c (o := 0) (p := 35) zh_0 (zc_2 zb_20), rfl⟩
theorem zb_38 : (zdC zp_0 38 (.aload_n 0) 1 && zdC zp_0 39 (.iload 5) 2 && zdC zp_0 41 (.iaload) 1 && zdC zp_0 42 (.bipush 63) 2 && zdC zp_0 44 (.iand) 1) = true := by decide +kernel
theorem eL_law_38 : dx cL_law 38 (.aload_n 0) 1 39 := ⟨zd_c (o := 0) (p := 38) zh_0 (zc_1 (zc_1 (zc_1 (zc_1 zb_38)))), rfl⟩
theorem eL_law_39 : dx cL_law 39 (.iload 5) 2 41 := ⟨zd_c (o := 0) (p := 39) zh_0 (zc_2 (zc_1 (zc_1 (zc_1 zb_38)))), rfl⟩
theorem eL_law_41 : dx cL_law 41 (.iaload) 1 42 := ⟨zd_c (o := 0) (p := 41) zh_0 (zc_2 (zc_1 (zc_1 zb_38))), rfl⟩
theorem eL_law_42 : dx cL_law 42 (.bipush 63) 2 44 := ⟨zd_c (o := 0) (p := 42) zh_0 (zc_2 (zc_1 zb_38)), rfl⟩
theorem eL_law_44 : dx cL_law 44 (.iand) 1 45 := ⟨zd_c (o := 0) (p := 44) zh_0 (zc_2 zb_38), rfl⟩
def zp_256 : ByteArray := ⟨#[0x2b, 0x2a, 0x15, 0x05, 0x04, 0x60, 0x2e, 0x2a, 0x15, 0x05, 0x05, 0x60, 0x2e, 0x2a, 0x15, 0x05, 0x06, 0x60, 0x2e, 0x2a, 0x15, 0x05, 0x07, 0x60, 0x2e, 0x2a, 0x15, 0x05, 0x08, 0x60, 0x2e, 0x2d, 0xb8, 0x00, 0x8b, 0x36, 0x06, 0x2c, 0x2a, 0x15, 0x05, 0x04, 0x60, 0x2e, 0x2a, 0x15, 0x05, 0x05, 0x60, 0x2e]⟩
theorem zh_256 : SubC cL_law zp_256 256 := sub_of (n := 50) (by decide +kernel)
theorem zb_256 : (zdC zp_256 0 (.aload_n 1) 1 && zdC zp_256 1 (.aload_n 0) 1 && zdC zp_256 2 (.iload 5) 2 && zdC zp_256 4 (.iconst 1) 1 && zdC zp_256 5 (.iadd) 1 && zdC zp_256 6 (.iaload) 1 && zdC zp_256 7 (.aload_n 0) 1 && zdC zp_256 8 (.iload 5) 2 && zdC zp_256 10 (.iconst 2) 1 && zdC zp_256 11 (.iadd) 1) = true := by decide +kernel
theorem eL_law_256 : dx cL_law 256 (.aload_n 1) 1 257 := ⟨zd_c (o := 256) (p := 0) zh_256 (zc_1 (zc_1 (zc_1 (zc_1 (zc_1 (zc_1 (zc_1 (zc_1 (zc_1 zb_256))))))))), rfl⟩
theorem eL_law_257 : dx cL_law 257 (.aload_n 0) 1 258 := ⟨zd_c (o := 256) (p := 1) zh_256 (zc_2 (zc_1 (zc_1 (zc_1 (zc_1 (zc_1 (zc_1 (zc_1 (zc_1 zb_256))))))))), rfl⟩
theorem eL_law_258 : dx cL_law 258 (.iload 5) 2 260 := ⟨zd_c (o := 256) (p := 2) zh_256 (zc_2 (zc_1 (zc_1 (zc_1 (zc_1 (zc_1 (zc_1 (zc_1 zb_256)))))))), rfl⟩
theorem eL_law_260 : dx cL_law 260 (.iconst 1) 1 261 := ⟨zd_c (o := 256) (p := 4) zh_256 (zc_2 (zc_1 (zc_1 (zc_1 (zc_1 (zc_1 (zc_1 zb_256))))))), rfl⟩
theorem eL_law_261 : dx cL_law 261 (.iadd) 1 262 := ⟨zd_c (o := 256) (p := 5) zh_256 (zc_2 (zc_1 (zc_1 (zc_1 (zc_1 (zc_1 zb_256)))))), rfl⟩
theorem eL_law_262 : dx cL_law 262 (.iaload) 1 263 := ⟨zd_c (o := 256) (p := 6) zh_256 (zc_2 (zc_1 (zc_1 (zc_1 (zc_1 zb_256))))), rfl⟩
theorem eL_law_263 : dx cL_law 263 (.aload_n 0) 1 264 := ⟨zd_c (o := 256) (p := 7) zh_256 (zc_2 (zc_1 (zc_1 (zc_1 zb_256)))), rfl⟩
theorem eL_law_264 : dx cL_law 264 (.iload 5) 2 266 := ⟨zd_c (o := 256) (p := 8) zh_256 (zc_2 (zc_1 (zc_1 zb_256))), rfl⟩
theorem eL_law_266 : dx cL_law 266 (.iconst 2) 1 267 := ⟨zd_c (o := 256) (p := 10) zh_256 (zc_2 (zc_1 zb_256)), rfl⟩
theorem eL_law_267 : dx cL_law 267 (.iadd) 1 268 := ⟨zd_c (o := 256) (p := 11) zh_256 (zc_2 zb_256), rfl⟩
theorem zb_268 : (zdC zp_256 12 (.iaload) 1 && zdC zp_256 13 (.aload_n 0) 1 && zdC zp_256 14 (.iload 5) 2 && zdC zp_256 16 (.iconst 3) 1 && zdC zp_256 17 (.iadd) 1 && zdC zp_256 18 (.iaload) 1 && zdC zp_256 19 (.aload_n 0) 1 && zdC zp_256 20 (.iload 5) 2 && zdC zp_256 22 (.iconst 4) 1 && zdC zp_256 23 (.iadd) 1) = true := by decide +kernel
theorem eL_law_268 : dx cL_law 268 (.iaload) 1 269 := ⟨zd_c (o := 256) (p := 12) zh_256 (zc_1 (zc_1 (zc_1 (zc_1 (zc_1 (zc_1 (zc_1 (zc_1 (zc_1 zb_268))))))))), rfl⟩
theorem eL_law_269 : dx cL_law 269 (.aload_n 0) 1 270 := ⟨zd_c (o := 256) (p := 13) zh_256 (zc_2 (zc_1 (zc_1 (zc_1 (zc_1 (zc_1 (zc_1 (zc_1 (zc_1 zb_268))))))))), rfl⟩
theorem eL_law_270 : dx cL_law 270 (.iload 5) 2 272 := ⟨zd_c (o := 256) (p := 14) zh_256 (zc_2 (zc_1 (zc_1 (zc_1 (zc_1 (zc_1 (zc_1 (zc_1 zb_268)))))))), rfl⟩
theorem eL_law_272 : dx cL_law 272 (.iconst 3) 1 273 := ⟨zd_c (o := 256) (p := 16) zh_256 (zc_2 (zc_1 (zc_1 (zc_1 (zc_1 (zc_1 (zc_1 zb_268))))))), rfl⟩
theorem eL_law_273 : dx cL_law 273 (.iadd) 1 274 := ⟨zd_c (o := 256) (p := 17) zh_256 (zc_2 (zc_1 (zc_1 (zc_1 (zc_1 (zc_1 zb_268)))))), rfl⟩
theorem eL_law_274 : dx cL_law 274 (.iaload) 1 275 := ⟨zd_c (o := 256) (p := 18) zh_256 (zc_2 (zc_1 (zc_1 (zc_1 (zc_1 zb_268))))), rfl⟩
theorem eL_law_275 : dx cL_law 275 (.aload_n 0) 1 276 := ⟨zd_c (o := 256) (p := 19) zh_256 (zc_2 (zc_1 (zc_1 (zc_1 zb_268)))), rfl⟩
theorem eL_law_276 : dx cL_law 276 (.iload 5) 2 278 := ⟨zd_c (o := 256) (p := 20) zh_256 (zc_2 (zc_1 (zc_1 zb_268))), rfl⟩
theorem eL_law_278 : dx cL_law 278 (.iconst 4) 1 279 := ⟨zd_c (o := 256) (p := 22) zh_256 (zc_2 (zc_1 zb_268)), rfl⟩
theorem eL_law_279 : dx cL_law 279 (.iadd) 1 280 := ⟨zd_c (o := 256) (p := 23) zh_256 (zc_2 zb_268), rfl⟩
theorem zb_280 : (zdC zp_256 24 (.iaload) 1 && zdC zp_256 25 (.aload_n 0) 1 && zdC zp_256 26 (.iload 5) 2 && zdC zp_256 28 (.iconst 5) 1 && zdC zp_256 29 (.iadd) 1 && zdC zp_256 30 (.iaload) 1 && zdC zp_256 31 (.aload_n 3) 1 && zdC zp_256 32 (.invokestatic 139) 3 && zdC zp_256 35 (.istore 6) 2 && zdC zp_256 37 (.aload_n 2) 1) = true := by decide +kernel
theorem eL_law_280 : dx cL_law 280 (.iaload) 1 281 := ⟨zd_c (o := 256) (p := 24) zh_256 (zc_1 (zc_1 (zc_1 (zc_1 (zc_1 (zc_1 (zc_1 (zc_1 (zc_1 zb_280))))))))), rfl⟩
theorem eL_law_281 : dx cL_law 281 (.aload_n 0) 1 282 := ⟨zd_c (o := 256) (p := 25) zh_256 (zc_2 (zc_1 (zc_1 (zc_1 (zc_1 (zc_1 (zc_1 (zc_1 (zc_1 zb_280))))))))), rfl⟩
theorem eL_law_282 : dx cL_law 282 (.iload 5) 2 284 := ⟨zd_c (o := 256) (p := 26) zh_256 (zc_2 (zc_1 (zc_1 (zc_1 (zc_1 (zc_1 (zc_1 (zc_1 zb_280)))))))), rfl⟩
theorem eL_law_284 : dx cL_law 284 (.iconst 5) 1 285 := ⟨zd_c (o := 256) (p := 28) zh_256 (zc_2 (zc_1 (zc_1 (zc_1 (zc_1 (zc_1 (zc_1 zb_280))))))), rfl⟩
theorem eL_law_285 : dx cL_law 285 (.iadd) 1 286 := ⟨zd_c (o := 256) (p := 29) zh_256 (zc_2 (zc_1 (zc_1 (zc_1 (zc_1 (zc_1 zb_280)))))), rfl⟩
theorem eL_law_286 : dx cL_law 286 (.iaload) 1 287 := ⟨zd_c (o := 256) (p := 30) zh_256 (zc_2 (zc_1 (zc_1 (zc_1 (zc_1 zb_280))))), rfl⟩
theorem eL_law_287 : dx cL_law 287 (.aload_n 3) 1 288 := ⟨zd_c (o := 256) (p := 31) zh_256 (zc_2 (zc_1 (zc_1 (zc_1 zb_280)))), rfl⟩
theorem eL_law_288 : dx cL_law 288 (.invokestatic 139) 3 291 := ⟨zd_c (o := 256) (p := 32) zh_256 (zc_2 (zc_1 (zc_1 zb_280))), rfl⟩
theorem eL_law_291 : dx cL_law 291 (.istore 6) 2 293 := ⟨zd_c (o := 256) (p := 35) zh_256 (zc_2 (zc_1 zb_280)), rfl⟩
theorem eL_law_293 : dx cL_law 293 (.aload_n 2) 1 294 := ⟨zd_c (o := 256) (p := 37) zh_256 (zc_2 zb_280), rfl⟩
theorem zb_294 : (zdC zp_256 38 (.aload_n 0) 1 && zdC zp_256 39 (.iload 5) 2 && zdC zp_256 41 (.iconst 1) 1 && zdC zp_256 42 (.iadd) 1 && zdC zp_256 43 (.iaload) 1 && zdC zp_256 44 (.aload_n 0) 1 && zdC zp_256 45 (.iload 5) 2 && zdC zp_256 47 (.iconst 2) 1 && zdC zp_256 48 (.iadd) 1 && zdC zp_256 49 (.iaload) 1) = true := by decide +kernel
theorem eL_law_294 : dx cL_law 294 (.aload_n 0) 1 295 := ⟨zd_c (o := 256) (p := 38) zh_256 (zc_1 (zc_1 (zc_1 (zc_1 (zc_1 (zc_1 (zc_1 (zc_1 (zc_1 zb_294))))))))), rfl⟩
theorem eL_law_295 : dx cL_law 295 (.iload 5) 2 297 := ⟨zd_c (o := 256) (p := 39) zh_256 (zc_2 (zc_1 (zc_1 (zc_1 (zc_1 (zc_1 (zc_1 (zc_1 (zc_1 zb_294))))))))), rfl⟩
theorem eL_law_297 : dx cL_law 297 (.iconst 1) 1 298 := ⟨zd_c (o := 256) (p := 41) zh_256 (zc_2 (zc_1 (zc_1 (zc_1 (zc_1 (zc_1 (zc_1 (zc_1 zb_294)))))))), rfl⟩
theorem eL_law_298 : dx cL_law 298 (.iadd) 1 299 := ⟨zd_c (o := 256) (p := 42) zh_256 (zc_2 (zc_1 (zc_1 (zc_1 (zc_1 (zc_1 (zc_1 zb_294))))))), rfl⟩
theorem eL_law_299 : dx cL_law 299 (.iaload) 1 300 := ⟨zd_c (o := 256) (p := 43) zh_256 (zc_2 (zc_1 (zc_1 (zc_1 (zc_1 (zc_1 zb_294)))))), rfl⟩
theorem eL_law_300 : dx cL_law 300 (.aload_n 0) 1 301 := ⟨zd_c (o := 256) (p := 44) zh_256 (zc_2 (zc_1 (zc_1 (zc_1 (zc_1 zb_294))))), rfl⟩
theorem eL_law_301 : dx cL_law 301 (.iload 5) 2 303 := ⟨zd_c (o := 256) (p := 45) zh_256 (zc_2 (zc_1 (zc_1 (zc_1 zb_294)))), rfl⟩
theorem eL_law_303 : dx cL_law 303 (.iconst 2) 1 304 := ⟨zd_c (o := 256) (p := 47) zh_256 (zc_2 (zc_1 (zc_1 zb_294))), rfl⟩
theorem eL_law_304 : dx cL_law 304 (.iadd) 1 305 := ⟨zd_c (o := 256) (p := 48) zh_256 (zc_2 (zc_1 zb_294)), rfl⟩
theorem eL_law_305 : dx cL_law 305 (.iaload) 1 306 := ⟨zd_c (o := 256) (p := 49) zh_256 (zc_2 zb_294), rfl⟩
def zp_306 : ByteArray := ⟨#[0x2a, 0x15, 0x05, 0x06, 0x60, 0x2e, 0x2a, 0x15, 0x05, 0x07, 0x60, 0x2e, 0x2a, 0x15, 0x05, 0x08, 0x60, 0x2e, 0xb6, 0x00, 0x90, 0x36, 0x07, 0x2c, 0xb6, 0x00, 0x91, 0x15, 0x06, 0x9f, 0x00, 0x05, 0x03, 0xac, 0x15, 0x06, 0x9a, 0x00, 0x0f, 0x2d, 0x03, 0x2f, 0x15, 0x07, 0x85, 0x94, 0x99, 0x00, 0x05, 0x03, 0xac, 0xa7, 0x09, 0x82, 0x2b, 0x2a, 0x15, 0x05, 0x04, 0x60]⟩
theorem zh_306 : SubC cL_law zp_306 306 := sub_of (n := 60) (by decide +kernel)
theorem zb_306 : (zdC zp_306 0 (.aload_n 0) 1 && zdC zp_306 1 (.iload 5) 2 && zdC zp_306 3 (.iconst 3) 1 && zdC zp_306 4 (.iadd) 1 && zdC zp_306 5 (.iaload) 1 && zdC zp_306 6 (.aload_n 0) 1 && zdC zp_306 7 (.iload 5) 2 && zdC zp_306 9 (.iconst 4) 1 && zdC zp_306 10 (.iadd) 1 && zdC zp_306 11 (.iaload) 1) = true := by decide +kernel
theorem eL_law_306 : dx cL_law 306 (.aload_n 0) 1 307 := ⟨zd_c (o := 306) (p := 0) zh_306 (zc_1 (zc_1 (zc_1 (zc_1 (zc_1 (zc_1 (zc_1 (zc_1 (zc_1 zb_306))))))))), rfl⟩
theorem eL_law_307 : dx cL_law 307 (.iload 5) 2 309 := ⟨zd_c (o := 306) (p := 1) zh_306 (zc_2 (zc_1 (zc_1 (zc_1 (zc_1 (zc_1 (zc_1 (zc_1 (zc_1 zb_306))))))))), rfl⟩
theorem eL_law_309 : dx cL_law 309 (.iconst 3) 1 310 := ⟨zd_c (o := 306) (p := 3) zh_306 (zc_2 (zc_1 (zc_1 (zc_1 (zc_1 (zc_1 (zc_1 (zc_1 zb_306)))))))), rfl⟩
theorem eL_law_310 : dx cL_law 310 (.iadd) 1 311 := ⟨zd_c (o := 306) (p := 4) zh_306 (zc_2 (zc_1 (zc_1 (zc_1 (zc_1 (zc_1 (zc_1 zb_306))))))), rfl⟩
theorem eL_law_311 : dx cL_law 311 (.iaload) 1 312 := ⟨zd_c (o := 306) (p := 5) zh_306 (zc_2 (zc_1 (zc_1 (zc_1 (zc_1 (zc_1 zb_306)))))), rfl⟩
theorem eL_law_312 : dx cL_law 312 (.aload_n 0) 1 313 := ⟨zd_c (o := 306) (p := 6) zh_306 (zc_2 (zc_1 (zc_1 (zc_1 (zc_1 zb_306))))), rfl⟩
theorem eL_law_313 : dx cL_law 313 (.iload 5) 2 315 := ⟨zd_c (o := 306) (p := 7) zh_306 (zc_2 (zc_1 (zc_1 (zc_1 zb_306)))), rfl⟩
theorem eL_law_315 : dx cL_law 315 (.iconst 4) 1 316 := ⟨zd_c (o := 306) (p := 9) zh_306 (zc_2 (zc_1 (zc_1 zb_306))), rfl⟩
theorem eL_law_316 : dx cL_law 316 (.iadd) 1 317 := ⟨zd_c (o := 306) (p := 10) zh_306 (zc_2 (zc_1 zb_306)), rfl⟩
theorem eL_law_317 : dx cL_law 317 (.iaload) 1 318 := ⟨zd_c (o := 306) (p := 11) zh_306 (zc_2 zb_306), rfl⟩
theorem zb_318 : (zdC zp_306 12 (.aload_n 0) 1 && zdC zp_306 13 (.iload 5) 2 && zdC zp_306 15 (.iconst 5) 1 && zdC zp_306 16 (.iadd) 1 && zdC zp_306 17 (.iaload) 1 && zdC zp_306 18 (.invokevirtual 144) 3 && zdC zp_306 21 (.istore 7) 2 && zdC zp_306 23 (.aload_n 2) 1 && zdC zp_306 24 (.invokevirtual 145) 3 && zdC zp_306 27 (.iload 6) 2) = true := by decide +kernel
theorem eL_law_318 : dx cL_law 318 (.aload_n 0) 1 319 := ⟨zd_c (o := 306) (p := 12) zh_306 (zc_1 (zc_1 (zc_1 (zc_1 (zc_1 (zc_1 (zc_1 (zc_1 (zc_1 zb_318))))))))), rfl⟩
theorem eL_law_319 : dx cL_law 319 (.iload 5) 2 321 := ⟨zd_c (o := 306) (p := 13) zh_306 (zc_2 (zc_1 (zc_1 (zc_1 (zc_1 (zc_1 (zc_1 (zc_1 (zc_1 zb_318))))))))), rfl⟩
theorem eL_law_321 : dx cL_law 321 (.iconst 5) 1 322 := ⟨zd_c (o := 306) (p := 15) zh_306 (zc_2 (zc_1 (zc_1 (zc_1 (zc_1 (zc_1 (zc_1 (zc_1 zb_318)))))))), rfl⟩
theorem eL_law_322 : dx cL_law 322 (.iadd) 1 323 := ⟨zd_c (o := 306) (p := 16) zh_306 (zc_2 (zc_1 (zc_1 (zc_1 (zc_1 (zc_1 (zc_1 zb_318))))))), rfl⟩
theorem eL_law_323 : dx cL_law 323 (.iaload) 1 324 := ⟨zd_c (o := 306) (p := 17) zh_306 (zc_2 (zc_1 (zc_1 (zc_1 (zc_1 (zc_1 zb_318)))))), rfl⟩
theorem eL_law_324 : dx cL_law 324 (.invokevirtual 144) 3 327 := ⟨zd_c (o := 306) (p := 18) zh_306 (zc_2 (zc_1 (zc_1 (zc_1 (zc_1 zb_318))))), rfl⟩
theorem eL_law_327 : dx cL_law 327 (.istore 7) 2 329 := ⟨zd_c (o := 306) (p := 21) zh_306 (zc_2 (zc_1 (zc_1 (zc_1 zb_318)))), rfl⟩
theorem eL_law_329 : dx cL_law 329 (.aload_n 2) 1 330 := ⟨zd_c (o := 306) (p := 23) zh_306 (zc_2 (zc_1 (zc_1 zb_318))), rfl⟩
theorem eL_law_330 : dx cL_law 330 (.invokevirtual 145) 3 333 := ⟨zd_c (o := 306) (p := 24) zh_306 (zc_2 (zc_1 zb_318)), rfl⟩
theorem eL_law_333 : dx cL_law 333 (.iload 6) 2 335 := ⟨zd_c (o := 306) (p := 27) zh_306 (zc_2 zb_318), rfl⟩
theorem zb_335 : (zdC zp_306 29 (.if_icmp .eq 5) 3 && zdC zp_306 32 (.iconst 0) 1 && zdC zp_306 33 (.ireturn) 1 && zdC zp_306 34 (.iload 6) 2 && zdC zp_306 36 (.ifCond .ne 15) 3 && zdC zp_306 39 (.aload_n 3) 1 && zdC zp_306 40 (.iconst 0) 1 && zdC zp_306 41 (.laload) 1 && zdC zp_306 42 (.iload 7) 2 && zdC zp_306 44 (.i2l) 1) = true := by decide +kernel
theorem eL_law_335 : dx cL_law 335 (.if_icmp .eq 5) 3 338 := ⟨zd_c (o := 306) (p := 29) zh_306 (zc_1 (zc_1 (zc_1 (zc_1 (zc_1 (zc_1 (zc_1 (zc_1 (zc_1 zb_335))))))))), rfl⟩
theorem eL_law_338 : dx cL_law 338 (.iconst 0) 1 339 := ⟨zd_c (o := 306) (p := 32) zh_306 (zc_2 (zc_1 (zc_1 (zc_1 (zc_1 (zc_1 (zc_1 (zc_1 (zc_1 zb_335))))))))), rfl⟩
theorem eL_law_339 : dx cL_law 339 (.ireturn) 1 340 := ⟨zd_c (o := 306) (p := 33) zh_306 (zc_2 (zc_1 (zc_1 (zc_1 (zc_1 (zc_1 (zc_1 (zc_1 zb_335)))))))), rfl⟩
theorem eL_law_340 : dx cL_law 340 (.iload 6) 2 342 := ⟨zd_c (o := 306) (p := 34) zh_306 (zc_2 (zc_1 (zc_1 (zc_1 (zc_1 (zc_1 (zc_1 zb_335))))))), rfl⟩
theorem eL_law_342 : dx cL_law 342 (.ifCond .ne 15) 3 345 := ⟨zd_c (o := 306) (p := 36) zh_306 (zc_2 (zc_1 (zc_1 (zc_1 (zc_1 (zc_1 zb_335)))))), rfl⟩
theorem eL_law_345 : dx cL_law 345 (.aload_n 3) 1 346 := ⟨zd_c (o := 306) (p := 39) zh_306 (zc_2 (zc_1 (zc_1 (zc_1 (zc_1 zb_335))))), rfl⟩
theorem eL_law_346 : dx cL_law 346 (.iconst 0) 1 347 := ⟨zd_c (o := 306) (p := 40) zh_306 (zc_2 (zc_1 (zc_1 (zc_1 zb_335)))), rfl⟩
theorem eL_law_347 : dx cL_law 347 (.laload) 1 348 := ⟨zd_c (o := 306) (p := 41) zh_306 (zc_2 (zc_1 (zc_1 zb_335))), rfl⟩
theorem eL_law_348 : dx cL_law 348 (.iload 7) 2 350 := ⟨zd_c (o := 306) (p := 42) zh_306 (zc_2 (zc_1 zb_335)), rfl⟩
theorem eL_law_350 : dx cL_law 350 (.i2l) 1 351 := ⟨zd_c (o := 306) (p := 44) zh_306 (zc_2 zb_335), rfl⟩
theorem zb_351 : (zdC zp_306 45 (.lcmp) 1 && zdC zp_306 46 (.ifCond .eq 5) 3 && zdC zp_306 49 (.iconst 0) 1 && zdC zp_306 50 (.ireturn) 1 && zdC zp_306 51 (.goto 2434) 3 && zdC zp_306 54 (.aload_n 1) 1 && zdC zp_306 55 (.aload_n 0) 1 && zdC zp_306 56 (.iload 5) 2 && zdC zp_306 58 (.iconst 1) 1 && zdC zp_306 59 (.iadd) 1) = true := by decide +kernel
theorem eL_law_351 : dx cL_law 351 (.lcmp) 1 352 := ⟨zd_c (o := 306) (p := 45) zh_306 (zc_1 (zc_1 (zc_1 (zc_1 (zc_1 (zc_1 (zc_1 (zc_1 (zc_1 zb_351))))))))), rfl⟩
theorem eL_law_352 : dx cL_law 352 (.ifCond .eq 5) 3 355 := ⟨zd_c (o := 306) (p := 46) zh_306 (zc_2 (zc_1 (zc_1 (zc_1 (zc_1 (zc_1 (zc_1 (zc_1 (zc_1 zb_351))))))))), rfl⟩
theorem eL_law_355 : dx cL_law 355 (.iconst 0) 1 356 := ⟨zd_c (o := 306) (p := 49) zh_306 (zc_2 (zc_1 (zc_1 (zc_1 (zc_1 (zc_1 (zc_1 (zc_1 zb_351)))))))), rfl⟩
theorem eL_law_356 : dx cL_law 356 (.ireturn) 1 357 := ⟨zd_c (o := 306) (p := 50) zh_306 (zc_2 (zc_1 (zc_1 (zc_1 (zc_1 (zc_1 (zc_1 zb_351))))))), rfl⟩
theorem eL_law_357 : dx cL_law 357 (.goto 2434) 3 360 := ⟨zd_c (o := 306) (p := 51) zh_306 (zc_2 (zc_1 (zc_1 (zc_1 (zc_1 (zc_1 zb_351)))))), rfl⟩
theorem eL_law_360 : dx cL_law 360 (.aload_n 1) 1 361 := ⟨zd_c (o := 306) (p := 54) zh_306 (zc_2 (zc_1 (zc_1 (zc_1 (zc_1 zb_351))))), rfl⟩
theorem eL_law_361 : dx cL_law 361 (.aload_n 0) 1 362 := ⟨zd_c (o := 306) (p := 55) zh_306 (zc_2 (zc_1 (zc_1 (zc_1 zb_351)))), rfl⟩
theorem eL_law_362 : dx cL_law 362 (.iload 5) 2 364 := ⟨zd_c (o := 306) (p := 56) zh_306 (zc_2 (zc_1 (zc_1 zb_351))), rfl⟩
theorem eL_law_364 : dx cL_law 364 (.iconst 1) 1 365 := ⟨zd_c (o := 306) (p := 58) zh_306 (zc_2 (zc_1 zb_351)), rfl⟩
theorem eL_law_365 : dx cL_law 365 (.iadd) 1 366 := ⟨zd_c (o := 306) (p := 59) zh_306 (zc_2 zb_351), rfl⟩
def zp_366 : ByteArray := ⟨#[0x2e, 0xb8, 0x00, 0x94, 0x36, 0x06, 0x2c, 0x2a, 0x15, 0x05, 0x04, 0x60, 0x2e, 0xb6, 0x00, 0x97, 0x2c, 0xb6, 0x00, 0x91, 0x15, 0x06, 0x9f, 0x00, 0x05, 0x03, 0xac, 0xa7, 0x09, 0x5e, 0x2b, 0xb6, 0x00, 0x98, 0x2c, 0xb6, 0x00, 0x9b, 0x9f, 0x09, 0x53, 0x03, 0xac, 0x2b, 0xb6, 0x00, 0x9c, 0x2c, 0xb6, 0x00, 0x9f, 0x9f, 0x09, 0x46, 0x03, 0xac, 0x2b, 0xb6, 0x00, 0xa0, 0x2c, 0xb6, 0x00, 0xa3, 0x9f, 0x09, 0x39, 0x03, 0xac, 0x2b, 0xb6, 0x00, 0xa4]⟩
theorem zh_366 : SubC cL_law zp_366 366 := sub_of (n := 73) (by decide +kernel)
theorem zb_366 : (zdC zp_366 0 (.iaload) 1 && zdC zp_366 1 (.invokestatic 148) 3 && zdC zp_366 4 (.istore 6) 2 && zdC zp_366 6 (.aload_n 2) 1 && zdC zp_366 7 (.aload_n 0) 1 && zdC zp_366 8 (.iload 5) 2 && zdC zp_366 10 (.iconst 1) 1 && zdC zp_366 11 (.iadd) 1 && zdC zp_366 12 (.iaload) 1 && zdC zp_366 13 (.invokevirtual 151) 3) = true := by decide +kernel
theorem eL_law_366 : dx cL_law 366 (.iaload) 1 367 := ⟨zd_c (o := 366) (p := 0) zh_366 (zc_1 (zc_1 (zc_1 (zc_1 (zc_1 (zc_1 (zc_1 (zc_1 (zc_1 zb_366))))))))), rfl⟩
theorem eL_law_367 : dx cL_law 367 (.invokestatic 148) 3 370 := ⟨zd_c (o := 366) (p := 1) zh_366 (zc_2 (zc_1 (zc_1 (zc_1 (zc_1 (zc_1 (zc_1 (zc_1 (zc_1 zb_366))))))))), rfl⟩
theorem eL_law_370 : dx cL_law 370 (.istore 6) 2 372 := ⟨zd_c (o := 366) (p := 4) zh_366 (zc_2 (zc_1 (zc_1 (zc_1 (zc_1 (zc_1 (zc_1 (zc_1 zb_366)))))))), rfl⟩
theorem eL_law_372 : dx cL_law 372 (.aload_n 2) 1 373 := ⟨zd_c (o := 366) (p := 6) zh_366 (zc_2 (zc_1 (zc_1 (zc_1 (zc_1 (zc_1 (zc_1 zb_366))))))), rfl⟩
theorem eL_law_373 : dx cL_law 373 (.aload_n 0) 1 374 := ⟨zd_c (o := 366) (p := 7) zh_366 (zc_2 (zc_1 (zc_1 (zc_1 (zc_1 (zc_1 zb_366)))))), rfl⟩
theorem eL_law_374 : dx cL_law 374 (.iload 5) 2 376 := ⟨zd_c (o := 366) (p := 8) zh_366 (zc_2 (zc_1 (zc_1 (zc_1 (zc_1 zb_366))))), rfl⟩
theorem eL_law_376 : dx cL_law 376 (.iconst 1) 1 377 := ⟨zd_c (o := 366) (p := 10) zh_366 (zc_2 (zc_1 (zc_1 (zc_1 zb_366)))), rfl⟩
theorem eL_law_377 : dx cL_law 377 (.iadd) 1 378 := ⟨zd_c (o := 366) (p := 11) zh_366 (zc_2 (zc_1 (zc_1 zb_366))), rfl⟩
theorem eL_law_378 : dx cL_law 378 (.iaload) 1 379 := ⟨zd_c (o := 366) (p := 12) zh_366 (zc_2 (zc_1 zb_366)), rfl⟩
theorem eL_law_379 : dx cL_law 379 (.invokevirtual 151) 3 382 := ⟨zd_c (o := 366) (p := 13) zh_366 (zc_2 zb_366), rfl⟩
theorem zb_382 : (zdC zp_366 16 (.aload_n 2) 1 && zdC zp_366 17 (.invokevirtual 145) 3 && zdC zp_366 20 (.iload 6) 2 && zdC zp_366 22 (.if_icmp .eq 5) 3 && zdC zp_366 25 (.iconst 0) 1 && zdC zp_366 26 (.ireturn) 1 && zdC zp_366 27 (.goto 2398) 3 && zdC zp_366 30 (.aload_n 1) 1 && zdC zp_366 31 (.invokevirtual 152) 3 && zdC zp_366 34 (.aload_n 2) 1) = true := by decide +kernel
theorem eL_law_382 : dx cL_law 382 (.aload_n 2) 1 383 := ⟨zd_c (o := 366) (p := 16) zh_366 (zc_1 (zc_1 (zc_1 (zc_1 (zc_1 (zc_1 (zc_1 (zc_1 (zc_1 zb_382))))))))), rfl⟩
theorem eL_law_383 : dx cL_law 383 (.invokevirtual 145) 3 386 := ⟨zd_c (o := 366) (p := 17) zh_366 (zc_2 (zc_1 (zc_1 (zc_1 (zc_1 (zc_1 (zc_1 (zc_1 (zc_1 zb_382))))))))), rfl⟩
theorem eL_law_386 : dx cL_law 386 (.iload 6) 2 388 := ⟨zd_c (o := 366) (p := 20) zh_366 (zc_2 (zc_1 (zc_1 (zc_1 (zc_1 (zc_1 (zc_1 (zc_1 zb_382)))))))), rfl⟩
theorem eL_law_388 : dx cL_law 388 (.if_icmp .eq 5) 3 391 := ⟨zd_c (o := 366) (p := 22) zh_366 (zc_2 (zc_1 (zc_1 (zc_1 (zc_1 (zc_1 (zc_1 zb_382))))))), rfl⟩
theorem eL_law_391 : dx cL_law 391 (.iconst 0) 1 392 := ⟨zd_c (o := 366) (p := 25) zh_366 (zc_2 (zc_1 (zc_1 (zc_1 (zc_1 (zc_1 zb_382)))))), rfl⟩
theorem eL_law_392 : dx cL_law 392 (.ireturn) 1 393 := ⟨zd_c (o := 366) (p := 26) zh_366 (zc_2 (zc_1 (zc_1 (zc_1 (zc_1 zb_382))))), rfl⟩
theorem eL_law_393 : dx cL_law 393 (.goto 2398) 3 396 := ⟨zd_c (o := 366) (p := 27) zh_366 (zc_2 (zc_1 (zc_1 (zc_1 zb_382)))), rfl⟩
theorem eL_law_396 : dx cL_law 396 (.aload_n 1) 1 397 := ⟨zd_c (o := 366) (p := 30) zh_366 (zc_2 (zc_1 (zc_1 zb_382))), rfl⟩
theorem eL_law_397 : dx cL_law 397 (.invokevirtual 152) 3 400 := ⟨zd_c (o := 366) (p := 31) zh_366 (zc_2 (zc_1 zb_382)), rfl⟩
theorem eL_law_400 : dx cL_law 400 (.aload_n 2) 1 401 := ⟨zd_c (o := 366) (p := 34) zh_366 (zc_2 zb_382), rfl⟩
theorem zb_401 : (zdC zp_366 35 (.invokevirtual 155) 3 && zdC zp_366 38 (.if_icmp .eq 2387) 3 && zdC zp_366 41 (.iconst 0) 1 && zdC zp_366 42 (.ireturn) 1 && zdC zp_366 43 (.aload_n 1) 1 && zdC zp_366 44 (.invokevirtual 156) 3 && zdC zp_366 47 (.aload_n 2) 1 && zdC zp_366 48 (.invokevirtual 159) 3 && zdC zp_366 51 (.if_icmp .eq 2374) 3 && zdC zp_366 54 (.iconst 0) 1) = true := by decide +kernel
theorem eL_law_401 : dx cL_law 401 (.invokevirtual 155) 3 404 := ⟨zd_c (o := 366) (p := 35) zh_366 (zc_1 (zc_1 (zc_1 (zc_1 (zc_1 (zc_1 (zc_1 (zc_1 (zc_1 zb_401))))))))), rfl⟩
theorem eL_law_404 : dx cL_law 404 (.if_icmp .eq 2387) 3 407 := ⟨zd_c (o := 366) (p := 38) zh_366 (zc_2 (zc_1 (zc_1 (zc_1 (zc_1 (zc_1 (zc_1 (zc_1 (zc_1 zb_401))))))))), rfl⟩
theorem eL_law_407 : dx cL_law 407 (.iconst 0) 1 408 := ⟨zd_c (o := 366) (p := 41) zh_366 (zc_2 (zc_1 (zc_1 (zc_1 (zc_1 (zc_1 (zc_1 (zc_1 zb_401)))))))), rfl⟩
theorem eL_law_408 : dx cL_law 408 (.ireturn) 1 409 := ⟨zd_c (o := 366) (p := 42) zh_366 (zc_2 (zc_1 (zc_1 (zc_1 (zc_1 (zc_1 (zc_1 zb_401))))))), rfl⟩
theorem eL_law_409 : dx cL_law 409 (.aload_n 1) 1 410 := ⟨zd_c (o := 366) (p := 43) zh_366 (zc_2 (zc_1 (zc_1 (zc_1 (zc_1 (zc_1 zb_401)))))), rfl⟩
theorem eL_law_410 : dx cL_law 410 (.invokevirtual 156) 3 413 := ⟨zd_c (o := 366) (p := 44) zh_366 (zc_2 (zc_1 (zc_1 (zc_1 (zc_1 zb_401))))), rfl⟩
theorem eL_law_413 : dx cL_law 413 (.aload_n 2) 1 414 := ⟨zd_c (o := 366) (p := 47) zh_366 (zc_2 (zc_1 (zc_1 (zc_1 zb_401)))), rfl⟩
theorem eL_law_414 : dx cL_law 414 (.invokevirtual 159) 3 417 := ⟨zd_c (o := 366) (p := 48) zh_366 (zc_2 (zc_1 (zc_1 zb_401))), rfl⟩
theorem eL_law_417 : dx cL_law 417 (.if_icmp .eq 2374) 3 420 := ⟨zd_c (o := 366) (p := 51) zh_366 (zc_2 (zc_1 zb_401)), rfl⟩
theorem eL_law_420 : dx cL_law 420 (.iconst 0) 1 421 := ⟨zd_c (o := 366) (p := 54) zh_366 (zc_2 zb_401), rfl⟩
theorem zb_421 : (zdC zp_366 55 (.ireturn) 1 && zdC zp_366 56 (.aload_n 1) 1 && zdC zp_366 57 (.invokevirtual 160) 3 && zdC zp_366 60 (.aload_n 2) 1 && zdC zp_366 61 (.invokevirtual 163) 3 && zdC zp_366 64 (.if_icmp .eq 2361) 3 && zdC zp_366 67 (.iconst 0) 1 && zdC zp_366 68 (.ireturn) 1 && zdC zp_366 69 (.aload_n 1) 1 && zdC zp_366 70 (.invokevirtual 164) 3) = true := by decide +kernel
theorem eL_law_421 : dx cL_law 421 (.ireturn) 1 422 := ⟨zd_c (o := 366) (p := 55) zh_366 (zc_1 (zc_1 (zc_1 (zc_1 (zc_1 (zc_1 (zc_1 (zc_1 (zc_1 zb_421))))))))), rfl⟩
theorem eL_law_422 : dx cL_law 422 (.aload_n 1) 1 423 := ⟨zd_c (o := 366) (p := 56) zh_366 (zc_2 (zc_1 (zc_1 (zc_1 (zc_1 (zc_1 (zc_1 (zc_1 (zc_1 zb_421))))))))), rfl⟩
theorem eL_law_423 : dx cL_law 423 (.invokevirtual 160) 3 426 := ⟨zd_c (o := 366) (p := 57) zh_366 (zc_2 (zc_1 (zc_1 (zc_1 (zc_1 (zc_1 (zc_1 (zc_1 zb_421)))))))), rfl⟩
theorem eL_law_426 : dx cL_law 426 (.aload_n 2) 1 427 := ⟨zd_c (o := 366) (p := 60) zh_366 (zc_2 (zc_1 (zc_1 (zc_1 (zc_1 (zc_1 (zc_1 zb_421))))))), rfl⟩
theorem eL_law_427 : dx cL_law 427 (.invokevirtual 163) 3 430 := ⟨zd_c (o := 366) (p := 61) zh_366 (zc_2 (zc_1 (zc_1 (zc_1 (zc_1 (zc_1 zb_421)))))), rfl⟩
theorem eL_law_430 : dx cL_law 430 (.if_icmp .eq 2361) 3 433 := ⟨zd_c (o := 366) (p := 64) zh_366 (zc_2 (zc_1 (zc_1 (zc_1 (zc_1 zb_421))))), rfl⟩
theorem eL_law_433 : dx cL_law 433 (.iconst 0) 1 434 := ⟨zd_c (o := 366) (p := 67) zh_366 (zc_2 (zc_1 (zc_1 (zc_1 zb_421)))), rfl⟩
theorem eL_law_434 : dx cL_law 434 (.ireturn) 1 435 := ⟨zd_c (o := 366) (p := 68) zh_366 (zc_2 (zc_1 (zc_1 zb_421))), rfl⟩
theorem eL_law_435 : dx cL_law 435 (.aload_n 1) 1 436 := ⟨zd_c (o := 366) (p := 69) zh_366 (zc_2 (zc_1 zb_421)), rfl⟩
theorem eL_law_436 : dx cL_law 436 (.invokevirtual 164) 3 439 := ⟨zd_c (o := 366) (p := 70) zh_366 (zc_2 zb_421), rfl⟩
def zp_439 : ByteArray := ⟨#[0x2c, 0xb6, 0x00, 0xa7, 0x9f, 0x09, 0x2c, 0x03, 0xac, 0x2b, 0x2a, 0x15, 0x05, 0x04, 0x60, 0x2e, 0x2d, 0xb8, 0x00, 0xa8, 0x36, 0x06, 0x2c, 0x2a, 0x15, 0x05, 0x04, 0x60, 0x2e, 0xb6, 0x00, 0xab, 0x36, 0x07, 0x2c, 0xb6, 0x00, 0x91, 0x15, 0x06, 0x9f, 0x00, 0x05, 0x03, 0xac, 0x15, 0x06, 0x9a, 0x00, 0x0f, 0x2d, 0x03, 0x2f, 0x15, 0x07, 0x85, 0x94, 0x99, 0x00, 0x05, 0x03, 0xac, 0xa7, 0x08, 0xf2]⟩
theorem zh_439 : SubC cL_law zp_439 439 := sub_of (n := 65) (by decide +kernel)
theorem zb_439 : (zdC zp_439 0 (.aload_n 2) 1 && zdC zp_439 1 (.invokevirtual 167) 3 && zdC zp_439 4 (.if_icmp .eq 2348) 3 && zdC zp_439 7 (.iconst 0) 1 && zdC zp_439 8 (.ireturn) 1 && zdC zp_439 9 (.aload_n 1) 1 && zdC zp_439 10 (.aload_n 0) 1 && zdC zp_439 11 (.iload 5) 2 && zdC zp_439 13 (.iconst 1) 1 && zdC zp_439 14 (.iadd) 1) = true := by decide +kernel
theorem eL_law_439 : dx cL_law 439 (.aload_n 2) 1 440 := ⟨zd_c (o := 439) (p := 0) zh_439 (zc_1 (zc_1 (zc_1 (zc_1 (zc_1 (zc_1 (zc_1 (zc_1 (zc_1 zb_439))))))))), rfl⟩
theorem eL_law_440 : dx cL_law 440 (.invokevirtual 167) 3 443 := ⟨zd_c (o := 439) (p := 1) zh_439 (zc_2 (zc_1 (zc_1 (zc_1 (zc_1 (zc_1 (zc_1 (zc_1 (zc_1 zb_439))))))))), rfl⟩
theorem eL_law_443 : dx cL_law 443 (.if_icmp .eq 2348) 3 446 := ⟨zd_c (o := 439) (p := 4) zh_439 (zc_2 (zc_1 (zc_1 (zc_1 (zc_1 (zc_1 (zc_1 (zc_1 zb_439)))))))), rfl⟩
theorem eL_law_446 : dx cL_law 446 (.iconst 0) 1 447 := ⟨zd_c (o := 439) (p := 7) zh_439 (zc_2 (zc_1 (zc_1 (zc_1 (zc_1 (zc_1 (zc_1 zb_439))))))), rfl⟩
theorem eL_law_447 : dx cL_law 447 (.ireturn) 1 448 := ⟨zd_c (o := 439) (p := 8) zh_439 (zc_2 (zc_1 (zc_1 (zc_1 (zc_1 (zc_1 zb_439)))))), rfl⟩
theorem eL_law_448 : dx cL_law 448 (.aload_n 1) 1 449 := ⟨zd_c (o := 439) (p := 9) zh_439 (zc_2 (zc_1 (zc_1 (zc_1 (zc_1 zb_439))))), rfl⟩
theorem eL_law_449 : dx cL_law 449 (.aload_n 0) 1 450 := ⟨zd_c (o := 439) (p := 10) zh_439 (zc_2 (zc_1 (zc_1 (zc_1 zb_439)))), rfl⟩
theorem eL_law_450 : dx cL_law 450 (.iload 5) 2 452 := ⟨zd_c (o := 439) (p := 11) zh_439 (zc_2 (zc_1 (zc_1 zb_439))), rfl⟩
theorem eL_law_452 : dx cL_law 452 (.iconst 1) 1 453 := ⟨zd_c (o := 439) (p := 13) zh_439 (zc_2 (zc_1 zb_439)), rfl⟩
theorem eL_law_453 : dx cL_law 453 (.iadd) 1 454 := ⟨zd_c (o := 439) (p := 14) zh_439 (zc_2 zb_439), rfl⟩
theorem zb_454 : (zdC zp_439 15 (.iaload) 1 && zdC zp_439 16 (.aload_n 3) 1 && zdC zp_439 17 (.invokestatic 168) 3 && zdC zp_439 20 (.istore 6) 2 && zdC zp_439 22 (.aload_n 2) 1 && zdC zp_439 23 (.aload_n 0) 1 && zdC zp_439 24 (.iload 5) 2 && zdC zp_439 26 (.iconst 1) 1 && zdC zp_439 27 (.iadd) 1 && zdC zp_439 28 (.iaload) 1) = true := by decide +kernel
theorem eL_law_454 : dx cL_law 454 (.iaload) 1 455 := ⟨zd_c (o := 439) (p := 15) zh_439 (zc_1 (zc_1 (zc_1 (zc_1 (zc_1 (zc_1 (zc_1 (zc_1 (zc_1 zb_454))))))))), rfl⟩
theorem eL_law_455 : dx cL_law 455 (.aload_n 3) 1 456 := ⟨zd_c (o := 439) (p := 16) zh_439 (zc_2 (zc_1 (zc_1 (zc_1 (zc_1 (zc_1 (zc_1 (zc_1 (zc_1 zb_454))))))))), rfl⟩
theorem eL_law_456 : dx cL_law 456 (.invokestatic 168) 3 459 := ⟨zd_c (o := 439) (p := 17) zh_439 (zc_2 (zc_1 (zc_1 (zc_1 (zc_1 (zc_1 (zc_1 (zc_1 zb_454)))))))), rfl⟩
theorem eL_law_459 : dx cL_law 459 (.istore 6) 2 461 := ⟨zd_c (o := 439) (p := 20) zh_439 (zc_2 (zc_1 (zc_1 (zc_1 (zc_1 (zc_1 (zc_1 zb_454))))))), rfl⟩
theorem eL_law_461 : dx cL_law 461 (.aload_n 2) 1 462 := ⟨zd_c (o := 439) (p := 22) zh_439 (zc_2 (zc_1 (zc_1 (zc_1 (zc_1 (zc_1 zb_454)))))), rfl⟩
theorem eL_law_462 : dx cL_law 462 (.aload_n 0) 1 463 := ⟨zd_c (o := 439) (p := 23) zh_439 (zc_2 (zc_1 (zc_1 (zc_1 (zc_1 zb_454))))), rfl⟩
theorem eL_law_463 : dx cL_law 463 (.iload 5) 2 465 := ⟨zd_c (o := 439) (p := 24) zh_439 (zc_2 (zc_1 (zc_1 (zc_1 zb_454)))), rfl⟩
theorem eL_law_465 : dx cL_law 465 (.iconst 1) 1 466 := ⟨zd_c (o := 439) (p := 26) zh_439 (zc_2 (zc_1 (zc_1 zb_454))), rfl⟩
theorem eL_law_466 : dx cL_law 466 (.iadd) 1 467 := ⟨zd_c (o := 439) (p := 27) zh_439 (zc_2 (zc_1 zb_454)), rfl⟩
theorem eL_law_467 : dx cL_law 467 (.iaload) 1 468 := ⟨zd_c (o := 439) (p := 28) zh_439 (zc_2 zb_454), rfl⟩
theorem zb_468 : (zdC zp_439 29 (.invokevirtual 171) 3 && zdC zp_439 32 (.istore 7) 2 && zdC zp_439 34 (.aload_n 2) 1 && zdC zp_439 35 (.invokevirtual 145) 3 && zdC zp_439 38 (.iload 6) 2 && zdC zp_439 40 (.if_icmp .eq 5) 3 && zdC zp_439 43 (.iconst 0) 1 && zdC zp_439 44 (.ireturn) 1 && zdC zp_439 45 (.iload 6) 2 && zdC zp_439 47 (.ifCond .ne 15) 3) = true := by decide +kernel
theorem eL_law_468 : dx cL_law 468 (.invokevirtual 171) 3 471 := ⟨zd_c (o := 439) (p := 29) zh_439 (zc_1 (zc_1 (zc_1 (zc_1 (zc_1 (zc_1 (zc_1 (zc_1 (zc_1 zb_468))))))))), rfl⟩
theorem eL_law_471 : dx cL_law 471 (.istore 7) 2 473 := ⟨zd_c (o := 439) (p := 32) zh_439 (zc_2 (zc_1 (zc_1 (zc_1 (zc_1 (zc_1 (zc_1 (zc_1 (zc_1 zb_468))))))))), rfl⟩
theorem eL_law_473 : dx cL_law 473 (.aload_n 2) 1 474 := ⟨zd_c (o := 439) (p := 34) zh_439 (zc_2 (zc_1 (zc_1 (zc_1 (zc_1 (zc_1 (zc_1 (zc_1 zb_468)))))))), rfl⟩
theorem eL_law_474 : dx cL_law 474 (.invokevirtual 145) 3 477 := ⟨zd_c (o := 439) (p := 35) zh_439 (zc_2 (zc_1 (zc_1 (zc_1 (zc_1 (zc_1 (zc_1 zb_468))))))), rfl⟩
theorem eL_law_477 : dx cL_law 477 (.iload 6) 2 479 := ⟨zd_c (o := 439) (p := 38) zh_439 (zc_2 (zc_1 (zc_1 (zc_1 (zc_1 (zc_1 zb_468)))))), rfl⟩
theorem eL_law_479 : dx cL_law 479 (.if_icmp .eq 5) 3 482 := ⟨zd_c (o := 439) (p := 40) zh_439 (zc_2 (zc_1 (zc_1 (zc_1 (zc_1 zb_468))))), rfl⟩
theorem eL_law_482 : dx cL_law 482 (.iconst 0) 1 483 := ⟨zd_c (o := 439) (p := 43) zh_439 (zc_2 (zc_1 (zc_1 (zc_1 zb_468)))), rfl⟩
theorem eL_law_483 : dx cL_law 483 (.ireturn) 1 484 := ⟨zd_c (o := 439) (p := 44) zh_439 (zc_2 (zc_1 (zc_1 zb_468))), rfl⟩
theorem eL_law_484 : dx cL_law 484 (.iload 6) 2 486 := ⟨zd_c (o := 439) (p := 45) zh_439 (zc_2 (zc_1 zb_468)), rfl⟩
theorem eL_law_486 : dx cL_law 486 (.ifCond .ne 15) 3 489 := ⟨zd_c (o := 439) (p := 47) zh_439 (zc_2 zb_468), rfl⟩
theorem zb_489 : (zdC zp_439 50 (.aload_n 3) 1 && zdC zp_439 51 (.iconst 0) 1 && zdC zp_439 52 (.laload) 1 && zdC zp_439 53 (.iload 7) 2 && zdC zp_439 55 (.i2l) 1 && zdC zp_439 56 (.lcmp) 1 && zdC zp_439 57 (.ifCond .eq 5) 3 && zdC zp_439 60 (.iconst 0) 1 && zdC zp_439 61 (.ireturn) 1 && zdC zp_439 62 (.goto 2290) 3) = true := by decide +kernel
theorem eL_law_489 : dx cL_law 489 (.aload_n 3) 1 490 := ⟨zd_c (o := 439) (p := 50) zh_439 (zc_1 (zc_1 (zc_1 (zc_1 (zc_1 (zc_1 (zc_1 (zc_1 (zc_1 zb_489))))))))), rfl⟩
theorem eL_law_490 : dx cL_law 490 (.iconst 0) 1 491 := ⟨zd_c (o := 439) (p := 51) zh_439 (zc_2 (zc_1 (zc_1 (zc_1 (zc_1 (zc_1 (zc_1 (zc_1 (zc_1 zb_489))))))))), rfl⟩
theorem eL_law_491 : dx cL_law 491 (.laload) 1 492 := ⟨zd_c (o := 439) (p := 52) zh_439 (zc_2 (zc_1 (zc_1 (zc_1 (zc_1 (zc_1 (zc_1 (zc_1 zb_489)))))))), rfl⟩
theorem eL_law_492 : dx cL_law 492 (.iload 7) 2 494 := ⟨zd_c (o := 439) (p := 53) zh_439 (zc_2 (zc_1 (zc_1 (zc_1 (zc_1 (zc_1 (zc_1 zb_489))))))), rfl⟩
theorem eL_law_494 : dx cL_law 494 (.i2l) 1 495 := ⟨zd_c (o := 439) (p := 55) zh_439 (zc_2 (zc_1 (zc_1 (zc_1 (zc_1 (zc_1 zb_489)))))), rfl⟩
theorem eL_law_495 : dx cL_law 495 (.lcmp) 1 496 := ⟨zd_c (o := 439) (p := 56) zh_439 (zc_2 (zc_1 (zc_1 (zc_1 (zc_1 zb_489))))), rfl⟩
theorem eL_law_496 : dx cL_law 496 (.ifCond .eq 5) 3 499 := ⟨zd_c (o := 439) (p := 57) zh_439 (zc_2 (zc_1 (zc_1 (zc_1 zb_489)))), rfl⟩
theorem eL_law_499 : dx cL_law 499 (.iconst 0) 1 500 := ⟨zd_c (o := 439) (p := 60) zh_439 (zc_2 (zc_1 (zc_1 zb_489))), rfl⟩
theorem eL_law_500 : dx cL_law 500 (.ireturn) 1 501 := ⟨zd_c (o := 439) (p := 61) zh_439 (zc_2 (zc_1 zb_489)), rfl⟩
theorem eL_law_501 : dx cL_law 501 (.goto 2290) 3 504 := ⟨zd_c (o := 439) (p := 62) zh_439 (zc_2 zb_489), rfl⟩
def zp_504 : ByteArray := ⟨#[0x2b, 0x2a, 0x15, 0x05, 0x04, 0x60, 0x2e, 0x2a, 0x15, 0x05, 0x05, 0x60, 0x2e, 0x2d, 0xb8, 0x00, 0xac, 0x36, 0x06, 0x2c, 0x2a, 0x15, 0x05, 0x04, 0x60, 0x2e, 0x2a, 0x15, 0x05, 0x05, 0x60, 0x2e, 0xb6, 0x00, 0xaf, 0x36, 0x07, 0x2c, 0xb6, 0x00, 0x91, 0x15, 0x06, 0x9f, 0x00, 0x05, 0x03, 0xac, 0x15, 0x06, 0x9a, 0x00, 0x0f, 0x2d, 0x03, 0x2f, 0x15, 0x07, 0x85]⟩
theorem zh_504 : SubC cL_law zp_504 504 := sub_of (n := 59) (by decide +kernel)
theorem zb_504 : (zdC zp_504 0 (.aload_n 1) 1 && zdC zp_504 1 (.aload_n 0) 1 && zdC zp_504 2 (.iload 5) 2 && zdC zp_504 4 (.iconst 1) 1 && zdC zp_504 5 (.iadd) 1 && zdC zp_504 6 (.iaload) 1 && zdC zp_504 7 (.aload_n 0) 1 && zdC zp_504 8 (.iload 5) 2 && zdC zp_504 10 (.iconst 2) 1 && zdC zp_504 11 (.iadd) 1) = true := by decide +kernel
theorem eL_law_504 : dx cL_law 504 (.aload_n 1) 1 505 := ⟨zd_c (o := 504) (p := 0) zh_504 (zc_1 (zc_1 (zc_1 (zc_1 (zc_1 (zc_1 (zc_1 (zc_1 (zc_1 zb_504))))))))), rfl⟩
theorem eL_law_505 : dx cL_law 505 (.aload_n 0) 1 506 := ⟨zd_c (o := 504) (p := 1) zh_504 (zc_2 (zc_1 (zc_1 (zc_1 (zc_1 (zc_1 (zc_1 (zc_1 (zc_1 zb_504))))))))), rfl⟩
theorem eL_law_506 : dx cL_law 506 (.iload 5) 2 508 := ⟨zd_c (o := 504) (p := 2) zh_504 (zc_2 (zc_1 (zc_1 (zc_1 (zc_1 (zc_1 (zc_1 (zc_1 zb_504)))))))), rfl⟩
theorem eL_law_508 : dx cL_law 508 (.iconst 1) 1 509 := ⟨zd_c (o := 504) (p := 4) zh_504 (zc_2 (zc_1 (zc_1 (zc_1 (zc_1 (zc_1 (zc_1 zb_504))))))), rfl⟩
theorem eL_law_509 : dx cL_law 509 (.iadd) 1 510 := ⟨zd_c (o := 504) (p := 5) zh_504 (zc_2 (zc_1 (zc_1 (zc_1 (zc_1 (zc_1 zb_504)))))), rfl⟩
theorem eL_law_510 : dx cL_law 510 (.iaload) 1 511 := ⟨zd_c (o := 504) (p := 6) zh_504 (zc_2 (zc_1 (zc_1 (zc_1 (zc_1 zb_504))))), rfl⟩
theorem eL_law_511 : dx cL_law 511 (.aload_n 0) 1 512 := ⟨zd_c (o := 504) (p := 7) zh_504 (zc_2 (zc_1 (zc_1 (zc_1 zb_504)))), rfl⟩
theorem eL_law_512 : dx cL_law 512 (.iload 5) 2 514 := ⟨zd_c (o := 504) (p := 8) zh_504 (zc_2 (zc_1 (zc_1 zb_504))), rfl⟩
theorem eL_law_514 : dx cL_law 514 (.iconst 2) 1 515 := ⟨zd_c (o := 504) (p := 10) zh_504 (zc_2 (zc_1 zb_504)), rfl⟩
theorem eL_law_515 : dx cL_law 515 (.iadd) 1 516 := ⟨zd_c (o := 504) (p := 11) zh_504 (zc_2 zb_504), rfl⟩
theorem zb_516 : (zdC zp_504 12 (.iaload) 1 && zdC zp_504 13 (.aload_n 3) 1 && zdC zp_504 14 (.invokestatic 172) 3 && zdC zp_504 17 (.istore 6) 2 && zdC zp_504 19 (.aload_n 2) 1 && zdC zp_504 20 (.aload_n 0) 1 && zdC zp_504 21 (.iload 5) 2 && zdC zp_504 23 (.iconst 1) 1 && zdC zp_504 24 (.iadd) 1 && zdC zp_504 25 (.iaload) 1) = true := by decide +kernel
theorem eL_law_516 : dx cL_law 516 (.iaload) 1 517 := ⟨zd_c (o := 504) (p := 12) zh_504 (zc_1 (zc_1 (zc_1 (zc_1 (zc_1 (zc_1 (zc_1 (zc_1 (zc_1 zb_516))))))))), rfl⟩
theorem eL_law_517 : dx cL_law 517 (.aload_n 3) 1 518 := ⟨zd_c (o := 504) (p := 13) zh_504 (zc_2 (zc_1 (zc_1 (zc_1 (zc_1 (zc_1 (zc_1 (zc_1 (zc_1 zb_516))))))))), rfl⟩
theorem eL_law_518 : dx cL_law 518 (.invokestatic 172) 3 521 := ⟨zd_c (o := 504) (p := 14) zh_504 (zc_2 (zc_1 (zc_1 (zc_1 (zc_1 (zc_1 (zc_1 (zc_1 zb_516)))))))), rfl⟩
theorem eL_law_521 : dx cL_law 521 (.istore 6) 2 523 := ⟨zd_c (o := 504) (p := 17) zh_504 (zc_2 (zc_1 (zc_1 (zc_1 (zc_1 (zc_1 (zc_1 zb_516))))))), rfl⟩
theorem eL_law_523 : dx cL_law 523 (.aload_n 2) 1 524 := ⟨zd_c (o := 504) (p := 19) zh_504 (zc_2 (zc_1 (zc_1 (zc_1 (zc_1 (zc_1 zb_516)))))), rfl⟩
theorem eL_law_524 : dx cL_law 524 (.aload_n 0) 1 525 := ⟨zd_c (o := 504) (p := 20) zh_504 (zc_2 (zc_1 (zc_1 (zc_1 (zc_1 zb_516))))), rfl⟩
theorem eL_law_525 : dx cL_law 525 (.iload 5) 2 527 := ⟨zd_c (o := 504) (p := 21) zh_504 (zc_2 (zc_1 (zc_1 (zc_1 zb_516)))), rfl⟩
theorem eL_law_527 : dx cL_law 527 (.iconst 1) 1 528 := ⟨zd_c (o := 504) (p := 23) zh_504 (zc_2 (zc_1 (zc_1 zb_516))), rfl⟩
theorem eL_law_528 : dx cL_law 528 (.iadd) 1 529 := ⟨zd_c (o := 504) (p := 24) zh_504 (zc_2 (zc_1 zb_516)), rfl⟩
theorem eL_law_529 : dx cL_law 529 (.iaload) 1 530 := ⟨zd_c (o := 504) (p := 25) zh_504 (zc_2 zb_516), rfl⟩
theorem zb_530 : (zdC zp_504 26 (.aload_n 0) 1 && zdC zp_504 27 (.iload 5) 2 && zdC zp_504 29 (.iconst 2) 1 && zdC zp_504 30 (.iadd) 1 && zdC zp_504 31 (.iaload) 1 && zdC zp_504 32 (.invokevirtual 175) 3 && zdC zp_504 35 (.istore 7) 2 && zdC zp_504 37 (.aload_n 2) 1 && zdC zp_504 38 (.invokevirtual 145) 3 && zdC zp_504 41 (.iload 6) 2) = true := by decide +kernel
theorem eL_law_530 : dx cL_law 530 (.aload_n 0) 1 531 := ⟨zd_c (o := 504) (p := 26) zh_504 (zc_1 (zc_1 (zc_1 (zc_1 (zc_1 (zc_1 (zc_1 (zc_1 (zc_1 zb_530))))))))), rfl⟩
theorem eL_law_531 : dx cL_law 531 (.iload 5) 2 533 := ⟨zd_c (o := 504) (p := 27) zh_504 (zc_2 (zc_1 (zc_1 (zc_1 (zc_1 (zc_1 (zc_1 (zc_1 (zc_1 zb_530))))))))), rfl⟩
theorem eL_law_533 : dx cL_law 533 (.iconst 2) 1 534 := ⟨zd_c (o := 504) (p := 29) zh_504 (zc_2 (zc_1 (zc_1 (zc_1 (zc_1 (zc_1 (zc_1 (zc_1 zb_530)))))))), rfl⟩
theorem eL_law_534 : dx cL_law 534 (.iadd) 1 535 := ⟨zd_c (o := 504) (p := 30) zh_504 (zc_2 (zc_1 (zc_1 (zc_1 (zc_1 (zc_1 (zc_1 zb_530))))))), rfl⟩
theorem eL_law_535 : dx cL_law 535 (.iaload) 1 536 := ⟨zd_c (o := 504) (p := 31) zh_504 (zc_2 (zc_1 (zc_1 (zc_1 (zc_1 (zc_1 zb_530)))))), rfl⟩
theorem eL_law_536 : dx cL_law 536 (.invokevirtual 175) 3 539 := ⟨zd_c (o := 504) (p := 32) zh_504 (zc_2 (zc_1 (zc_1 (zc_1 (zc_1 zb_530))))), rfl⟩
theorem eL_law_539 : dx cL_law 539 (.istore 7) 2 541 := ⟨zd_c (o := 504) (p := 35) zh_504 (zc_2 (zc_1 (zc_1 (zc_1 zb_530)))), rfl⟩
theorem eL_law_541 : dx cL_law 541 (.aload_n 2) 1 542 := ⟨zd_c (o := 504) (p := 37) zh_504 (zc_2 (zc_1 (zc_1 zb_530))), rfl⟩
theorem eL_law_542 : dx cL_law 542 (.invokevirtual 145) 3 545 := ⟨zd_c (o := 504) (p := 38) zh_504 (zc_2 (zc_1 zb_530)), rfl⟩
theorem eL_law_545 : dx cL_law 545 (.iload 6) 2 547 := ⟨zd_c (o := 504) (p := 41) zh_504 (zc_2 zb_530), rfl⟩
theorem zb_547 : (zdC zp_504 43 (.if_icmp .eq 5) 3 && zdC zp_504 46 (.iconst 0) 1 && zdC zp_504 47 (.ireturn) 1 && zdC zp_504 48 (.iload 6) 2 && zdC zp_504 50 (.ifCond .ne 15) 3 && zdC zp_504 53 (.aload_n 3) 1 && zdC zp_504 54 (.iconst 0) 1 && zdC zp_504 55 (.laload) 1 && zdC zp_504 56 (.iload 7) 2 && zdC zp_504 58 (.i2l) 1) = true := by decide +kernel
theorem eL_law_547 : dx cL_law 547 (.if_icmp .eq 5) 3 550 := ⟨zd_c (o := 504) (p := 43) zh_504 (zc_1 (zc_1 (zc_1 (zc_1 (zc_1 (zc_1 (zc_1 (zc_1 (zc_1 zb_547))))))))), rfl⟩
theorem eL_law_550 : dx cL_law 550 (.iconst 0) 1 551 := ⟨zd_c (o := 504) (p := 46) zh_504 (zc_2 (zc_1 (zc_1 (zc_1 (zc_1 (zc_1 (zc_1 (zc_1 (zc_1 zb_547))))))))), rfl⟩
theorem eL_law_551 : dx cL_law 551 (.ireturn) 1 552 := ⟨zd_c (o := 504) (p := 47) zh_504 (zc_2 (zc_1 (zc_1 (zc_1 (zc_1 (zc_1 (zc_1 (zc_1 zb_547)))))))), rfl⟩
theorem eL_law_552 : dx cL_law 552 (.iload 6) 2 554 := ⟨zd_c (o := 504) (p := 48) zh_504 (zc_2 (zc_1 (zc_1 (zc_1 (zc_1 (zc_1 (zc_1 zb_547))))))), rfl⟩
theorem eL_law_554 : dx cL_law 554 (.ifCond .ne 15) 3 557 := ⟨zd_c (o := 504) (p := 50) zh_504 (zc_2 (zc_1 (zc_1 (zc_1 (zc_1 (zc_1 zb_547)))))), rfl⟩
theorem eL_law_557 : dx cL_law 557 (.aload_n 3) 1 558 := ⟨zd_c (o := 504) (p := 53) zh_504 (zc_2 (zc_1 (zc_1 (zc_1 (zc_1 zb_547))))), rfl⟩
theorem eL_law_558 : dx cL_law 558 (.iconst 0) 1 559 := ⟨zd_c (o := 504) (p := 54) zh_504 (zc_2 (zc_1 (zc_1 (zc_1 zb_547)))), rfl⟩
theorem eL_law_559 : dx cL_law 559 (.laload) 1 560 := ⟨zd_c (o := 504) (p := 55) zh_504 (zc_2 (zc_1 (zc_1 zb_547))), rfl⟩
theorem eL_law_560 : dx cL_law 560 (.iload 7) 2 562 := ⟨zd_c (o := 504) (p := 56) zh_504 (zc_2 (zc_1 zb_547)), rfl⟩
theorem eL_law_562 : dx cL_law 562 (.i2l) 1 563 := ⟨zd_c (o := 504) (p := 58) zh_504 (zc_2 zb_547), rfl⟩
def zp_563 : ByteArray := ⟨#[0x94, 0x99, 0x00, 0x05, 0x03, 0xac, 0xa7, 0x08, 0xae, 0x2b, 0x2a, 0x15, 0x05, 0x04, 0x60, 0x2e, 0x2a, 0x15, 0x05, 0x05, 0x60, 0x2e, 0x2d, 0xb8, 0x00, 0xb0, 0x36, 0x06, 0x2c, 0x2a, 0x15, 0x05, 0x04, 0x60, 0x2e, 0x2a, 0x15, 0x05, 0x05, 0x60, 0x2e, 0xb6, 0x00, 0xb2, 0x36, 0x07, 0x2c, 0xb6, 0x00, 0x91, 0x15, 0x06, 0x9f, 0x00, 0x05, 0x03, 0xac, 0x15, 0x06, 0x9a, 0x00, 0x0f]⟩
theorem zh_563 : SubC cL_law zp_563 563 := sub_of (n := 62) (by decide +kernel)
theorem zb_563 : (zdC zp_563 0 (.lcmp) 1 && zdC zp_563 1 (.ifCond .eq 5) 3 && zdC zp_563 4 (.iconst 0) 1 && zdC zp_563 5 (.ireturn) 1 && zdC zp_563 6 (.goto 2222) 3 && zdC zp_563 9 (.aload_n 1) 1 && zdC zp_563 10 (.aload_n 0) 1 && zdC zp_563 11 (.iload 5) 2 && zdC zp_563 13 (.iconst 1) 1 && zdC zp_563 14 (.iadd) 1) = true := by decide +kernel
theorem eL_law_563 : dx cL_law 563 (.lcmp) 1 564 := ⟨zd_c (o := 563) (p := 0) zh_563 (zc_1 (zc_1 (zc_1 (zc_1 (zc_1 (zc_1 (zc_1 (zc_1 (zc_1 zb_563))))))))), rfl⟩
theorem eL_law_564 : dx cL_law 564 (.ifCond .eq 5) 3 567 := ⟨zd_c (o := 563) (p := 1) zh_563 (zc_2 (zc_1 (zc_1 (zc_1 (zc_1 (zc_1 (zc_1 (zc_1 (zc_1 zb_563))))))))), rfl⟩
theorem eL_law_567 : dx cL_law 567 (.iconst 0) 1 568 := ⟨zd_c (o := 563) (p := 4) zh_563 (zc_2 (zc_1 (zc_1 (zc_1 (zc_1 (zc_1 (zc_1 (zc_1 zb_563)))))))), rfl⟩
theorem eL_law_568 : dx cL_law 568 (.ireturn) 1 569 := ⟨zd_c (o := 563) (p := 5) zh_563 (zc_2 (zc_1 (zc_1 (zc_1 (zc_1 (zc_1 (zc_1 zb_563))))))), rfl⟩
theorem eL_law_569 : dx cL_law 569 (.goto 2222) 3 572 := ⟨zd_c (o := 563) (p := 6) zh_563 (zc_2 (zc_1 (zc_1 (zc_1 (zc_1 (zc_1 zb_563)))))), rfl⟩
theorem eL_law_572 : dx cL_law 572 (.aload_n 1) 1 573 := ⟨zd_c (o := 563) (p := 9) zh_563 (zc_2 (zc_1 (zc_1 (zc_1 (zc_1 zb_563))))), rfl⟩
theorem eL_law_573 : dx cL_law 573 (.aload_n 0) 1 574 := ⟨zd_c (o := 563) (p := 10) zh_563 (zc_2 (zc_1 (zc_1 (zc_1 zb_563)))), rfl⟩
theorem eL_law_574 : dx cL_law 574 (.iload 5) 2 576 := ⟨zd_c (o := 563) (p := 11) zh_563 (zc_2 (zc_1 (zc_1 zb_563))), rfl⟩
theorem eL_law_576 : dx cL_law 576 (.iconst 1) 1 577 := ⟨zd_c (o := 563) (p := 13) zh_563 (zc_2 (zc_1 zb_563)), rfl⟩
theorem eL_law_577 : dx cL_law 577 (.iadd) 1 578 := ⟨zd_c (o := 563) (p := 14) zh_563 (zc_2 zb_563), rfl⟩
theorem zb_578 : (zdC zp_563 15 (.iaload) 1 && zdC zp_563 16 (.aload_n 0) 1 && zdC zp_563 17 (.iload 5) 2 && zdC zp_563 19 (.iconst 2) 1 && zdC zp_563 20 (.iadd) 1 && zdC zp_563 21 (.iaload) 1 && zdC zp_563 22 (.aload_n 3) 1 && zdC zp_563 23 (.invokestatic 176) 3 && zdC zp_563 26 (.istore 6) 2 && zdC zp_563 28 (.aload_n 2) 1) = true := by decide +kernel
theorem eL_law_578 : dx cL_law 578 (.iaload) 1 579 := ⟨zd_c (o := 563) (p := 15) zh_563 (zc_1 (zc_1 (zc_1 (zc_1 (zc_1 (zc_1 (zc_1 (zc_1 (zc_1 zb_578))))))))), rfl⟩
theorem eL_law_579 : dx cL_law 579 (.aload_n 0) 1 580 := ⟨zd_c (o := 563) (p := 16) zh_563 (zc_2 (zc_1 (zc_1 (zc_1 (zc_1 (zc_1 (zc_1 (zc_1 (zc_1 zb_578))))))))), rfl⟩
theorem eL_law_580 : dx cL_law 580 (.iload 5) 2 582 := ⟨zd_c (o := 563) (p := 17) zh_563 (zc_2 (zc_1 (zc_1 (zc_1 (zc_1 (zc_1 (zc_1 (zc_1 zb_578)))))))), rfl⟩
theorem eL_law_582 : dx cL_law 582 (.iconst 2) 1 583 := ⟨zd_c (o := 563) (p := 19) zh_563 (zc_2 (zc_1 (zc_1 (zc_1 (zc_1 (zc_1 (zc_1 zb_578))))))), rfl⟩
theorem eL_law_583 : dx cL_law 583 (.iadd) 1 584 := ⟨zd_c (o := 563) (p := 20) zh_563 (zc_2 (zc_1 (zc_1 (zc_1 (zc_1 (zc_1 zb_578)))))), rfl⟩
theorem eL_law_584 : dx cL_law 584 (.iaload) 1 585 := ⟨zd_c (o := 563) (p := 21) zh_563 (zc_2 (zc_1 (zc_1 (zc_1 (zc_1 zb_578))))), rfl⟩
theorem eL_law_585 : dx cL_law 585 (.aload_n 3) 1 586 := ⟨zd_c (o := 563) (p := 22) zh_563 (zc_2 (zc_1 (zc_1 (zc_1 zb_578)))), rfl⟩
theorem eL_law_586 : dx cL_law 586 (.invokestatic 176) 3 589 := ⟨zd_c (o := 563) (p := 23) zh_563 (zc_2 (zc_1 (zc_1 zb_578))), rfl⟩
theorem eL_law_589 : dx cL_law 589 (.istore 6) 2 591 := ⟨zd_c (o := 563) (p := 26) zh_563 (zc_2 (zc_1 zb_578)), rfl⟩
theorem eL_law_591 : dx cL_law 591 (.aload_n 2) 1 592 := ⟨zd_c (o := 563) (p := 28) zh_563 (zc_2 zb_578), rfl⟩
theorem zb_592 : (zdC zp_563 29 (.aload_n 0) 1 && zdC zp_563 30 (.iload 5) 2 && zdC zp_563 32 (.iconst 1) 1 && zdC zp_563 33 (.iadd) 1 && zdC zp_563 34 (.iaload) 1 && zdC zp_563 35 (.aload_n 0) 1 && zdC zp_563 36 (.iload 5) 2 && zdC zp_563 38 (.iconst 2) 1 && zdC zp_563 39 (.iadd) 1 && zdC zp_563 40 (.iaload) 1) = true := by decide +kernel
theorem eL_law_592 : dx cL_law 592 (.aload_n 0) 1 593 := ⟨zd_c (o := 563) (p := 29) zh_563 (zc_1 (zc_1 (zc_1 (zc_1 (zc_1 (zc_1 (zc_1 (zc_1 (zc_1 zb_592))))))))), rfl⟩
theorem eL_law_593 : dx cL_law 593 (.iload 5) 2 595 := ⟨zd_c (o := 563) (p := 30) zh_563 (zc_2 (zc_1 (zc_1 (zc_1 (zc_1 (zc_1 (zc_1 (zc_1 (zc_1 zb_592))))))))), rfl⟩
theorem eL_law_595 : dx cL_law 595 (.iconst 1) 1 596 := ⟨zd_c (o := 563) (p := 32) zh_563 (zc_2 (zc_1 (zc_1 (zc_1 (zc_1 (zc_1 (zc_1 (zc_1 zb_592)))))))), rfl⟩
theorem eL_law_596 : dx cL_law 596 (.iadd) 1 597 := ⟨zd_c (o := 563) (p := 33) zh_563 (zc_2 (zc_1 (zc_1 (zc_1 (zc_1 (zc_1 (zc_1 zb_592))))))), rfl⟩
theorem eL_law_597 : dx cL_law 597 (.iaload) 1 598 := ⟨zd_c (o := 563) (p := 34) zh_563 (zc_2 (zc_1 (zc_1 (zc_1 (zc_1 (zc_1 zb_592)))))), rfl⟩
theorem eL_law_598 : dx cL_law 598 (.aload_n 0) 1 599 := ⟨zd_c (o := 563) (p := 35) zh_563 (zc_2 (zc_1 (zc_1 (zc_1 (zc_1 zb_592))))), rfl⟩
theorem eL_law_599 : dx cL_law 599 (.iload 5) 2 601 := ⟨zd_c (o := 563) (p := 36) zh_563 (zc_2 (zc_1 (zc_1 (zc_1 zb_592)))), rfl⟩
theorem eL_law_601 : dx cL_law 601 (.iconst 2) 1 602 := ⟨zd_c (o := 563) (p := 38) zh_563 (zc_2 (zc_1 (zc_1 zb_592))), rfl⟩
theorem eL_law_602 : dx cL_law 602 (.iadd) 1 603 := ⟨zd_c (o := 563) (p := 39) zh_563 (zc_2 (zc_1 zb_592)), rfl⟩
theorem eL_law_603 : dx cL_law 603 (.iaload) 1 604 := ⟨zd_c (o := 563) (p := 40) zh_563 (zc_2 zb_592), rfl⟩
theorem zb_604 : (zdC zp_563 41 (.invokevirtual 178) 3 && zdC zp_563 44 (.istore 7) 2 && zdC zp_563 46 (.aload_n 2) 1 && zdC zp_563 47 (.invokevirtual 145) 3 && zdC zp_563 50 (.iload 6) 2 && zdC zp_563 52 (.if_icmp .eq 5) 3 && zdC zp_563 55 (.iconst 0) 1 && zdC zp_563 56 (.ireturn) 1 && zdC zp_563 57 (.iload 6) 2 && zdC zp_563 59 (.ifCond .ne 15) 3) = true := by decide +kernel
theorem eL_law_604 : dx cL_law 604 (.invokevirtual 178) 3 607 := ⟨zd_c (o := 563) (p := 41) zh_563 (zc_1 (zc_1 (zc_1 (zc_1 (zc_1 (zc_1 (zc_1 (zc_1 (zc_1 zb_604))))))))), rfl⟩
theorem eL_law_607 : dx cL_law 607 (.istore 7) 2 609 := ⟨zd_c (o := 563) (p := 44) zh_563 (zc_2 (zc_1 (zc_1 (zc_1 (zc_1 (zc_1 (zc_1 (zc_1 (zc_1 zb_604))))))))), rfl⟩
theorem eL_law_609 : dx cL_law 609 (.aload_n 2) 1 610 := ⟨zd_c (o := 563) (p := 46) zh_563 (zc_2 (zc_1 (zc_1 (zc_1 (zc_1 (zc_1 (zc_1 (zc_1 zb_604)))))))), rfl⟩
theorem eL_law_610 : dx cL_law 610 (.invokevirtual 145) 3 613 := ⟨zd_c (o := 563) (p := 47) zh_563 (zc_2 (zc_1 (zc_1 (zc_1 (zc_1 (zc_1 (zc_1 zb_604))))))), rfl⟩
theorem eL_law_613 : dx cL_law 613 (.iload 6) 2 615 := ⟨zd_c (o := 563) (p := 50) zh_563 (zc_2 (zc_1 (zc_1 (zc_1 (zc_1 (zc_1 zb_604)))))), rfl⟩
theorem eL_law_615 : dx cL_law 615 (.if_icmp .eq 5) 3 618 := ⟨zd_c (o := 563) (p := 52) zh_563 (zc_2 (zc_1 (zc_1 (zc_1 (zc_1 zb_604))))), rfl⟩
theorem eL_law_618 : dx cL_law 618 (.iconst 0) 1 619 := ⟨zd_c (o := 563) (p := 55) zh_563 (zc_2 (zc_1 (zc_1 (zc_1 zb_604)))), rfl⟩
theorem eL_law_619 : dx cL_law 619 (.ireturn) 1 620 := ⟨zd_c (o := 563) (p := 56) zh_563 (zc_2 (zc_1 (zc_1 zb_604))), rfl⟩
theorem eL_law_620 : dx cL_law 620 (.iload 6) 2 622 := ⟨zd_c (o := 563) (p := 57) zh_563 (zc_2 (zc_1 zb_604)), rfl⟩
theorem eL_law_622 : dx cL_law 622 (.ifCond .ne 15) 3 625 := ⟨zd_c (o := 563) (p := 59) zh_563 (zc_2 zb_604), rfl⟩
def zp_625 : ByteArray := ⟨#[0x2d, 0x03, 0x2f, 0x15, 0x07, 0x85, 0x94, 0x99, 0x00, 0x05, 0x03, 0xac, 0xa7, 0x08, 0x6a, 0x2b, 0x2a, 0x15, 0x05, 0x04, 0x60, 0x2e, 0x2a, 0x15, 0x05, 0x05, 0x60, 0x2e, 0x99, 0x00, 0x07, 0x04, 0xa7, 0x00, 0x04, 0x03, 0x2a, 0x15, 0x05, 0x06, 0x60, 0x2e, 0x2d, 0xb8, 0x00, 0xb3, 0x36, 0x06, 0x2c, 0x2a, 0x15, 0x05, 0x04, 0x60, 0x2e, 0x2a]⟩
theorem zh_625 : SubC cL_law zp_625 625 := sub_of (n := 56) (by decide +kernel)
theorem zb_625 : (zdC zp_625 0 (.aload_n 3) 1 && zdC zp_625 1 (.iconst 0) 1 && zdC zp_625 2 (.laload) 1 && zdC zp_625 3 (.iload 7) 2 && zdC zp_625 5 (.i2l) 1 && zdC zp_625 6 (.lcmp) 1 && zdC zp_625 7 (.ifCond .eq 5) 3 && zdC zp_625 10 (.iconst 0) 1 && zdC zp_625 11 (.ireturn) 1 && zdC zp_625 12 (.goto 2154) 3) = true := by decide +kernel
theorem eL_law_625 : dx cL_law 625 (.aload_n 3) 1 626 := ⟨zd_c (o := 625) (p := 0) zh_625 (zc_1 (zc_1 (zc_1 (zc_1 (zc_1 (zc_1 (zc_1 (zc_1 (zc_1 zb_625))))))))), rfl⟩
theorem eL_law_626 : dx cL_law 626 (.iconst 0) 1 627 := ⟨zd_c (o := 625) (p := 1) zh_625 (zc_2 (zc_1 (zc_1 (zc_1 (zc_1 (zc_1 (zc_1 (zc_1 (zc_1 zb_625))))))))), rfl⟩
theorem eL_law_627 : dx cL_law 627 (.laload) 1 628 := ⟨zd_c (o := 625) (p := 2) zh_625 (zc_2 (zc_1 (zc_1 (zc_1 (zc_1 (zc_1 (zc_1 (zc_1 zb_625)))))))), rfl⟩
theorem eL_law_628 : dx cL_law 628 (.iload 7) 2 630 := ⟨zd_c (o := 625) (p := 3) zh_625 (zc_2 (zc_1 (zc_1 (zc_1 (zc_1 (zc_1 (zc_1 zb_625))))))), rfl⟩
theorem eL_law_630 : dx cL_law 630 (.i2l) 1 631 := ⟨zd_c (o := 625) (p := 5) zh_625 (zc_2 (zc_1 (zc_1 (zc_1 (zc_1 (zc_1 zb_625)))))), rfl⟩
theorem eL_law_631 : dx cL_law 631 (.lcmp) 1 632 := ⟨zd_c (o := 625) (p := 6) zh_625 (zc_2 (zc_1 (zc_1 (zc_1 (zc_1 zb_625))))), rfl⟩
theorem eL_law_632 : dx cL_law 632 (.ifCond .eq 5) 3 635 := ⟨zd_c (o := 625) (p := 7) zh_625 (zc_2 (zc_1 (zc_1 (zc_1 zb_625)))), rfl⟩
theorem eL_law_635 : dx cL_law 635 (.iconst 0) 1 636 := ⟨zd_c (o := 625) (p := 10) zh_625 (zc_2 (zc_1 (zc_1 zb_625))), rfl⟩
theorem eL_law_636 : dx cL_law 636 (.ireturn) 1 637 := ⟨zd_c (o := 625) (p := 11) zh_625 (zc_2 (zc_1 zb_625)), rfl⟩
theorem eL_law_637 : dx cL_law 637 (.goto 2154) 3 640 := ⟨zd_c (o := 625) (p := 12) zh_625 (zc_2 zb_625), rfl⟩
theorem zb_640 : (zdC zp_625 15 (.aload_n 1) 1 && zdC zp_625 16 (.aload_n 0) 1 && zdC zp_625 17 (.iload 5) 2 && zdC zp_625 19 (.iconst 1) 1 && zdC zp_625 20 (.iadd) 1 && zdC zp_625 21 (.iaload) 1 && zdC zp_625 22 (.aload_n 0) 1 && zdC zp_625 23 (.iload 5) 2 && zdC zp_625 25 (.iconst 2) 1 && zdC zp_625 26 (.iadd) 1) = true := by decide +kernel
theorem eL_law_640 : dx cL_law 640 (.aload_n 1) 1 641 := ⟨zd_c (o := 625) (p := 15) zh_625 (zc_1 (zc_1 (zc_1 (zc_1 (zc_1 (zc_1 (zc_1 (zc_1 (zc_1 zb_640))))))))), rfl⟩
theorem eL_law_641 : dx cL_law 641 (.aload_n 0) 1 642 := ⟨zd_c (o := 625) (p := 16) zh_625 (zc_2 (zc_1 (zc_1 (zc_1 (zc_1 (zc_1 (zc_1 (zc_1 (zc_1 zb_640))))))))), rfl⟩
theorem eL_law_642 : dx cL_law 642 (.iload 5) 2 644 := ⟨zd_c (o := 625) (p := 17) zh_625 (zc_2 (zc_1 (zc_1 (zc_1 (zc_1 (zc_1 (zc_1 (zc_1 zb_640)))))))), rfl⟩
theorem eL_law_644 : dx cL_law 644 (.iconst 1) 1 645 := ⟨zd_c (o := 625) (p := 19) zh_625 (zc_2 (zc_1 (zc_1 (zc_1 (zc_1 (zc_1 (zc_1 zb_640))))))), rfl⟩
theorem eL_law_645 : dx cL_law 645 (.iadd) 1 646 := ⟨zd_c (o := 625) (p := 20) zh_625 (zc_2 (zc_1 (zc_1 (zc_1 (zc_1 (zc_1 zb_640)))))), rfl⟩
theorem eL_law_646 : dx cL_law 646 (.iaload) 1 647 := ⟨zd_c (o := 625) (p := 21) zh_625 (zc_2 (zc_1 (zc_1 (zc_1 (zc_1 zb_640))))), rfl⟩
theorem eL_law_647 : dx cL_law 647 (.aload_n 0) 1 648 := ⟨zd_c (o := 625) (p := 22) zh_625 (zc_2 (zc_1 (zc_1 (zc_1 zb_640)))), rfl⟩
theorem eL_law_648 : dx cL_law 648 (.iload 5) 2 650 := ⟨zd_c (o := 625) (p := 23) zh_625 (zc_2 (zc_1 (zc_1 zb_640))), rfl⟩
theorem eL_law_650 : dx cL_law 650 (.iconst 2) 1 651 := ⟨zd_c (o := 625) (p := 25) zh_625 (zc_2 (zc_1 zb_640)), rfl⟩
theorem eL_law_651 : dx cL_law 651 (.iadd) 1 652 := ⟨zd_c (o := 625) (p := 26) zh_625 (zc_2 zb_640), rfl⟩
theorem zb_652 : (zdC zp_625 27 (.iaload) 1 && zdC zp_625 28 (.ifCond .eq 7) 3 && zdC zp_625 31 (.iconst 1) 1 && zdC zp_625 32 (.goto 4) 3 && zdC zp_625 35 (.iconst 0) 1 && zdC zp_625 36 (.aload_n 0) 1 && zdC zp_625 37 (.iload 5) 2 && zdC zp_625 39 (.iconst 3) 1 && zdC zp_625 40 (.iadd) 1 && zdC zp_625 41 (.iaload) 1) = true := by decide +kernel
theorem eL_law_652 : dx cL_law 652 (.iaload) 1 653 := ⟨zd_c (o := 625) (p := 27) zh_625 (zc_1 (zc_1 (zc_1 (zc_1 (zc_1 (zc_1 (zc_1 (zc_1 (zc_1 zb_652))))))))), rfl⟩
theorem eL_law_653 : dx cL_law 653 (.ifCond .eq 7) 3 656 := ⟨zd_c (o := 625) (p := 28) zh_625 (zc_2 (zc_1 (zc_1 (zc_1 (zc_1 (zc_1 (zc_1 (zc_1 (zc_1 zb_652))))))))), rfl⟩
theorem eL_law_656 : dx cL_law 656 (.iconst 1) 1 657 := ⟨zd_c (o := 625) (p := 31) zh_625 (zc_2 (zc_1 (zc_1 (zc_1 (zc_1 (zc_1 (zc_1 (zc_1 zb_652)))))))), rfl⟩
theorem eL_law_657 : dx cL_law 657 (.goto 4) 3 660 := ⟨zd_c (o := 625) (p := 32) zh_625 (zc_2 (zc_1 (zc_1 (zc_1 (zc_1 (zc_1 (zc_1 zb_652))))))), rfl⟩
theorem eL_law_660 : dx cL_law 660 (.iconst 0) 1 661 := ⟨zd_c (o := 625) (p := 35) zh_625 (zc_2 (zc_1 (zc_1 (zc_1 (zc_1 (zc_1 zb_652)))))), rfl⟩
theorem eL_law_661 : dx cL_law 661 (.aload_n 0) 1 662 := ⟨zd_c (o := 625) (p := 36) zh_625 (zc_2 (zc_1 (zc_1 (zc_1 (zc_1 zb_652))))), rfl⟩
theorem eL_law_662 : dx cL_law 662 (.iload 5) 2 664 := ⟨zd_c (o := 625) (p := 37) zh_625 (zc_2 (zc_1 (zc_1 (zc_1 zb_652)))), rfl⟩
theorem eL_law_664 : dx cL_law 664 (.iconst 3) 1 665 := ⟨zd_c (o := 625) (p := 39) zh_625 (zc_2 (zc_1 (zc_1 zb_652))), rfl⟩
theorem eL_law_665 : dx cL_law 665 (.iadd) 1 666 := ⟨zd_c (o := 625) (p := 40) zh_625 (zc_2 (zc_1 zb_652)), rfl⟩
theorem eL_law_666 : dx cL_law 666 (.iaload) 1 667 := ⟨zd_c (o := 625) (p := 41) zh_625 (zc_2 zb_652), rfl⟩
theorem zb_667 : (zdC zp_625 42 (.aload_n 3) 1 && zdC zp_625 43 (.invokestatic 179) 3 && zdC zp_625 46 (.istore 6) 2 && zdC zp_625 48 (.aload_n 2) 1 && zdC zp_625 49 (.aload_n 0) 1 && zdC zp_625 50 (.iload 5) 2 && zdC zp_625 52 (.iconst 1) 1 && zdC zp_625 53 (.iadd) 1 && zdC zp_625 54 (.iaload) 1 && zdC zp_625 55 (.aload_n 0) 1) = true := by decide +kernel
theorem eL_law_667 : dx cL_law 667 (.aload_n 3) 1 668 := ⟨zd_c (o := 625) (p := 42) zh_625 (zc_1 (zc_1 (zc_1 (zc_1 (zc_1 (zc_1 (zc_1 (zc_1 (zc_1 zb_667))))))))), rfl⟩
theorem eL_law_668 : dx cL_law 668 (.invokestatic 179) 3 671 := ⟨zd_c (o := 625) (p := 43) zh_625 (zc_2 (zc_1 (zc_1 (zc_1 (zc_1 (zc_1 (zc_1 (zc_1 (zc_1 zb_667))))))))), rfl⟩
theorem eL_law_671 : dx cL_law 671 (.istore 6) 2 673 := ⟨zd_c (o := 625) (p := 46) zh_625 (zc_2 (zc_1 (zc_1 (zc_1 (zc_1 (zc_1 (zc_1 (zc_1 zb_667)))))))), rfl⟩
theorem eL_law_673 : dx cL_law 673 (.aload_n 2) 1 674 := ⟨zd_c (o := 625) (p := 48) zh_625 (zc_2 (zc_1 (zc_1 (zc_1 (zc_1 (zc_1 (zc_1 zb_667))))))), rfl⟩
theorem eL_law_674 : dx cL_law 674 (.aload_n 0) 1 675 := ⟨zd_c (o := 625) (p := 49) zh_625 (zc_2 (zc_1 (zc_1 (zc_1 (zc_1 (zc_1 zb_667)))))), rfl⟩
theorem eL_law_675 : dx cL_law 675 (.iload 5) 2 677 := ⟨zd_c (o := 625) (p := 50) zh_625 (zc_2 (zc_1 (zc_1 (zc_1 (zc_1 zb_667))))), rfl⟩
theorem eL_law_677 : dx cL_law 677 (.iconst 1) 1 678 := ⟨zd_c (o := 625) (p := 52) zh_625 (zc_2 (zc_1 (zc_1 (zc_1 zb_667)))), rfl⟩
theorem eL_law_678 : dx cL_law 678 (.iadd) 1 679 := ⟨zd_c (o := 625) (p := 53) zh_625 (zc_2 (zc_1 (zc_1 zb_667))), rfl⟩
theorem eL_law_679 : dx cL_law 679 (.iaload) 1 680 := ⟨zd_c (o := 625) (p := 54) zh_625 (zc_2 (zc_1 zb_667)), rfl⟩
theorem eL_law_680 : dx cL_law 680 (.aload_n 0) 1 681 := ⟨zd_c (o := 625) (p := 55) zh_625 (zc_2 zb_667), rfl⟩
def zp_681 : ByteArray := ⟨#[0x15, 0x05, 0x05, 0x60, 0x2e, 0x99, 0x00, 0x07, 0x04, 0xa7, 0x00, 0x04, 0x03, 0x2a, 0x15, 0x05, 0x06, 0x60, 0x2e, 0xb6, 0x00, 0xb6, 0x36, 0x07, 0x2c, 0xb6, 0x00, 0x91, 0x15, 0x06, 0x9f, 0x00, 0x05, 0x03, 0xac, 0x15, 0x06, 0x9a, 0x00, 0x0f, 0x2d, 0x03, 0x2f, 0x15, 0x07, 0x85, 0x94, 0x99, 0x00, 0x05, 0x03, 0xac, 0xa7, 0x08, 0x0a, 0x2b, 0x2a, 0x15, 0x05, 0x04, 0x60, 0x2e, 0x2d]⟩
theorem zh_681 : SubC cL_law zp_681 681 := sub_of (n := 63) (by decide +kernel)
theorem zb_681 : (zdC zp_681 0 (.iload 5) 2 && zdC zp_681 2 (.iconst 2) 1 && zdC zp_681 3 (.iadd) 1 && zdC zp_681 4 (.iaload) 1 && zdC zp_681 5 (.ifCond .eq 7) 3 && zdC zp_681 8 (.iconst 1) 1 && zdC zp_681 9 (.goto 4) 3 && zdC zp_681 12 (.iconst 0) 1 && zdC zp_681 13 (.aload_n 0) 1 && zdC zp_681 14 (.iload 5) 2) = true := by decide +kernel
theorem eL_law_681 : dx cL_law 681 (.iload 5) 2 683 := ⟨zd_c (o := 681) (p := 0) zh_681 (zc_1 (zc_1 (zc_1 (zc_1 (zc_1 (zc_1 (zc_1 (zc_1 (zc_1 zb_681))))))))), rfl⟩
theorem eL_law_683 : dx cL_law 683 (.iconst 2) 1 684 := ⟨zd_c (o := 681) (p := 2) zh_681 (zc_2 (zc_1 (zc_1 (zc_1 (zc_1 (zc_1 (zc_1 (zc_1 (zc_1 zb_681))))))))), rfl⟩
theorem eL_law_684 : dx cL_law 684 (.iadd) 1 685 := ⟨zd_c (o := 681) (p := 3) zh_681 (zc_2 (zc_1 (zc_1 (zc_1 (zc_1 (zc_1 (zc_1 (zc_1 zb_681)))))))), rfl⟩
theorem eL_law_685 : dx cL_law 685 (.iaload) 1 686 := ⟨zd_c (o := 681) (p := 4) zh_681 (zc_2 (zc_1 (zc_1 (zc_1 (zc_1 (zc_1 (zc_1 zb_681))))))), rfl⟩
theorem eL_law_686 : dx cL_law 686 (.ifCond .eq 7) 3 689 := ⟨zd_c (o := 681) (p := 5) zh_681 (zc_2 (zc_1 (zc_1 (zc_1 (zc_1 (zc_1 zb_681)))))), rfl⟩
theorem eL_law_689 : dx cL_law 689 (.iconst 1) 1 690 := ⟨zd_c (o := 681) (p := 8) zh_681 (zc_2 (zc_1 (zc_1 (zc_1 (zc_1 zb_681))))), rfl⟩
theorem eL_law_690 : dx cL_law 690 (.goto 4) 3 693 := ⟨zd_c (o := 681) (p := 9) zh_681 (zc_2 (zc_1 (zc_1 (zc_1 zb_681)))), rfl⟩
theorem eL_law_693 : dx cL_law 693 (.iconst 0) 1 694 := ⟨zd_c (o := 681) (p := 12) zh_681 (zc_2 (zc_1 (zc_1 zb_681))), rfl⟩
theorem eL_law_694 : dx cL_law 694 (.aload_n 0) 1 695 := ⟨zd_c (o := 681) (p := 13) zh_681 (zc_2 (zc_1 zb_681)), rfl⟩
theorem eL_law_695 : dx cL_law 695 (.iload 5) 2 697 := ⟨zd_c (o := 681) (p := 14) zh_681 (zc_2 zb_681), rfl⟩
theorem zb_697 : (zdC zp_681 16 (.iconst 3) 1 && zdC zp_681 17 (.iadd) 1 && zdC zp_681 18 (.iaload) 1 && zdC zp_681 19 (.invokevirtual 182) 3 && zdC zp_681 22 (.istore 7) 2 && zdC zp_681 24 (.aload_n 2) 1 && zdC zp_681 25 (.invokevirtual 145) 3 && zdC zp_681 28 (.iload 6) 2 && zdC zp_681 30 (.if_icmp .eq 5) 3 && zdC zp_681 33 (.iconst 0) 1) = true := by decide +kernel
theorem eL_law_697 : dx cL_law 697 (.iconst 3) 1 698 := ⟨zd_c (o := 681) (p := 16) zh_681 (zc_1 (zc_1 (zc_1 (zc_1 (zc_1 (zc_1 (zc_1 (zc_1 (zc_1 zb_697))))))))), rfl⟩
theorem eL_law_698 : dx cL_law 698 (.iadd) 1 699 := ⟨zd_c (o := 681) (p := 17) zh_681 (zc_2 (zc_1 (zc_1 (zc_1 (zc_1 (zc_1 (zc_1 (zc_1 (zc_1 zb_697))))))))), rfl⟩
theorem eL_law_699 : dx cL_law 699 (.iaload) 1 700 := ⟨zd_c (o := 681) (p := 18) zh_681 (zc_2 (zc_1 (zc_1 (zc_1 (zc_1 (zc_1 (zc_1 (zc_1 zb_697)))))))), rfl⟩
theorem eL_law_700 : dx cL_law 700 (.invokevirtual 182) 3 703 := ⟨zd_c (o := 681) (p := 19) zh_681 (zc_2 (zc_1 (zc_1 (zc_1 (zc_1 (zc_1 (zc_1 zb_697))))))), rfl⟩
theorem eL_law_703 : dx cL_law 703 (.istore 7) 2 705 := ⟨zd_c (o := 681) (p := 22) zh_681 (zc_2 (zc_1 (zc_1 (zc_1 (zc_1 (zc_1 zb_697)))))), rfl⟩
theorem eL_law_705 : dx cL_law 705 (.aload_n 2) 1 706 := ⟨zd_c (o := 681) (p := 24) zh_681 (zc_2 (zc_1 (zc_1 (zc_1 (zc_1 zb_697))))), rfl⟩
theorem eL_law_706 : dx cL_law 706 (.invokevirtual 145) 3 709 := ⟨zd_c (o := 681) (p := 25) zh_681 (zc_2 (zc_1 (zc_1 (zc_1 zb_697)))), rfl⟩
theorem eL_law_709 : dx cL_law 709 (.iload 6) 2 711 := ⟨zd_c (o := 681) (p := 28) zh_681 (zc_2 (zc_1 (zc_1 zb_697))), rfl⟩
theorem eL_law_711 : dx cL_law 711 (.if_icmp .eq 5) 3 714 := ⟨zd_c (o := 681) (p := 30) zh_681 (zc_2 (zc_1 zb_697)), rfl⟩
theorem eL_law_714 : dx cL_law 714 (.iconst 0) 1 715 := ⟨zd_c (o := 681) (p := 33) zh_681 (zc_2 zb_697), rfl⟩
theorem zb_715 : (zdC zp_681 34 (.ireturn) 1 && zdC zp_681 35 (.iload 6) 2 && zdC zp_681 37 (.ifCond .ne 15) 3 && zdC zp_681 40 (.aload_n 3) 1 && zdC zp_681 41 (.iconst 0) 1 && zdC zp_681 42 (.laload) 1 && zdC zp_681 43 (.iload 7) 2 && zdC zp_681 45 (.i2l) 1 && zdC zp_681 46 (.lcmp) 1 && zdC zp_681 47 (.ifCond .eq 5) 3) = true := by decide +kernel
theorem eL_law_715 : dx cL_law 715 (.ireturn) 1 716 := ⟨zd_c (o := 681) (p := 34) zh_681 (zc_1 (zc_1 (zc_1 (zc_1 (zc_1 (zc_1 (zc_1 (zc_1 (zc_1 zb_715))))))))), rfl⟩
theorem eL_law_716 : dx cL_law 716 (.iload 6) 2 718 := ⟨zd_c (o := 681) (p := 35) zh_681 (zc_2 (zc_1 (zc_1 (zc_1 (zc_1 (zc_1 (zc_1 (zc_1 (zc_1 zb_715))))))))), rfl⟩
theorem eL_law_718 : dx cL_law 718 (.ifCond .ne 15) 3 721 := ⟨zd_c (o := 681) (p := 37) zh_681 (zc_2 (zc_1 (zc_1 (zc_1 (zc_1 (zc_1 (zc_1 (zc_1 zb_715)))))))), rfl⟩
theorem eL_law_721 : dx cL_law 721 (.aload_n 3) 1 722 := ⟨zd_c (o := 681) (p := 40) zh_681 (zc_2 (zc_1 (zc_1 (zc_1 (zc_1 (zc_1 (zc_1 zb_715))))))), rfl⟩
theorem eL_law_722 : dx cL_law 722 (.iconst 0) 1 723 := ⟨zd_c (o := 681) (p := 41) zh_681 (zc_2 (zc_1 (zc_1 (zc_1 (zc_1 (zc_1 zb_715)))))), rfl⟩
theorem eL_law_723 : dx cL_law 723 (.laload) 1 724 := ⟨zd_c (o := 681) (p := 42) zh_681 (zc_2 (zc_1 (zc_1 (zc_1 (zc_1 zb_715))))), rfl⟩
theorem eL_law_724 : dx cL_law 724 (.iload 7) 2 726 := ⟨zd_c (o := 681) (p := 43) zh_681 (zc_2 (zc_1 (zc_1 (zc_1 zb_715)))), rfl⟩
theorem eL_law_726 : dx cL_law 726 (.i2l) 1 727 := ⟨zd_c (o := 681) (p := 45) zh_681 (zc_2 (zc_1 (zc_1 zb_715))), rfl⟩
theorem eL_law_727 : dx cL_law 727 (.lcmp) 1 728 := ⟨zd_c (o := 681) (p := 46) zh_681 (zc_2 (zc_1 zb_715)), rfl⟩
theorem eL_law_728 : dx cL_law 728 (.ifCond .eq 5) 3 731 := ⟨zd_c (o := 681) (p := 47) zh_681 (zc_2 zb_715), rfl⟩
theorem zb_731 : (zdC zp_681 50 (.iconst 0) 1 && zdC zp_681 51 (.ireturn) 1 && zdC zp_681 52 (.goto 2058) 3 && zdC zp_681 55 (.aload_n 1) 1 && zdC zp_681 56 (.aload_n 0) 1 && zdC zp_681 57 (.iload 5) 2 && zdC zp_681 59 (.iconst 1) 1 && zdC zp_681 60 (.iadd) 1 && zdC zp_681 61 (.iaload) 1 && zdC zp_681 62 (.aload_n 3) 1) = true := by decide +kernel
theorem eL_law_731 : dx cL_law 731 (.iconst 0) 1 732 := ⟨zd_c (o := 681) (p := 50) zh_681 (zc_1 (zc_1 (zc_1 (zc_1 (zc_1 (zc_1 (zc_1 (zc_1 (zc_1 zb_731))))))))), rfl⟩
theorem eL_law_732 : dx cL_law 732 (.ireturn) 1 733 := ⟨zd_c (o := 681) (p := 51) zh_681 (zc_2 (zc_1 (zc_1 (zc_1 (zc_1 (zc_1 (zc_1 (zc_1 (zc_1 zb_731))))))))), rfl⟩
theorem eL_law_733 : dx cL_law 733 (.goto 2058) 3 736 := ⟨zd_c (o := 681) (p := 52) zh_681 (zc_2 (zc_1 (zc_1 (zc_1 (zc_1 (zc_1 (zc_1 (zc_1 zb_731)))))))), rfl⟩
theorem eL_law_736 : dx cL_law 736 (.aload_n 1) 1 737 := ⟨zd_c (o := 681) (p := 55) zh_681 (zc_2 (zc_1 (zc_1 (zc_1 (zc_1 (zc_1 (zc_1 zb_731))))))), rfl⟩
theorem eL_law_737 : dx cL_law 737 (.aload_n 0) 1 738 := ⟨zd_c (o := 681) (p := 56) zh_681 (zc_2 (zc_1 (zc_1 (zc_1 (zc_1 (zc_1 zb_731)))))), rfl⟩
theorem eL_law_738 : dx cL_law 738 (.iload 5) 2 740 := ⟨zd_c (o := 681) (p := 57) zh_681 (zc_2 (zc_1 (zc_1 (zc_1 (zc_1 zb_731))))), rfl⟩
theorem eL_law_740 : dx cL_law 740 (.iconst 1) 1 741 := ⟨zd_c (o := 681) (p := 59) zh_681 (zc_2 (zc_1 (zc_1 (zc_1 zb_731)))), rfl⟩
theorem eL_law_741 : dx cL_law 741 (.iadd) 1 742 := ⟨zd_c (o := 681) (p := 60) zh_681 (zc_2 (zc_1 (zc_1 zb_731))), rfl⟩
theorem eL_law_742 : dx cL_law 742 (.iaload) 1 743 := ⟨zd_c (o := 681) (p := 61) zh_681 (zc_2 (zc_1 zb_731)), rfl⟩
theorem eL_law_743 : dx cL_law 743 (.aload_n 3) 1 744 := ⟨zd_c (o := 681) (p := 62) zh_681 (zc_2 zb_731), rfl⟩
def zp_744 : ByteArray := ⟨#[0xb8, 0x00, 0xb7, 0x36, 0x06, 0x2c, 0x2a, 0x15, 0x05, 0x04, 0x60, 0x2e, 0xb6, 0x00, 0xb9, 0x36, 0x07, 0x2c, 0xb6, 0x00, 0x91, 0x15, 0x06, 0x9f, 0x00, 0x05, 0x03, 0xac, 0x15, 0x06, 0x9a, 0x00, 0x0f, 0x2d, 0x03, 0x2f, 0x15, 0x07, 0x85, 0x94, 0x99, 0x00, 0x05, 0x03, 0xac, 0xa7, 0x07, 0xd2, 0x2b, 0x2a, 0x15, 0x05, 0x04, 0x60, 0x2e, 0x2a, 0x15, 0x05, 0x05, 0x60, 0x2e, 0x2d]⟩
theorem zh_744 : SubC cL_law zp_744 744 := sub_of (n := 62) (by decide +kernel)
theorem zb_744 : (zdC zp_744 0 (.invokestatic 183) 3 && zdC zp_744 3 (.istore 6) 2 && zdC zp_744 5 (.aload_n 2) 1 && zdC zp_744 6 (.aload_n 0) 1 && zdC zp_744 7 (.iload 5) 2 && zdC zp_744 9 (.iconst 1) 1 && zdC zp_744 10 (.iadd) 1 && zdC zp_744 11 (.iaload) 1 && zdC zp_744 12 (.invokevirtual 185) 3 && zdC zp_744 15 (.istore 7) 2) = true := by decide +kernel
theorem eL_law_744 : dx cL_law 744 (.invokestatic 183) 3 747 := ⟨zd_c (o := 744) (p := 0) zh_744 (zc_1 (zc_1 (zc_1 (zc_1 (zc_1 (zc_1 (zc_1 (zc_1 (zc_1 zb_744))))))))), rfl⟩
theorem eL_law_747 : dx cL_law 747 (.istore 6) 2 749 := ⟨zd_c (o := 744) (p := 3) zh_744 (zc_2 (zc_1 (zc_1 (zc_1 (zc_1 (zc_1 (zc_1 (zc_1 (zc_1 zb_744))))))))), rfl⟩
theorem eL_law_749 : dx cL_law 749 (.aload_n 2) 1 750 := ⟨zd_c (o := 744) (p := 5) zh_744 (zc_2 (zc_1 (zc_1 (zc_1 (zc_1 (zc_1 (zc_1 (zc_1 zb_744)))))))), rfl⟩
theorem eL_law_750 : dx cL_law 750 (.aload_n 0) 1 751 := ⟨zd_c (o := 744) (p := 6) zh_744 (zc_2 (zc_1 (zc_1 (zc_1 (zc_1 (zc_1 (zc_1 zb_744))))))), rfl⟩
theorem eL_law_751 : dx cL_law 751 (.iload 5) 2 753 := ⟨zd_c (o := 744) (p := 7) zh_744 (zc_2 (zc_1 (zc_1 (zc_1 (zc_1 (zc_1 zb_744)))))), rfl⟩
theorem eL_law_753 : dx cL_law 753 (.iconst 1) 1 754 := ⟨zd_c (o := 744) (p := 9) zh_744 (zc_2 (zc_1 (zc_1 (zc_1 (zc_1 zb_744))))), rfl⟩
theorem eL_law_754 : dx cL_law 754 (.iadd) 1 755 := ⟨zd_c (o := 744) (p := 10) zh_744 (zc_2 (zc_1 (zc_1 (zc_1 zb_744)))), rfl⟩
theorem eL_law_755 : dx cL_law 755 (.iaload) 1 756 := ⟨zd_c (o := 744) (p := 11) zh_744 (zc_2 (zc_1 (zc_1 zb_744))), rfl⟩
theorem eL_law_756 : dx cL_law 756 (.invokevirtual 185) 3 759 := ⟨zd_c (o := 744) (p := 12) zh_744 (zc_2 (zc_1 zb_744)), rfl⟩
theorem eL_law_759 : dx cL_law 759 (.istore 7) 2 761 := ⟨zd_c (o := 744) (p := 15) zh_744 (zc_2 zb_744), rfl⟩
theorem zb_761 : (zdC zp_744 17 (.aload_n 2) 1 && zdC zp_744 18 (.invokevirtual 145) 3 && zdC zp_744 21 (.iload 6) 2 && zdC zp_744 23 (.if_icmp .eq 5) 3 && zdC zp_744 26 (.iconst 0) 1 && zdC zp_744 27 (.ireturn) 1 && zdC zp_744 28 (.iload 6) 2 && zdC zp_744 30 (.ifCond .ne 15) 3 && zdC zp_744 33 (.aload_n 3) 1 && zdC zp_744 34 (.iconst 0) 1) = true := by decide +kernel
theorem eL_law_761 : dx cL_law 761 (.aload_n 2) 1 762 := ⟨zd_c (o := 744) (p := 17) zh_744 (zc_1 (zc_1 (zc_1 (zc_1 (zc_1 (zc_1 (zc_1 (zc_1 (zc_1 zb_761))))))))), rfl⟩
theorem eL_law_762 : dx cL_law 762 (.invokevirtual 145) 3 765 := ⟨zd_c (o := 744) (p := 18) zh_744 (zc_2 (zc_1 (zc_1 (zc_1 (zc_1 (zc_1 (zc_1 (zc_1 (zc_1 zb_761))))))))), rfl⟩
theorem eL_law_765 : dx cL_law 765 (.iload 6) 2 767 := ⟨zd_c (o := 744) (p := 21) zh_744 (zc_2 (zc_1 (zc_1 (zc_1 (zc_1 (zc_1 (zc_1 (zc_1 zb_761)))))))), rfl⟩
theorem eL_law_767 : dx cL_law 767 (.if_icmp .eq 5) 3 770 := ⟨zd_c (o := 744) (p := 23) zh_744 (zc_2 (zc_1 (zc_1 (zc_1 (zc_1 (zc_1 (zc_1 zb_761))))))), rfl⟩
theorem eL_law_770 : dx cL_law 770 (.iconst 0) 1 771 := ⟨zd_c (o := 744) (p := 26) zh_744 (zc_2 (zc_1 (zc_1 (zc_1 (zc_1 (zc_1 zb_761)))))), rfl⟩
theorem eL_law_771 : dx cL_law 771 (.ireturn) 1 772 := ⟨zd_c (o := 744) (p := 27) zh_744 (zc_2 (zc_1 (zc_1 (zc_1 (zc_1 zb_761))))), rfl⟩
theorem eL_law_772 : dx cL_law 772 (.iload 6) 2 774 := ⟨zd_c (o := 744) (p := 28) zh_744 (zc_2 (zc_1 (zc_1 (zc_1 zb_761)))), rfl⟩
theorem eL_law_774 : dx cL_law 774 (.ifCond .ne 15) 3 777 := ⟨zd_c (o := 744) (p := 30) zh_744 (zc_2 (zc_1 (zc_1 zb_761))), rfl⟩
theorem eL_law_777 : dx cL_law 777 (.aload_n 3) 1 778 := ⟨zd_c (o := 744) (p := 33) zh_744 (zc_2 (zc_1 zb_761)), rfl⟩
theorem eL_law_778 : dx cL_law 778 (.iconst 0) 1 779 := ⟨zd_c (o := 744) (p := 34) zh_744 (zc_2 zb_761), rfl⟩
theorem zb_779 : (zdC zp_744 35 (.laload) 1 && zdC zp_744 36 (.iload 7) 2 && zdC zp_744 38 (.i2l) 1 && zdC zp_744 39 (.lcmp) 1 && zdC zp_744 40 (.ifCond .eq 5) 3 && zdC zp_744 43 (.iconst 0) 1 && zdC zp_744 44 (.ireturn) 1 && zdC zp_744 45 (.goto 2002) 3 && zdC zp_744 48 (.aload_n 1) 1 && zdC zp_744 49 (.aload_n 0) 1) = true := by decide +kernel
theorem eL_law_779 : dx cL_law 779 (.laload) 1 780 := ⟨zd_c (o := 744) (p := 35) zh_744 (zc_1 (zc_1 (zc_1 (zc_1 (zc_1 (zc_1 (zc_1 (zc_1 (zc_1 zb_779))))))))), rfl⟩
theorem eL_law_780 : dx cL_law 780 (.iload 7) 2 782 := ⟨zd_c (o := 744) (p := 36) zh_744 (zc_2 (zc_1 (zc_1 (zc_1 (zc_1 (zc_1 (zc_1 (zc_1 (zc_1 zb_779))))))))), rfl⟩
theorem eL_law_782 : dx cL_law 782 (.i2l) 1 783 := ⟨zd_c (o := 744) (p := 38) zh_744 (zc_2 (zc_1 (zc_1 (zc_1 (zc_1 (zc_1 (zc_1 (zc_1 zb_779)))))))), rfl⟩
theorem eL_law_783 : dx cL_law 783 (.lcmp) 1 784 := ⟨zd_c (o := 744) (p := 39) zh_744 (zc_2 (zc_1 (zc_1 (zc_1 (zc_1 (zc_1 (zc_1 zb_779))))))), rfl⟩
theorem eL_law_784 : dx cL_law 784 (.ifCond .eq 5) 3 787 := ⟨zd_c (o := 744) (p := 40) zh_744 (zc_2 (zc_1 (zc_1 (zc_1 (zc_1 (zc_1 zb_779)))))), rfl⟩
theorem eL_law_787 : dx cL_law 787 (.iconst 0) 1 788 := ⟨zd_c (o := 744) (p := 43) zh_744 (zc_2 (zc_1 (zc_1 (zc_1 (zc_1 zb_779))))), rfl⟩
theorem eL_law_788 : dx cL_law 788 (.ireturn) 1 789 := ⟨zd_c (o := 744) (p := 44) zh_744 (zc_2 (zc_1 (zc_1 (zc_1 zb_779)))), rfl⟩
theorem eL_law_789 : dx cL_law 789 (.goto 2002) 3 792 := ⟨zd_c (o := 744) (p := 45) zh_744 (zc_2 (zc_1 (zc_1 zb_779))), rfl⟩
theorem eL_law_792 : dx cL_law 792 (.aload_n 1) 1 793 := ⟨zd_c (o := 744) (p := 48) zh_744 (zc_2 (zc_1 zb_779)), rfl⟩
theorem eL_law_793 : dx cL_law 793 (.aload_n 0) 1 794 := ⟨zd_c (o := 744) (p := 49) zh_744 (zc_2 zb_779), rfl⟩
theorem zb_794 : (zdC zp_744 50 (.iload 5) 2 && zdC zp_744 52 (.iconst 1) 1 && zdC zp_744 53 (.iadd) 1 && zdC zp_744 54 (.iaload) 1 && zdC zp_744 55 (.aload_n 0) 1 && zdC zp_744 56 (.iload 5) 2 && zdC zp_744 58 (.iconst 2) 1 && zdC zp_744 59 (.iadd) 1 && zdC zp_744 60 (.iaload) 1 && zdC zp_744 61 (.aload_n 3) 1) = true := by decide +kernel
theorem eL_law_794 : dx cL_law 794 (.iload 5) 2 796 := ⟨zd_c (o := 744) (p := 50) zh_744 (zc_1 (zc_1 (zc_1 (zc_1 (zc_1 (zc_1 (zc_1 (zc_1 (zc_1 zb_794))))))))), rfl⟩
theorem eL_law_796 : dx cL_law 796 (.iconst 1) 1 797 := ⟨zd_c (o := 744) (p := 52) zh_744 (zc_2 (zc_1 (zc_1 (zc_1 (zc_1 (zc_1 (zc_1 (zc_1 (zc_1 zb_794))))))))), rfl⟩
theorem eL_law_797 : dx cL_law 797 (.iadd) 1 798 := ⟨zd_c (o := 744) (p := 53) zh_744 (zc_2 (zc_1 (zc_1 (zc_1 (zc_1 (zc_1 (zc_1 (zc_1 zb_794)))))))), rfl⟩
theorem eL_law_798 : dx cL_law 798 (.iaload) 1 799 := ⟨zd_c (o := 744) (p := 54) zh_744 (zc_2 (zc_1 (zc_1 (zc_1 (zc_1 (zc_1 (zc_1 zb_794))))))), rfl⟩
theorem eL_law_799 : dx cL_law 799 (.aload_n 0) 1 800 := ⟨zd_c (o := 744) (p := 55) zh_744 (zc_2 (zc_1 (zc_1 (zc_1 (zc_1 (zc_1 zb_794)))))), rfl⟩
theorem eL_law_800 : dx cL_law 800 (.iload 5) 2 802 := ⟨zd_c (o := 744) (p := 56) zh_744 (zc_2 (zc_1 (zc_1 (zc_1 (zc_1 zb_794))))), rfl⟩
theorem eL_law_802 : dx cL_law 802 (.iconst 2) 1 803 := ⟨zd_c (o := 744) (p := 58) zh_744 (zc_2 (zc_1 (zc_1 (zc_1 zb_794)))), rfl⟩
theorem eL_law_803 : dx cL_law 803 (.iadd) 1 804 := ⟨zd_c (o := 744) (p := 59) zh_744 (zc_2 (zc_1 (zc_1 zb_794))), rfl⟩
theorem eL_law_804 : dx cL_law 804 (.iaload) 1 805 := ⟨zd_c (o := 744) (p := 60) zh_744 (zc_2 (zc_1 zb_794)), rfl⟩
theorem eL_law_805 : dx cL_law 805 (.aload_n 3) 1 806 := ⟨zd_c (o := 744) (p := 61) zh_744 (zc_2 zb_794), rfl⟩
def zp_806 : ByteArray := ⟨#[0xb8, 0x00, 0xba, 0x36, 0x06, 0x2c, 0x2a, 0x15, 0x05, 0x04, 0x60, 0x2e, 0x2a, 0x15, 0x05, 0x05, 0x60, 0x2e, 0xb6, 0x00, 0xbc, 0x36, 0x07, 0x2c, 0xb6, 0x00, 0x91, 0x15, 0x06, 0x9f, 0x00, 0x05, 0x03, 0xac, 0x15, 0x06, 0x9a, 0x00, 0x0f, 0x2d, 0x03, 0x2f, 0x15, 0x07, 0x85, 0x94, 0x99, 0x00, 0x05, 0x03, 0xac, 0xa7, 0x07, 0x8e, 0x2b, 0xb6, 0x00, 0xbd, 0x2c, 0xb6, 0x00, 0xc0, 0x9f, 0x07, 0x83, 0x03, 0xac]⟩
theorem zh_806 : SubC cL_law zp_806 806 := sub_of (n := 67) (by decide +kernel)
theorem zb_806 : (zdC zp_806 0 (.invokestatic 186) 3 && zdC zp_806 3 (.istore 6) 2 && zdC zp_806 5 (.aload_n 2) 1 && zdC zp_806 6 (.aload_n 0) 1 && zdC zp_806 7 (.iload 5) 2 && zdC zp_806 9 (.iconst 1) 1 && zdC zp_806 10 (.iadd) 1 && zdC zp_806 11 (.iaload) 1 && zdC zp_806 12 (.aload_n 0) 1 && zdC zp_806 13 (.iload 5) 2) = true := by decide +kernel
theorem eL_law_806 : dx cL_law 806 (.invokestatic 186) 3 809 := ⟨zd_c (o := 806) (p := 0) zh_806 (zc_1 (zc_1 (zc_1 (zc_1 (zc_1 (zc_1 (zc_1 (zc_1 (zc_1 zb_806))))))))), rfl⟩
theorem eL_law_809 : dx cL_law 809 (.istore 6) 2 811 := ⟨zd_c (o := 806) (p := 3) zh_806 (zc_2 (zc_1 (zc_1 (zc_1 (zc_1 (zc_1 (zc_1 (zc_1 (zc_1 zb_806))))))))), rfl⟩
theorem eL_law_811 : dx cL_law 811 (.aload_n 2) 1 812 := ⟨zd_c (o := 806) (p := 5) zh_806 (zc_2 (zc_1 (zc_1 (zc_1 (zc_1 (zc_1 (zc_1 (zc_1 zb_806)))))))), rfl⟩
theorem eL_law_812 : dx cL_law 812 (.aload_n 0) 1 813 := ⟨zd_c (o := 806) (p := 6) zh_806 (zc_2 (zc_1 (zc_1 (zc_1 (zc_1 (zc_1 (zc_1 zb_806))))))), rfl⟩
theorem eL_law_813 : dx cL_law 813 (.iload 5) 2 815 := ⟨zd_c (o := 806) (p := 7) zh_806 (zc_2 (zc_1 (zc_1 (zc_1 (zc_1 (zc_1 zb_806)))))), rfl⟩
theorem eL_law_815 : dx cL_law 815 (.iconst 1) 1 816 := ⟨zd_c (o := 806) (p := 9) zh_806 (zc_2 (zc_1 (zc_1 (zc_1 (zc_1 zb_806))))), rfl⟩
theorem eL_law_816 : dx cL_law 816 (.iadd) 1 817 := ⟨zd_c (o := 806) (p := 10) zh_806 (zc_2 (zc_1 (zc_1 (zc_1 zb_806)))), rfl⟩
theorem eL_law_817 : dx cL_law 817 (.iaload) 1 818 := ⟨zd_c (o := 806) (p := 11) zh_806 (zc_2 (zc_1 (zc_1 zb_806))), rfl⟩
theorem eL_law_818 : dx cL_law 818 (.aload_n 0) 1 819 := ⟨zd_c (o := 806) (p := 12) zh_806 (zc_2 (zc_1 zb_806)), rfl⟩
theorem eL_law_819 : dx cL_law 819 (.iload 5) 2 821 := ⟨zd_c (o := 806) (p := 13) zh_806 (zc_2 zb_806), rfl⟩
theorem zb_821 : (zdC zp_806 15 (.iconst 2) 1 && zdC zp_806 16 (.iadd) 1 && zdC zp_806 17 (.iaload) 1 && zdC zp_806 18 (.invokevirtual 188) 3 && zdC zp_806 21 (.istore 7) 2 && zdC zp_806 23 (.aload_n 2) 1 && zdC zp_806 24 (.invokevirtual 145) 3 && zdC zp_806 27 (.iload 6) 2 && zdC zp_806 29 (.if_icmp .eq 5) 3 && zdC zp_806 32 (.iconst 0) 1) = true := by decide +kernel
theorem eL_law_821 : dx cL_law 821 (.iconst 2) 1 822 := ⟨zd_c (o := 806) (p := 15) zh_806 (zc_1 (zc_1 (zc_1 (zc_1 (zc_1 (zc_1 (zc_1 (zc_1 (zc_1 zb_821))))))))), rfl⟩
theorem eL_law_822 : dx cL_law 822 (.iadd) 1 823 := ⟨zd_c (o := 806) (p := 16) zh_806 (zc_2 (zc_1 (zc_1 (zc_1 (zc_1 (zc_1 (zc_1 (zc_1 (zc_1 zb_821))))))))), rfl⟩
theorem eL_law_823 : dx cL_law 823 (.iaload) 1 824 := ⟨zd_c (o := 806) (p := 17) zh_806 (zc_2 (zc_1 (zc_1 (zc_1 (zc_1 (zc_1 (zc_1 (zc_1 zb_821)))))))), rfl⟩
theorem eL_law_824 : dx cL_law 824 (.invokevirtual 188) 3 827 := ⟨zd_c (o := 806) (p := 18) zh_806 (zc_2 (zc_1 (zc_1 (zc_1 (zc_1 (zc_1 (zc_1 zb_821))))))), rfl⟩
theorem eL_law_827 : dx cL_law 827 (.istore 7) 2 829 := ⟨zd_c (o := 806) (p := 21) zh_806 (zc_2 (zc_1 (zc_1 (zc_1 (zc_1 (zc_1 zb_821)))))), rfl⟩
theorem eL_law_829 : dx cL_law 829 (.aload_n 2) 1 830 := ⟨zd_c (o := 806) (p := 23) zh_806 (zc_2 (zc_1 (zc_1 (zc_1 (zc_1 zb_821))))), rfl⟩
theorem eL_law_830 : dx cL_law 830 (.invokevirtual 145) 3 833 := ⟨zd_c (o := 806) (p := 24) zh_806 (zc_2 (zc_1 (zc_1 (zc_1 zb_821)))), rfl⟩
theorem eL_law_833 : dx cL_law 833 (.iload 6) 2 835 := ⟨zd_c (o := 806) (p := 27) zh_806 (zc_2 (zc_1 (zc_1 zb_821))), rfl⟩
theorem eL_law_835 : dx cL_law 835 (.if_icmp .eq 5) 3 838 := ⟨zd_c (o := 806) (p := 29) zh_806 (zc_2 (zc_1 zb_821)), rfl⟩
theorem eL_law_838 : dx cL_law 838 (.iconst 0) 1 839 := ⟨zd_c (o := 806) (p := 32) zh_806 (zc_2 zb_821), rfl⟩
theorem zb_839 : (zdC zp_806 33 (.ireturn) 1 && zdC zp_806 34 (.iload 6) 2 && zdC zp_806 36 (.ifCond .ne 15) 3 && zdC zp_806 39 (.aload_n 3) 1 && zdC zp_806 40 (.iconst 0) 1 && zdC zp_806 41 (.laload) 1 && zdC zp_806 42 (.iload 7) 2 && zdC zp_806 44 (.i2l) 1 && zdC zp_806 45 (.lcmp) 1 && zdC zp_806 46 (.ifCond .eq 5) 3) = true := by decide +kernel
theorem eL_law_839 : dx cL_law 839 (.ireturn) 1 840 := ⟨zd_c (o := 806) (p := 33) zh_806 (zc_1 (zc_1 (zc_1 (zc_1 (zc_1 (zc_1 (zc_1 (zc_1 (zc_1 zb_839))))))))), rfl⟩
theorem eL_law_840 : dx cL_law 840 (.iload 6) 2 842 := ⟨zd_c (o := 806) (p := 34) zh_806 (zc_2 (zc_1 (zc_1 (zc_1 (zc_1 (zc_1 (zc_1 (zc_1 (zc_1 zb_839))))))))), rfl⟩
theorem eL_law_842 : dx cL_law 842 (.ifCond .ne 15) 3 845 := ⟨zd_c (o := 806) (p := 36) zh_806 (zc_2 (zc_1 (zc_1 (zc_1 (zc_1 (zc_1 (zc_1 (zc_1 zb_839)))))))), rfl⟩
theorem eL_law_845 : dx cL_law 845 (.aload_n 3) 1 846 := ⟨zd_c (o := 806) (p := 39) zh_806 (zc_2 (zc_1 (zc_1 (zc_1 (zc_1 (zc_1 (zc_1 zb_839))))))), rfl⟩
theorem eL_law_846 : dx cL_law 846 (.iconst 0) 1 847 := ⟨zd_c (o := 806) (p := 40) zh_806 (zc_2 (zc_1 (zc_1 (zc_1 (zc_1 (zc_1 zb_839)))))), rfl⟩
theorem eL_law_847 : dx cL_law 847 (.laload) 1 848 := ⟨zd_c (o := 806) (p := 41) zh_806 (zc_2 (zc_1 (zc_1 (zc_1 (zc_1 zb_839))))), rfl⟩
theorem eL_law_848 : dx cL_law 848 (.iload 7) 2 850 := ⟨zd_c (o := 806) (p := 42) zh_806 (zc_2 (zc_1 (zc_1 (zc_1 zb_839)))), rfl⟩
theorem eL_law_850 : dx cL_law 850 (.i2l) 1 851 := ⟨zd_c (o := 806) (p := 44) zh_806 (zc_2 (zc_1 (zc_1 zb_839))), rfl⟩
theorem eL_law_851 : dx cL_law 851 (.lcmp) 1 852 := ⟨zd_c (o := 806) (p := 45) zh_806 (zc_2 (zc_1 zb_839)), rfl⟩
theorem eL_law_852 : dx cL_law 852 (.ifCond .eq 5) 3 855 := ⟨zd_c (o := 806) (p := 46) zh_806 (zc_2 zb_839), rfl⟩
theorem zb_855 : (zdC zp_806 49 (.iconst 0) 1 && zdC zp_806 50 (.ireturn) 1 && zdC zp_806 51 (.goto 1934) 3 && zdC zp_806 54 (.aload_n 1) 1 && zdC zp_806 55 (.invokevirtual 189) 3 && zdC zp_806 58 (.aload_n 2) 1 && zdC zp_806 59 (.invokevirtual 192) 3 && zdC zp_806 62 (.if_icmp .eq 1923) 3 && zdC zp_806 65 (.iconst 0) 1 && zdC zp_806 66 (.ireturn) 1) = true := by decide +kernel
theorem eL_law_855 : dx cL_law 855 (.iconst 0) 1 856 := ⟨zd_c (o := 806) (p := 49) zh_806 (zc_1 (zc_1 (zc_1 (zc_1 (zc_1 (zc_1 (zc_1 (zc_1 (zc_1 zb_855))))))))), rfl⟩
theorem eL_law_856 : dx cL_law 856 (.ireturn) 1 857 := ⟨zd_c (o := 806) (p := 50) zh_806 (zc_2 (zc_1 (zc_1 (zc_1 (zc_1 (zc_1 (zc_1 (zc_1 (zc_1 zb_855))))))))), rfl⟩
theorem eL_law_857 : dx cL_law 857 (.goto 1934) 3 860 := ⟨zd_c (o := 806) (p := 51) zh_806 (zc_2 (zc_1 (zc_1 (zc_1 (zc_1 (zc_1 (zc_1 (zc_1 zb_855)))))))), rfl⟩
theorem eL_law_860 : dx cL_law 860 (.aload_n 1) 1 861 := ⟨zd_c (o := 806) (p := 54) zh_806 (zc_2 (zc_1 (zc_1 (zc_1 (zc_1 (zc_1 (zc_1 zb_855))))))), rfl⟩
theorem eL_law_861 : dx cL_law 861 (.invokevirtual 189) 3 864 := ⟨zd_c (o := 806) (p := 55) zh_806 (zc_2 (zc_1 (zc_1 (zc_1 (zc_1 (zc_1 zb_855)))))), rfl⟩
theorem eL_law_864 : dx cL_law 864 (.aload_n 2) 1 865 := ⟨zd_c (o := 806) (p := 58) zh_806 (zc_2 (zc_1 (zc_1 (zc_1 (zc_1 zb_855))))), rfl⟩
theorem eL_law_865 : dx cL_law 865 (.invokevirtual 192) 3 868 := ⟨zd_c (o := 806) (p := 59) zh_806 (zc_2 (zc_1 (zc_1 (zc_1 zb_855)))), rfl⟩
theorem eL_law_868 : dx cL_law 868 (.if_icmp .eq 1923) 3 871 := ⟨zd_c (o := 806) (p := 62) zh_806 (zc_2 (zc_1 (zc_1 zb_855))), rfl⟩
theorem eL_law_871 : dx cL_law 871 (.iconst 0) 1 872 := ⟨zd_c (o := 806) (p := 65) zh_806 (zc_2 (zc_1 zb_855)), rfl⟩
theorem eL_law_872 : dx cL_law 872 (.ireturn) 1 873 := ⟨zd_c (o := 806) (p := 66) zh_806 (zc_2 zb_855), rfl⟩
def zp_873 : ByteArray := ⟨#[0x2b, 0x2a, 0x15, 0x05, 0x04, 0x60, 0x2e, 0x2d, 0xb8, 0x00, 0xc1, 0x36, 0x06, 0x2c, 0x2a, 0x15, 0x05, 0x04, 0x60, 0x2e, 0xb6, 0x00, 0xc3, 0x36, 0x07, 0x2c, 0xb6, 0x00, 0x91, 0x15, 0x06, 0x9f, 0x00, 0x05, 0x03, 0xac, 0x15, 0x06, 0x9a, 0x00, 0x0f, 0x2d, 0x03, 0x2f, 0x15, 0x07, 0x85, 0x94, 0x99, 0x00, 0x05, 0x03, 0xac, 0xa7, 0x07, 0x49, 0x2b, 0x2a, 0x15, 0x05, 0x04, 0x60]⟩
theorem zh_873 : SubC cL_law zp_873 873 := sub_of (n := 62) (by decide +kernel)
theorem zb_873 : (zdC zp_873 0 (.aload_n 1) 1 && zdC zp_873 1 (.aload_n 0) 1 && zdC zp_873 2 (.iload 5) 2 && zdC zp_873 4 (.iconst 1) 1 && zdC zp_873 5 (.iadd) 1 && zdC zp_873 6 (.iaload) 1 && zdC zp_873 7 (.aload_n 3) 1 && zdC zp_873 8 (.invokestatic 193) 3 && zdC zp_873 11 (.istore 6) 2 && zdC zp_873 13 (.aload_n 2) 1) = true := by decide +kernel
theorem eL_law_873 : dx cL_law 873 (.aload_n 1) 1 874 := ⟨zd_c (o := 873) (p := 0) zh_873 (zc_1 (zc_1 (zc_1 (zc_1 (zc_1 (zc_1 (zc_1 (zc_1 (zc_1 zb_873))))))))), rfl⟩
theorem eL_law_874 : dx cL_law 874 (.aload_n 0) 1 875 := ⟨zd_c (o := 873) (p := 1) zh_873 (zc_2 (zc_1 (zc_1 (zc_1 (zc_1 (zc_1 (zc_1 (zc_1 (zc_1 zb_873))))))))), rfl⟩
theorem eL_law_875 : dx cL_law 875 (.iload 5) 2 877 := ⟨zd_c (o := 873) (p := 2) zh_873 (zc_2 (zc_1 (zc_1 (zc_1 (zc_1 (zc_1 (zc_1 (zc_1 zb_873)))))))), rfl⟩
theorem eL_law_877 : dx cL_law 877 (.iconst 1) 1 878 := ⟨zd_c (o := 873) (p := 4) zh_873 (zc_2 (zc_1 (zc_1 (zc_1 (zc_1 (zc_1 (zc_1 zb_873))))))), rfl⟩
theorem eL_law_878 : dx cL_law 878 (.iadd) 1 879 := ⟨zd_c (o := 873) (p := 5) zh_873 (zc_2 (zc_1 (zc_1 (zc_1 (zc_1 (zc_1 zb_873)))))), rfl⟩
theorem eL_law_879 : dx cL_law 879 (.iaload) 1 880 := ⟨zd_c (o := 873) (p := 6) zh_873 (zc_2 (zc_1 (zc_1 (zc_1 (zc_1 zb_873))))), rfl⟩
theorem eL_law_880 : dx cL_law 880 (.aload_n 3) 1 881 := ⟨zd_c (o := 873) (p := 7) zh_873 (zc_2 (zc_1 (zc_1 (zc_1 zb_873)))), rfl⟩
theorem eL_law_881 : dx cL_law 881 (.invokestatic 193) 3 884 := ⟨zd_c (o := 873) (p := 8) zh_873 (zc_2 (zc_1 (zc_1 zb_873))), rfl⟩
theorem eL_law_884 : dx cL_law 884 (.istore 6) 2 886 := ⟨zd_c (o := 873) (p := 11) zh_873 (zc_2 (zc_1 zb_873)), rfl⟩
theorem eL_law_886 : dx cL_law 886 (.aload_n 2) 1 887 := ⟨zd_c (o := 873) (p := 13) zh_873 (zc_2 zb_873), rfl⟩
theorem zb_887 : (zdC zp_873 14 (.aload_n 0) 1 && zdC zp_873 15 (.iload 5) 2 && zdC zp_873 17 (.iconst 1) 1 && zdC zp_873 18 (.iadd) 1 && zdC zp_873 19 (.iaload) 1 && zdC zp_873 20 (.invokevirtual 195) 3 && zdC zp_873 23 (.istore 7) 2 && zdC zp_873 25 (.aload_n 2) 1 && zdC zp_873 26 (.invokevirtual 145) 3 && zdC zp_873 29 (.iload 6) 2) = true := by decide +kernel
theorem eL_law_887 : dx cL_law 887 (.aload_n 0) 1 888 := ⟨zd_c (o := 873) (p := 14) zh_873 (zc_1 (zc_1 (zc_1 (zc_1 (zc_1 (zc_1 (zc_1 (zc_1 (zc_1 zb_887))))))))), rfl⟩
theorem eL_law_888 : dx cL_law 888 (.iload 5) 2 890 := ⟨zd_c (o := 873) (p := 15) zh_873 (zc_2 (zc_1 (zc_1 (zc_1 (zc_1 (zc_1 (zc_1 (zc_1 (zc_1 zb_887))))))))), rfl⟩
theorem eL_law_890 : dx cL_law 890 (.iconst 1) 1 891 := ⟨zd_c (o := 873) (p := 17) zh_873 (zc_2 (zc_1 (zc_1 (zc_1 (zc_1 (zc_1 (zc_1 (zc_1 zb_887)))))))), rfl⟩
theorem eL_law_891 : dx cL_law 891 (.iadd) 1 892 := ⟨zd_c (o := 873) (p := 18) zh_873 (zc_2 (zc_1 (zc_1 (zc_1 (zc_1 (zc_1 (zc_1 zb_887))))))), rfl⟩
theorem eL_law_892 : dx cL_law 892 (.iaload) 1 893 := ⟨zd_c (o := 873) (p := 19) zh_873 (zc_2 (zc_1 (zc_1 (zc_1 (zc_1 (zc_1 zb_887)))))), rfl⟩
theorem eL_law_893 : dx cL_law 893 (.invokevirtual 195) 3 896 := ⟨zd_c (o := 873) (p := 20) zh_873 (zc_2 (zc_1 (zc_1 (zc_1 (zc_1 zb_887))))), rfl⟩
theorem eL_law_896 : dx cL_law 896 (.istore 7) 2 898 := ⟨zd_c (o := 873) (p := 23) zh_873 (zc_2 (zc_1 (zc_1 (zc_1 zb_887)))), rfl⟩
theorem eL_law_898 : dx cL_law 898 (.aload_n 2) 1 899 := ⟨zd_c (o := 873) (p := 25) zh_873 (zc_2 (zc_1 (zc_1 zb_887))), rfl⟩
theorem eL_law_899 : dx cL_law 899 (.invokevirtual 145) 3 902 := ⟨zd_c (o := 873) (p := 26) zh_873 (zc_2 (zc_1 zb_887)), rfl⟩
theorem eL_law_902 : dx cL_law 902 (.iload 6) 2 904 := ⟨zd_c (o := 873) (p := 29) zh_873 (zc_2 zb_887), rfl⟩
theorem zb_904 : (zdC zp_873 31 (.if_icmp .eq 5) 3 && zdC zp_873 34 (.iconst 0) 1 && zdC zp_873 35 (.ireturn) 1 && zdC zp_873 36 (.iload 6) 2 && zdC zp_873 38 (.ifCond .ne 15) 3 && zdC zp_873 41 (.aload_n 3) 1 && zdC zp_873 42 (.iconst 0) 1 && zdC zp_873 43 (.laload) 1 && zdC zp_873 44 (.iload 7) 2 && zdC zp_873 46 (.i2l) 1) = true := by decide +kernel
theorem eL_law_904 : dx cL_law 904 (.if_icmp .eq 5) 3 907 := ⟨zd_c (o := 873) (p := 31) zh_873 (zc_1 (zc_1 (zc_1 (zc_1 (zc_1 (zc_1 (zc_1 (zc_1 (zc_1 zb_904))))))))), rfl⟩
theorem eL_law_907 : dx cL_law 907 (.iconst 0) 1 908 := ⟨zd_c (o := 873) (p := 34) zh_873 (zc_2 (zc_1 (zc_1 (zc_1 (zc_1 (zc_1 (zc_1 (zc_1 (zc_1 zb_904))))))))), rfl⟩
theorem eL_law_908 : dx cL_law 908 (.ireturn) 1 909 := ⟨zd_c (o := 873) (p := 35) zh_873 (zc_2 (zc_1 (zc_1 (zc_1 (zc_1 (zc_1 (zc_1 (zc_1 zb_904)))))))), rfl⟩
theorem eL_law_909 : dx cL_law 909 (.iload 6) 2 911 := ⟨zd_c (o := 873) (p := 36) zh_873 (zc_2 (zc_1 (zc_1 (zc_1 (zc_1 (zc_1 (zc_1 zb_904))))))), rfl⟩
theorem eL_law_911 : dx cL_law 911 (.ifCond .ne 15) 3 914 := ⟨zd_c (o := 873) (p := 38) zh_873 (zc_2 (zc_1 (zc_1 (zc_1 (zc_1 (zc_1 zb_904)))))), rfl⟩
theorem eL_law_914 : dx cL_law 914 (.aload_n 3) 1 915 := ⟨zd_c (o := 873) (p := 41) zh_873 (zc_2 (zc_1 (zc_1 (zc_1 (zc_1 zb_904))))), rfl⟩
theorem eL_law_915 : dx cL_law 915 (.iconst 0) 1 916 := ⟨zd_c (o := 873) (p := 42) zh_873 (zc_2 (zc_1 (zc_1 (zc_1 zb_904)))), rfl⟩
theorem eL_law_916 : dx cL_law 916 (.laload) 1 917 := ⟨zd_c (o := 873) (p := 43) zh_873 (zc_2 (zc_1 (zc_1 zb_904))), rfl⟩
theorem eL_law_917 : dx cL_law 917 (.iload 7) 2 919 := ⟨zd_c (o := 873) (p := 44) zh_873 (zc_2 (zc_1 zb_904)), rfl⟩
theorem eL_law_919 : dx cL_law 919 (.i2l) 1 920 := ⟨zd_c (o := 873) (p := 46) zh_873 (zc_2 zb_904), rfl⟩
theorem zb_920 : (zdC zp_873 47 (.lcmp) 1 && zdC zp_873 48 (.ifCond .eq 5) 3 && zdC zp_873 51 (.iconst 0) 1 && zdC zp_873 52 (.ireturn) 1 && zdC zp_873 53 (.goto 1865) 3 && zdC zp_873 56 (.aload_n 1) 1 && zdC zp_873 57 (.aload_n 0) 1 && zdC zp_873 58 (.iload 5) 2 && zdC zp_873 60 (.iconst 1) 1 && zdC zp_873 61 (.iadd) 1) = true := by decide +kernel
theorem eL_law_920 : dx cL_law 920 (.lcmp) 1 921 := ⟨zd_c (o := 873) (p := 47) zh_873 (zc_1 (zc_1 (zc_1 (zc_1 (zc_1 (zc_1 (zc_1 (zc_1 (zc_1 zb_920))))))))), rfl⟩
theorem eL_law_921 : dx cL_law 921 (.ifCond .eq 5) 3 924 := ⟨zd_c (o := 873) (p := 48) zh_873 (zc_2 (zc_1 (zc_1 (zc_1 (zc_1 (zc_1 (zc_1 (zc_1 (zc_1 zb_920))))))))), rfl⟩
theorem eL_law_924 : dx cL_law 924 (.iconst 0) 1 925 := ⟨zd_c (o := 873) (p := 51) zh_873 (zc_2 (zc_1 (zc_1 (zc_1 (zc_1 (zc_1 (zc_1 (zc_1 zb_920)))))))), rfl⟩
theorem eL_law_925 : dx cL_law 925 (.ireturn) 1 926 := ⟨zd_c (o := 873) (p := 52) zh_873 (zc_2 (zc_1 (zc_1 (zc_1 (zc_1 (zc_1 (zc_1 zb_920))))))), rfl⟩
theorem eL_law_926 : dx cL_law 926 (.goto 1865) 3 929 := ⟨zd_c (o := 873) (p := 53) zh_873 (zc_2 (zc_1 (zc_1 (zc_1 (zc_1 (zc_1 zb_920)))))), rfl⟩
theorem eL_law_929 : dx cL_law 929 (.aload_n 1) 1 930 := ⟨zd_c (o := 873) (p := 56) zh_873 (zc_2 (zc_1 (zc_1 (zc_1 (zc_1 zb_920))))), rfl⟩
theorem eL_law_930 : dx cL_law 930 (.aload_n 0) 1 931 := ⟨zd_c (o := 873) (p := 57) zh_873 (zc_2 (zc_1 (zc_1 (zc_1 zb_920)))), rfl⟩
theorem eL_law_931 : dx cL_law 931 (.iload 5) 2 933 := ⟨zd_c (o := 873) (p := 58) zh_873 (zc_2 (zc_1 (zc_1 zb_920))), rfl⟩
theorem eL_law_933 : dx cL_law 933 (.iconst 1) 1 934 := ⟨zd_c (o := 873) (p := 60) zh_873 (zc_2 (zc_1 zb_920)), rfl⟩
theorem eL_law_934 : dx cL_law 934 (.iadd) 1 935 := ⟨zd_c (o := 873) (p := 61) zh_873 (zc_2 zb_920), rfl⟩
def zp_935 : ByteArray := ⟨#[0x2e, 0x2d, 0xb8, 0x00, 0xc4, 0x36, 0x06, 0x2c, 0x2a, 0x15, 0x05, 0x04, 0x60, 0x2e, 0xb6, 0x00, 0xc6, 0x36, 0x07, 0x2c, 0xb6, 0x00, 0x91, 0x15, 0x06, 0x9f, 0x00, 0x05, 0x03, 0xac, 0x15, 0x06, 0x9a, 0x00, 0x0f, 0x2d, 0x03, 0x2f, 0x15, 0x07, 0x85, 0x94, 0x99, 0x00, 0x05, 0x03, 0xac, 0xa7, 0x07, 0x11, 0x2b, 0xb6, 0x00, 0xc7, 0x2c, 0xb6, 0x00, 0xca, 0x9f, 0x07, 0x06, 0x03, 0xac, 0x2b, 0x2a, 0x15, 0x05]⟩
theorem zh_935 : SubC cL_law zp_935 935 := sub_of (n := 67) (by decide +kernel)
theorem zb_935 : (zdC zp_935 0 (.iaload) 1 && zdC zp_935 1 (.aload_n 3) 1 && zdC zp_935 2 (.invokestatic 196) 3 && zdC zp_935 5 (.istore 6) 2 && zdC zp_935 7 (.aload_n 2) 1 && zdC zp_935 8 (.aload_n 0) 1 && zdC zp_935 9 (.iload 5) 2 && zdC zp_935 11 (.iconst 1) 1 && zdC zp_935 12 (.iadd) 1 && zdC zp_935 13 (.iaload) 1) = true := by decide +kernel
theorem eL_law_935 : dx cL_law 935 (.iaload) 1 936 := ⟨zd_c (o := 935) (p := 0) zh_935 (zc_1 (zc_1 (zc_1 (zc_1 (zc_1 (zc_1 (zc_1 (zc_1 (zc_1 zb_935))))))))), rfl⟩
theorem eL_law_936 : dx cL_law 936 (.aload_n 3) 1 937 := ⟨zd_c (o := 935) (p := 1) zh_935 (zc_2 (zc_1 (zc_1 (zc_1 (zc_1 (zc_1 (zc_1 (zc_1 (zc_1 zb_935))))))))), rfl⟩
theorem eL_law_937 : dx cL_law 937 (.invokestatic 196) 3 940 := ⟨zd_c (o := 935) (p := 2) zh_935 (zc_2 (zc_1 (zc_1 (zc_1 (zc_1 (zc_1 (zc_1 (zc_1 zb_935)))))))), rfl⟩
theorem eL_law_940 : dx cL_law 940 (.istore 6) 2 942 := ⟨zd_c (o := 935) (p := 5) zh_935 (zc_2 (zc_1 (zc_1 (zc_1 (zc_1 (zc_1 (zc_1 zb_935))))))), rfl⟩
theorem eL_law_942 : dx cL_law 942 (.aload_n 2) 1 943 := ⟨zd_c (o := 935) (p := 7) zh_935 (zc_2 (zc_1 (zc_1 (zc_1 (zc_1 (zc_1 zb_935)))))), rfl⟩
theorem eL_law_943 : dx cL_law 943 (.aload_n 0) 1 944 := ⟨zd_c (o := 935) (p := 8) zh_935 (zc_2 (zc_1 (zc_1 (zc_1 (zc_1 zb_935))))), rfl⟩
theorem eL_law_944 : dx cL_law 944 (.iload 5) 2 946 := ⟨zd_c (o := 935) (p := 9) zh_935 (zc_2 (zc_1 (zc_1 (zc_1 zb_935)))), rfl⟩
theorem eL_law_946 : dx cL_law 946 (.iconst 1) 1 947 := ⟨zd_c (o := 935) (p := 11) zh_935 (zc_2 (zc_1 (zc_1 zb_935))), rfl⟩
theorem eL_law_947 : dx cL_law 947 (.iadd) 1 948 := ⟨zd_c (o := 935) (p := 12) zh_935 (zc_2 (zc_1 zb_935)), rfl⟩
theorem eL_law_948 : dx cL_law 948 (.iaload) 1 949 := ⟨zd_c (o := 935) (p := 13) zh_935 (zc_2 zb_935), rfl⟩
theorem zb_949 : (zdC zp_935 14 (.invokevirtual 198) 3 && zdC zp_935 17 (.istore 7) 2 && zdC zp_935 19 (.aload_n 2) 1 && zdC zp_935 20 (.invokevirtual 145) 3 && zdC zp_935 23 (.iload 6) 2 && zdC zp_935 25 (.if_icmp .eq 5) 3 && zdC zp_935 28 (.iconst 0) 1 && zdC zp_935 29 (.ireturn) 1 && zdC zp_935 30 (.iload 6) 2 && zdC zp_935 32 (.ifCond .ne 15) 3) = true := by decide +kernel
theorem eL_law_949 : dx cL_law 949 (.invokevirtual 198) 3 952 := ⟨zd_c (o := 935) (p := 14) zh_935 (zc_1 (zc_1 (zc_1 (zc_1 (zc_1 (zc_1 (zc_1 (zc_1 (zc_1 zb_949))))))))), rfl⟩
theorem eL_law_952 : dx cL_law 952 (.istore 7) 2 954 := ⟨zd_c (o := 935) (p := 17) zh_935 (zc_2 (zc_1 (zc_1 (zc_1 (zc_1 (zc_1 (zc_1 (zc_1 (zc_1 zb_949))))))))), rfl⟩
theorem eL_law_954 : dx cL_law 954 (.aload_n 2) 1 955 := ⟨zd_c (o := 935) (p := 19) zh_935 (zc_2 (zc_1 (zc_1 (zc_1 (zc_1 (zc_1 (zc_1 (zc_1 zb_949)))))))), rfl⟩
theorem eL_law_955 : dx cL_law 955 (.invokevirtual 145) 3 958 := ⟨zd_c (o := 935) (p := 20) zh_935 (zc_2 (zc_1 (zc_1 (zc_1 (zc_1 (zc_1 (zc_1 zb_949))))))), rfl⟩
theorem eL_law_958 : dx cL_law 958 (.iload 6) 2 960 := ⟨zd_c (o := 935) (p := 23) zh_935 (zc_2 (zc_1 (zc_1 (zc_1 (zc_1 (zc_1 zb_949)))))), rfl⟩
theorem eL_law_960 : dx cL_law 960 (.if_icmp .eq 5) 3 963 := ⟨zd_c (o := 935) (p := 25) zh_935 (zc_2 (zc_1 (zc_1 (zc_1 (zc_1 zb_949))))), rfl⟩
theorem eL_law_963 : dx cL_law 963 (.iconst 0) 1 964 := ⟨zd_c (o := 935) (p := 28) zh_935 (zc_2 (zc_1 (zc_1 (zc_1 zb_949)))), rfl⟩
theorem eL_law_964 : dx cL_law 964 (.ireturn) 1 965 := ⟨zd_c (o := 935) (p := 29) zh_935 (zc_2 (zc_1 (zc_1 zb_949))), rfl⟩
theorem eL_law_965 : dx cL_law 965 (.iload 6) 2 967 := ⟨zd_c (o := 935) (p := 30) zh_935 (zc_2 (zc_1 zb_949)), rfl⟩
theorem eL_law_967 : dx cL_law 967 (.ifCond .ne 15) 3 970 := ⟨zd_c (o := 935) (p := 32) zh_935 (zc_2 zb_949), rfl⟩
theorem zb_970 : (zdC zp_935 35 (.aload_n 3) 1 && zdC zp_935 36 (.iconst 0) 1 && zdC zp_935 37 (.laload) 1 && zdC zp_935 38 (.iload 7) 2 && zdC zp_935 40 (.i2l) 1 && zdC zp_935 41 (.lcmp) 1 && zdC zp_935 42 (.ifCond .eq 5) 3 && zdC zp_935 45 (.iconst 0) 1 && zdC zp_935 46 (.ireturn) 1 && zdC zp_935 47 (.goto 1809) 3) = true := by decide +kernel
theorem eL_law_970 : dx cL_law 970 (.aload_n 3) 1 971 := ⟨zd_c (o := 935) (p := 35) zh_935 (zc_1 (zc_1 (zc_1 (zc_1 (zc_1 (zc_1 (zc_1 (zc_1 (zc_1 zb_970))))))))), rfl⟩
theorem eL_law_971 : dx cL_law 971 (.iconst 0) 1 972 := ⟨zd_c (o := 935) (p := 36) zh_935 (zc_2 (zc_1 (zc_1 (zc_1 (zc_1 (zc_1 (zc_1 (zc_1 (zc_1 zb_970))))))))), rfl⟩
theorem eL_law_972 : dx cL_law 972 (.laload) 1 973 := ⟨zd_c (o := 935) (p := 37) zh_935 (zc_2 (zc_1 (zc_1 (zc_1 (zc_1 (zc_1 (zc_1 (zc_1 zb_970)))))))), rfl⟩
theorem eL_law_973 : dx cL_law 973 (.iload 7) 2 975 := ⟨zd_c (o := 935) (p := 38) zh_935 (zc_2 (zc_1 (zc_1 (zc_1 (zc_1 (zc_1 (zc_1 zb_970))))))), rfl⟩
theorem eL_law_975 : dx cL_law 975 (.i2l) 1 976 := ⟨zd_c (o := 935) (p := 40) zh_935 (zc_2 (zc_1 (zc_1 (zc_1 (zc_1 (zc_1 zb_970)))))), rfl⟩
theorem eL_law_976 : dx cL_law 976 (.lcmp) 1 977 := ⟨zd_c (o := 935) (p := 41) zh_935 (zc_2 (zc_1 (zc_1 (zc_1 (zc_1 zb_970))))), rfl⟩
theorem eL_law_977 : dx cL_law 977 (.ifCond .eq 5) 3 980 := ⟨zd_c (o := 935) (p := 42) zh_935 (zc_2 (zc_1 (zc_1 (zc_1 zb_970)))), rfl⟩
theorem eL_law_980 : dx cL_law 980 (.iconst 0) 1 981 := ⟨zd_c (o := 935) (p := 45) zh_935 (zc_2 (zc_1 (zc_1 zb_970))), rfl⟩
theorem eL_law_981 : dx cL_law 981 (.ireturn) 1 982 := ⟨zd_c (o := 935) (p := 46) zh_935 (zc_2 (zc_1 zb_970)), rfl⟩
theorem eL_law_982 : dx cL_law 982 (.goto 1809) 3 985 := ⟨zd_c (o := 935) (p := 47) zh_935 (zc_2 zb_970), rfl⟩
theorem zb_985 : (zdC zp_935 50 (.aload_n 1) 1 && zdC zp_935 51 (.invokevirtual 199) 3 && zdC zp_935 54 (.aload_n 2) 1 && zdC zp_935 55 (.invokevirtual 202) 3 && zdC zp_935 58 (.if_icmp .eq 1798) 3 && zdC zp_935 61 (.iconst 0) 1 && zdC zp_935 62 (.ireturn) 1 && zdC zp_935 63 (.aload_n 1) 1 && zdC zp_935 64 (.aload_n 0) 1 && zdC zp_935 65 (.iload 5) 2) = true := by decide +kernel
theorem eL_law_985 : dx cL_law 985 (.aload_n 1) 1 986 := ⟨zd_c (o := 935) (p := 50) zh_935 (zc_1 (zc_1 (zc_1 (zc_1 (zc_1 (zc_1 (zc_1 (zc_1 (zc_1 zb_985))))))))), rfl⟩
theorem eL_law_986 : dx cL_law 986 (.invokevirtual 199) 3 989 := ⟨zd_c (o := 935) (p := 51) zh_935 (zc_2 (zc_1 (zc_1 (zc_1 (zc_1 (zc_1 (zc_1 (zc_1 (zc_1 zb_985))))))))), rfl⟩
theorem eL_law_989 : dx cL_law 989 (.aload_n 2) 1 990 := ⟨zd_c (o := 935) (p := 54) zh_935 (zc_2 (zc_1 (zc_1 (zc_1 (zc_1 (zc_1 (zc_1 (zc_1 zb_985)))))))), rfl⟩
theorem eL_law_990 : dx cL_law 990 (.invokevirtual 202) 3 993 := ⟨zd_c (o := 935) (p := 55) zh_935 (zc_2 (zc_1 (zc_1 (zc_1 (zc_1 (zc_1 (zc_1 zb_985))))))), rfl⟩
theorem eL_law_993 : dx cL_law 993 (.if_icmp .eq 1798) 3 996 := ⟨zd_c (o := 935) (p := 58) zh_935 (zc_2 (zc_1 (zc_1 (zc_1 (zc_1 (zc_1 zb_985)))))), rfl⟩
theorem eL_law_996 : dx cL_law 996 (.iconst 0) 1 997 := ⟨zd_c (o := 935) (p := 61) zh_935 (zc_2 (zc_1 (zc_1 (zc_1 (zc_1 zb_985))))), rfl⟩
theorem eL_law_997 : dx cL_law 997 (.ireturn) 1 998 := ⟨zd_c (o := 935) (p := 62) zh_935 (zc_2 (zc_1 (zc_1 (zc_1 zb_985)))), rfl⟩
theorem eL_law_998 : dx cL_law 998 (.aload_n 1) 1 999 := ⟨zd_c (o := 935) (p := 63) zh_935 (zc_2 (zc_1 (zc_1 zb_985))), rfl⟩
theorem eL_law_999 : dx cL_law 999 (.aload_n 0) 1 1000 := ⟨zd_c (o := 935) (p := 64) zh_935 (zc_2 (zc_1 zb_985)), rfl⟩
theorem eL_law_1000 : dx cL_law 1000 (.iload 5) 2 1002 := ⟨zd_c (o := 935) (p := 65) zh_935 (zc_2 zb_985), rfl⟩
def zp_1002 : ByteArray := ⟨#[0x04, 0x60, 0x2e, 0x2a, 0x15, 0x05, 0x05, 0x60, 0x2e, 0x2d, 0xb8, 0x00, 0xcb, 0x36, 0x06, 0x2c, 0x2a, 0x15, 0x05, 0x04, 0x60, 0x2e, 0x2a, 0x15, 0x05, 0x05, 0x60, 0x2e, 0xb6, 0x00, 0xcd, 0x36, 0x07, 0x2c, 0xb6, 0x00, 0x91, 0x15, 0x06, 0x9f, 0x00, 0x05, 0x03, 0xac, 0x15, 0x06, 0x9a, 0x00, 0x0f, 0x2d, 0x03, 0x2f, 0x15, 0x07, 0x85, 0x94, 0x99, 0x00, 0x05, 0x03]⟩
theorem zh_1002 : SubC cL_law zp_1002 1002 := sub_of (n := 60) (by decide +kernel)
theorem zb_1002 : (zdC zp_1002 0 (.iconst 1) 1 && zdC zp_1002 1 (.iadd) 1 && zdC zp_1002 2 (.iaload) 1 && zdC zp_1002 3 (.aload_n 0) 1 && zdC zp_1002 4 (.iload 5) 2 && zdC zp_1002 6 (.iconst 2) 1 && zdC zp_1002 7 (.iadd) 1 && zdC zp_1002 8 (.iaload) 1 && zdC zp_1002 9 (.aload_n 3) 1 && zdC zp_1002 10 (.invokestatic 203) 3) = true := by decide +kernel
theorem eL_law_1002 : dx cL_law 1002 (.iconst 1) 1 1003 := ⟨zd_c (o := 1002) (p := 0) zh_1002 (zc_1 (zc_1 (zc_1 (zc_1 (zc_1 (zc_1 (zc_1 (zc_1 (zc_1 zb_1002))))))))), rfl⟩
theorem eL_law_1003 : dx cL_law 1003 (.iadd) 1 1004 := ⟨zd_c (o := 1002) (p := 1) zh_1002 (zc_2 (zc_1 (zc_1 (zc_1 (zc_1 (zc_1 (zc_1 (zc_1 (zc_1 zb_1002))))))))), rfl⟩
theorem eL_law_1004 : dx cL_law 1004 (.iaload) 1 1005 := ⟨zd_c (o := 1002) (p := 2) zh_1002 (zc_2 (zc_1 (zc_1 (zc_1 (zc_1 (zc_1 (zc_1 (zc_1 zb_1002)))))))), rfl⟩
theorem eL_law_1005 : dx cL_law 1005 (.aload_n 0) 1 1006 := ⟨zd_c (o := 1002) (p := 3) zh_1002 (zc_2 (zc_1 (zc_1 (zc_1 (zc_1 (zc_1 (zc_1 zb_1002))))))), rfl⟩
theorem eL_law_1006 : dx cL_law 1006 (.iload 5) 2 1008 := ⟨zd_c (o := 1002) (p := 4) zh_1002 (zc_2 (zc_1 (zc_1 (zc_1 (zc_1 (zc_1 zb_1002)))))), rfl⟩
theorem eL_law_1008 : dx cL_law 1008 (.iconst 2) 1 1009 := ⟨zd_c (o := 1002) (p := 6) zh_1002 (zc_2 (zc_1 (zc_1 (zc_1 (zc_1 zb_1002))))), rfl⟩
theorem eL_law_1009 : dx cL_law 1009 (.iadd) 1 1010 := ⟨zd_c (o := 1002) (p := 7) zh_1002 (zc_2 (zc_1 (zc_1 (zc_1 zb_1002)))), rfl⟩
theorem eL_law_1010 : dx cL_law 1010 (.iaload) 1 1011 := ⟨zd_c (o := 1002) (p := 8) zh_1002 (zc_2 (zc_1 (zc_1 zb_1002))), rfl⟩
theorem eL_law_1011 : dx cL_law 1011 (.aload_n 3) 1 1012 := ⟨zd_c (o := 1002) (p := 9) zh_1002 (zc_2 (zc_1 zb_1002)), rfl⟩
theorem eL_law_1012 : dx cL_law 1012 (.invokestatic 203) 3 1015 := ⟨zd_c (o := 1002) (p := 10) zh_1002 (zc_2 zb_1002), rfl⟩
theorem zb_1015 : (zdC zp_1002 13 (.istore 6) 2 && zdC zp_1002 15 (.aload_n 2) 1 && zdC zp_1002 16 (.aload_n 0) 1 && zdC zp_1002 17 (.iload 5) 2 && zdC zp_1002 19 (.iconst 1) 1 && zdC zp_1002 20 (.iadd) 1 && zdC zp_1002 21 (.iaload) 1 && zdC zp_1002 22 (.aload_n 0) 1 && zdC zp_1002 23 (.iload 5) 2 && zdC zp_1002 25 (.iconst 2) 1) = true := by decide +kernel
theorem eL_law_1015 : dx cL_law 1015 (.istore 6) 2 1017 := ⟨zd_c (o := 1002) (p := 13) zh_1002 (zc_1 (zc_1 (zc_1 (zc_1 (zc_1 (zc_1 (zc_1 (zc_1 (zc_1 zb_1015))))))))), rfl⟩
theorem eL_law_1017 : dx cL_law 1017 (.aload_n 2) 1 1018 := ⟨zd_c (o := 1002) (p := 15) zh_1002 (zc_2 (zc_1 (zc_1 (zc_1 (zc_1 (zc_1 (zc_1 (zc_1 (zc_1 zb_1015))))))))), rfl⟩
theorem eL_law_1018 : dx cL_law 1018 (.aload_n 0) 1 1019 := ⟨zd_c (o := 1002) (p := 16) zh_1002 (zc_2 (zc_1 (zc_1 (zc_1 (zc_1 (zc_1 (zc_1 (zc_1 zb_1015)))))))), rfl⟩
theorem eL_law_1019 : dx cL_law 1019 (.iload 5) 2 1021 := ⟨zd_c (o := 1002) (p := 17) zh_1002 (zc_2 (zc_1 (zc_1 (zc_1 (zc_1 (zc_1 (zc_1 zb_1015))))))), rfl⟩
theorem eL_law_1021 : dx cL_law 1021 (.iconst 1) 1 1022 := ⟨zd_c (o := 1002) (p := 19) zh_1002 (zc_2 (zc_1 (zc_1 (zc_1 (zc_1 (zc_1 zb_1015)))))), rfl⟩
theorem eL_law_1022 : dx cL_law 1022 (.iadd) 1 1023 := ⟨zd_c (o := 1002) (p := 20) zh_1002 (zc_2 (zc_1 (zc_1 (zc_1 (zc_1 zb_1015))))), rfl⟩
theorem eL_law_1023 : dx cL_law 1023 (.iaload) 1 1024 := ⟨zd_c (o := 1002) (p := 21) zh_1002 (zc_2 (zc_1 (zc_1 (zc_1 zb_1015)))), rfl⟩
theorem eL_law_1024 : dx cL_law 1024 (.aload_n 0) 1 1025 := ⟨zd_c (o := 1002) (p := 22) zh_1002 (zc_2 (zc_1 (zc_1 zb_1015))), rfl⟩
theorem eL_law_1025 : dx cL_law 1025 (.iload 5) 2 1027 := ⟨zd_c (o := 1002) (p := 23) zh_1002 (zc_2 (zc_1 zb_1015)), rfl⟩
theorem eL_law_1027 : dx cL_law 1027 (.iconst 2) 1 1028 := ⟨zd_c (o := 1002) (p := 25) zh_1002 (zc_2 zb_1015), rfl⟩
theorem zb_1028 : (zdC zp_1002 26 (.iadd) 1 && zdC zp_1002 27 (.iaload) 1 && zdC zp_1002 28 (.invokevirtual 205) 3 && zdC zp_1002 31 (.istore 7) 2 && zdC zp_1002 33 (.aload_n 2) 1 && zdC zp_1002 34 (.invokevirtual 145) 3 && zdC zp_1002 37 (.iload 6) 2 && zdC zp_1002 39 (.if_icmp .eq 5) 3 && zdC zp_1002 42 (.iconst 0) 1 && zdC zp_1002 43 (.ireturn) 1) = true := by decide +kernel
theorem eL_law_1028 : dx cL_law 1028 (.iadd) 1 1029 := ⟨zd_c (o := 1002) (p := 26) zh_1002 (zc_1 (zc_1 (zc_1 (zc_1 (zc_1 (zc_1 (zc_1 (zc_1 (zc_1 zb_1028))))))))), rfl⟩
theorem eL_law_1029 : dx cL_law 1029 (.iaload) 1 1030 := ⟨zd_c (o := 1002) (p := 27) zh_1002 (zc_2 (zc_1 (zc_1 (zc_1 (zc_1 (zc_1 (zc_1 (zc_1 (zc_1 zb_1028))))))))), rfl⟩
theorem eL_law_1030 : dx cL_law 1030 (.invokevirtual 205) 3 1033 := ⟨zd_c (o := 1002) (p := 28) zh_1002 (zc_2 (zc_1 (zc_1 (zc_1 (zc_1 (zc_1 (zc_1 (zc_1 zb_1028)))))))), rfl⟩
theorem eL_law_1033 : dx cL_law 1033 (.istore 7) 2 1035 := ⟨zd_c (o := 1002) (p := 31) zh_1002 (zc_2 (zc_1 (zc_1 (zc_1 (zc_1 (zc_1 (zc_1 zb_1028))))))), rfl⟩
theorem eL_law_1035 : dx cL_law 1035 (.aload_n 2) 1 1036 := ⟨zd_c (o := 1002) (p := 33) zh_1002 (zc_2 (zc_1 (zc_1 (zc_1 (zc_1 (zc_1 zb_1028)))))), rfl⟩
theorem eL_law_1036 : dx cL_law 1036 (.invokevirtual 145) 3 1039 := ⟨zd_c (o := 1002) (p := 34) zh_1002 (zc_2 (zc_1 (zc_1 (zc_1 (zc_1 zb_1028))))), rfl⟩
theorem eL_law_1039 : dx cL_law 1039 (.iload 6) 2 1041 := ⟨zd_c (o := 1002) (p := 37) zh_1002 (zc_2 (zc_1 (zc_1 (zc_1 zb_1028)))), rfl⟩
theorem eL_law_1041 : dx cL_law 1041 (.if_icmp .eq 5) 3 1044 := ⟨zd_c (o := 1002) (p := 39) zh_1002 (zc_2 (zc_1 (zc_1 zb_1028))), rfl⟩
theorem eL_law_1044 : dx cL_law 1044 (.iconst 0) 1 1045 := ⟨zd_c (o := 1002) (p := 42) zh_1002 (zc_2 (zc_1 zb_1028)), rfl⟩
theorem eL_law_1045 : dx cL_law 1045 (.ireturn) 1 1046 := ⟨zd_c (o := 1002) (p := 43) zh_1002 (zc_2 zb_1028), rfl⟩
theorem zb_1046 : (zdC zp_1002 44 (.iload 6) 2 && zdC zp_1002 46 (.ifCond .ne 15) 3 && zdC zp_1002 49 (.aload_n 3) 1 && zdC zp_1002 50 (.iconst 0) 1 && zdC zp_1002 51 (.laload) 1 && zdC zp_1002 52 (.iload 7) 2 && zdC zp_1002 54 (.i2l) 1 && zdC zp_1002 55 (.lcmp) 1 && zdC zp_1002 56 (.ifCond .eq 5) 3 && zdC zp_1002 59 (.iconst 0) 1) = true := by decide +kernel
theorem eL_law_1046 : dx cL_law 1046 (.iload 6) 2 1048 := ⟨zd_c (o := 1002) (p := 44) zh_1002 (zc_1 (zc_1 (zc_1 (zc_1 (zc_1 (zc_1 (zc_1 (zc_1 (zc_1 zb_1046))))))))), rfl⟩
theorem eL_law_1048 : dx cL_law 1048 (.ifCond .ne 15) 3 1051 := ⟨zd_c (o := 1002) (p := 46) zh_1002 (zc_2 (zc_1 (zc_1 (zc_1 (zc_1 (zc_1 (zc_1 (zc_1 (zc_1 zb_1046))))))))), rfl⟩
theorem eL_law_1051 : dx cL_law 1051 (.aload_n 3) 1 1052 := ⟨zd_c (o := 1002) (p := 49) zh_1002 (zc_2 (zc_1 (zc_1 (zc_1 (zc_1 (zc_1 (zc_1 (zc_1 zb_1046)))))))), rfl⟩
theorem eL_law_1052 : dx cL_law 1052 (.iconst 0) 1 1053 := ⟨zd_c (o := 1002) (p := 50) zh_1002 (zc_2 (zc_1 (zc_1 (zc_1 (zc_1 (zc_1 (zc_1 zb_1046))))))), rfl⟩
theorem eL_law_1053 : dx cL_law 1053 (.laload) 1 1054 := ⟨zd_c (o := 1002) (p := 51) zh_1002 (zc_2 (zc_1 (zc_1 (zc_1 (zc_1 (zc_1 zb_1046)))))), rfl⟩
theorem eL_law_1054 : dx cL_law 1054 (.iload 7) 2 1056 := ⟨zd_c (o := 1002) (p := 52) zh_1002 (zc_2 (zc_1 (zc_1 (zc_1 (zc_1 zb_1046))))), rfl⟩
theorem eL_law_1056 : dx cL_law 1056 (.i2l) 1 1057 := ⟨zd_c (o := 1002) (p := 54) zh_1002 (zc_2 (zc_1 (zc_1 (zc_1 zb_1046)))), rfl⟩
theorem eL_law_1057 : dx cL_law 1057 (.lcmp) 1 1058 := ⟨zd_c (o := 1002) (p := 55) zh_1002 (zc_2 (zc_1 (zc_1 zb_1046))), rfl⟩
theorem eL_law_1058 : dx cL_law 1058 (.ifCond .eq 5) 3 1061 := ⟨zd_c (o := 1002) (p := 56) zh_1002 (zc_2 (zc_1 zb_1046)), rfl⟩
theorem eL_law_1061 : dx cL_law 1061 (.iconst 0) 1 1062 := ⟨zd_c (o := 1002) (p := 59) zh_1002 (zc_2 zb_1046), rfl⟩
def zp_1062 : ByteArray := ⟨#[0xac, 0xa7, 0x06, 0xc0, 0x2b, 0x2a, 0x15, 0x05, 0x04, 0x60, 0x2e, 0x2a, 0x15, 0x05, 0x05, 0x60, 0x2e, 0x2d, 0xb8, 0x00, 0xce, 0x36, 0x06, 0x2c, 0x2a, 0x15, 0x05, 0x04, 0x60, 0x2e, 0x2a, 0x15, 0x05, 0x05, 0x60, 0x2e, 0xb6, 0x00, 0xd0, 0x36, 0x07, 0x2c, 0xb6, 0x00, 0x91, 0x15, 0x06, 0x9f, 0x00, 0x05, 0x03, 0xac, 0x15, 0x06, 0x9a, 0x00, 0x0f, 0x2d, 0x03, 0x2f]⟩
theorem zh_1062 : SubC cL_law zp_1062 1062 := sub_of (n := 60) (by decide +kernel)
theorem zb_1062 : (zdC zp_1062 0 (.ireturn) 1 && zdC zp_1062 1 (.goto 1728) 3 && zdC zp_1062 4 (.aload_n 1) 1 && zdC zp_1062 5 (.aload_n 0) 1 && zdC zp_1062 6 (.iload 5) 2 && zdC zp_1062 8 (.iconst 1) 1 && zdC zp_1062 9 (.iadd) 1 && zdC zp_1062 10 (.iaload) 1 && zdC zp_1062 11 (.aload_n 0) 1 && zdC zp_1062 12 (.iload 5) 2) = true := by decide +kernel
theorem eL_law_1062 : dx cL_law 1062 (.ireturn) 1 1063 := ⟨zd_c (o := 1062) (p := 0) zh_1062 (zc_1 (zc_1 (zc_1 (zc_1 (zc_1 (zc_1 (zc_1 (zc_1 (zc_1 zb_1062))))))))), rfl⟩
theorem eL_law_1063 : dx cL_law 1063 (.goto 1728) 3 1066 := ⟨zd_c (o := 1062) (p := 1) zh_1062 (zc_2 (zc_1 (zc_1 (zc_1 (zc_1 (zc_1 (zc_1 (zc_1 (zc_1 zb_1062))))))))), rfl⟩
theorem eL_law_1066 : dx cL_law 1066 (.aload_n 1) 1 1067 := ⟨zd_c (o := 1062) (p := 4) zh_1062 (zc_2 (zc_1 (zc_1 (zc_1 (zc_1 (zc_1 (zc_1 (zc_1 zb_1062)))))))), rfl⟩
theorem eL_law_1067 : dx cL_law 1067 (.aload_n 0) 1 1068 := ⟨zd_c (o := 1062) (p := 5) zh_1062 (zc_2 (zc_1 (zc_1 (zc_1 (zc_1 (zc_1 (zc_1 zb_1062))))))), rfl⟩
theorem eL_law_1068 : dx cL_law 1068 (.iload 5) 2 1070 := ⟨zd_c (o := 1062) (p := 6) zh_1062 (zc_2 (zc_1 (zc_1 (zc_1 (zc_1 (zc_1 zb_1062)))))), rfl⟩
theorem eL_law_1070 : dx cL_law 1070 (.iconst 1) 1 1071 := ⟨zd_c (o := 1062) (p := 8) zh_1062 (zc_2 (zc_1 (zc_1 (zc_1 (zc_1 zb_1062))))), rfl⟩
theorem eL_law_1071 : dx cL_law 1071 (.iadd) 1 1072 := ⟨zd_c (o := 1062) (p := 9) zh_1062 (zc_2 (zc_1 (zc_1 (zc_1 zb_1062)))), rfl⟩
theorem eL_law_1072 : dx cL_law 1072 (.iaload) 1 1073 := ⟨zd_c (o := 1062) (p := 10) zh_1062 (zc_2 (zc_1 (zc_1 zb_1062))), rfl⟩
theorem eL_law_1073 : dx cL_law 1073 (.aload_n 0) 1 1074 := ⟨zd_c (o := 1062) (p := 11) zh_1062 (zc_2 (zc_1 zb_1062)), rfl⟩
theorem eL_law_1074 : dx cL_law 1074 (.iload 5) 2 1076 := ⟨zd_c (o := 1062) (p := 12) zh_1062 (zc_2 zb_1062), rfl⟩
theorem zb_1076 : (zdC zp_1062 14 (.iconst 2) 1 && zdC zp_1062 15 (.iadd) 1 && zdC zp_1062 16 (.iaload) 1 && zdC zp_1062 17 (.aload_n 3) 1 && zdC zp_1062 18 (.invokestatic 206) 3 && zdC zp_1062 21 (.istore 6) 2 && zdC zp_1062 23 (.aload_n 2) 1 && zdC zp_1062 24 (.aload_n 0) 1 && zdC zp_1062 25 (.iload 5) 2 && zdC zp_1062 27 (.iconst 1) 1) = true := by decide +kernel
theorem eL_law_1076 : dx cL_law 1076 (.iconst 2) 1 1077 := ⟨zd_c (o := 1062) (p := 14) zh_1062 (zc_1 (zc_1 (zc_1 (zc_1 (zc_1 (zc_1 (zc_1 (zc_1 (zc_1 zb_1076))))))))), rfl⟩
theorem eL_law_1077 : dx cL_law 1077 (.iadd) 1 1078 := ⟨zd_c (o := 1062) (p := 15) zh_1062 (zc_2 (zc_1 (zc_1 (zc_1 (zc_1 (zc_1 (zc_1 (zc_1 (zc_1 zb_1076))))))))), rfl⟩
theorem eL_law_1078 : dx cL_law 1078 (.iaload) 1 1079 := ⟨zd_c (o := 1062) (p := 16) zh_1062 (zc_2 (zc_1 (zc_1 (zc_1 (zc_1 (zc_1 (zc_1 (zc_1 zb_1076)))))))), rfl⟩
theorem eL_law_1079 : dx cL_law 1079 (.aload_n 3) 1 1080 := ⟨zd_c (o := 1062) (p := 17) zh_1062 (zc_2 (zc_1 (zc_1 (zc_1 (zc_1 (zc_1 (zc_1 zb_1076))))))), rfl⟩
theorem eL_law_1080 : dx cL_law 1080 (.invokestatic 206) 3 1083 := ⟨zd_c (o := 1062) (p := 18) zh_1062 (zc_2 (zc_1 (zc_1 (zc_1 (zc_1 (zc_1 zb_1076)))))), rfl⟩
theorem eL_law_1083 : dx cL_law 1083 (.istore 6) 2 1085 := ⟨zd_c (o := 1062) (p := 21) zh_1062 (zc_2 (zc_1 (zc_1 (zc_1 (zc_1 zb_1076))))), rfl⟩
theorem eL_law_1085 : dx cL_law 1085 (.aload_n 2) 1 1086 := ⟨zd_c (o := 1062) (p := 23) zh_1062 (zc_2 (zc_1 (zc_1 (zc_1 zb_1076)))), rfl⟩
theorem eL_law_1086 : dx cL_law 1086 (.aload_n 0) 1 1087 := ⟨zd_c (o := 1062) (p := 24) zh_1062 (zc_2 (zc_1 (zc_1 zb_1076))), rfl⟩
theorem eL_law_1087 : dx cL_law 1087 (.iload 5) 2 1089 := ⟨zd_c (o := 1062) (p := 25) zh_1062 (zc_2 (zc_1 zb_1076)), rfl⟩
theorem eL_law_1089 : dx cL_law 1089 (.iconst 1) 1 1090 := ⟨zd_c (o := 1062) (p := 27) zh_1062 (zc_2 zb_1076), rfl⟩
theorem zb_1090 : (zdC zp_1062 28 (.iadd) 1 && zdC zp_1062 29 (.iaload) 1 && zdC zp_1062 30 (.aload_n 0) 1 && zdC zp_1062 31 (.iload 5) 2 && zdC zp_1062 33 (.iconst 2) 1 && zdC zp_1062 34 (.iadd) 1 && zdC zp_1062 35 (.iaload) 1 && zdC zp_1062 36 (.invokevirtual 208) 3 && zdC zp_1062 39 (.istore 7) 2 && zdC zp_1062 41 (.aload_n 2) 1) = true := by decide +kernel
theorem eL_law_1090 : dx cL_law 1090 (.iadd) 1 1091 := ⟨zd_c (o := 1062) (p := 28) zh_1062 (zc_1 (zc_1 (zc_1 (zc_1 (zc_1 (zc_1 (zc_1 (zc_1 (zc_1 zb_1090))))))))), rfl⟩
theorem eL_law_1091 : dx cL_law 1091 (.iaload) 1 1092 := ⟨zd_c (o := 1062) (p := 29) zh_1062 (zc_2 (zc_1 (zc_1 (zc_1 (zc_1 (zc_1 (zc_1 (zc_1 (zc_1 zb_1090))))))))), rfl⟩
theorem eL_law_1092 : dx cL_law 1092 (.aload_n 0) 1 1093 := ⟨zd_c (o := 1062) (p := 30) zh_1062 (zc_2 (zc_1 (zc_1 (zc_1 (zc_1 (zc_1 (zc_1 (zc_1 zb_1090)))))))), rfl⟩
theorem eL_law_1093 : dx cL_law 1093 (.iload 5) 2 1095 := ⟨zd_c (o := 1062) (p := 31) zh_1062 (zc_2 (zc_1 (zc_1 (zc_1 (zc_1 (zc_1 (zc_1 zb_1090))))))), rfl⟩
theorem eL_law_1095 : dx cL_law 1095 (.iconst 2) 1 1096 := ⟨zd_c (o := 1062) (p := 33) zh_1062 (zc_2 (zc_1 (zc_1 (zc_1 (zc_1 (zc_1 zb_1090)))))), rfl⟩
theorem eL_law_1096 : dx cL_law 1096 (.iadd) 1 1097 := ⟨zd_c (o := 1062) (p := 34) zh_1062 (zc_2 (zc_1 (zc_1 (zc_1 (zc_1 zb_1090))))), rfl⟩
theorem eL_law_1097 : dx cL_law 1097 (.iaload) 1 1098 := ⟨zd_c (o := 1062) (p := 35) zh_1062 (zc_2 (zc_1 (zc_1 (zc_1 zb_1090)))), rfl⟩
theorem eL_law_1098 : dx cL_law 1098 (.invokevirtual 208) 3 1101 := ⟨zd_c (o := 1062) (p := 36) zh_1062 (zc_2 (zc_1 (zc_1 zb_1090))), rfl⟩
theorem eL_law_1101 : dx cL_law 1101 (.istore 7) 2 1103 := ⟨zd_c (o := 1062) (p := 39) zh_1062 (zc_2 (zc_1 zb_1090)), rfl⟩
theorem eL_law_1103 : dx cL_law 1103 (.aload_n 2) 1 1104 := ⟨zd_c (o := 1062) (p := 41) zh_1062 (zc_2 zb_1090), rfl⟩
theorem zb_1104 : (zdC zp_1062 42 (.invokevirtual 145) 3 && zdC zp_1062 45 (.iload 6) 2 && zdC zp_1062 47 (.if_icmp .eq 5) 3 && zdC zp_1062 50 (.iconst 0) 1 && zdC zp_1062 51 (.ireturn) 1 && zdC zp_1062 52 (.iload 6) 2 && zdC zp_1062 54 (.ifCond .ne 15) 3 && zdC zp_1062 57 (.aload_n 3) 1 && zdC zp_1062 58 (.iconst 0) 1 && zdC zp_1062 59 (.laload) 1) = true := by decide +kernel
theorem eL_law_1104 : dx cL_law 1104 (.invokevirtual 145) 3 1107 := ⟨zd_c (o := 1062) (p := 42) zh_1062 (zc_1 (zc_1 (zc_1 (zc_1 (zc_1 (zc_1 (zc_1 (zc_1 (zc_1 zb_1104))))))))), rfl⟩
theorem eL_law_1107 : dx cL_law 1107 (.iload 6) 2 1109 := ⟨zd_c (o := 1062) (p := 45) zh_1062 (zc_2 (zc_1 (zc_1 (zc_1 (zc_1 (zc_1 (zc_1 (zc_1 (zc_1 zb_1104))))))))), rfl⟩
theorem eL_law_1109 : dx cL_law 1109 (.if_icmp .eq 5) 3 1112 := ⟨zd_c (o := 1062) (p := 47) zh_1062 (zc_2 (zc_1 (zc_1 (zc_1 (zc_1 (zc_1 (zc_1 (zc_1 zb_1104)))))))), rfl⟩
theorem eL_law_1112 : dx cL_law 1112 (.iconst 0) 1 1113 := ⟨zd_c (o := 1062) (p := 50) zh_1062 (zc_2 (zc_1 (zc_1 (zc_1 (zc_1 (zc_1 (zc_1 zb_1104))))))), rfl⟩
theorem eL_law_1113 : dx cL_law 1113 (.ireturn) 1 1114 := ⟨zd_c (o := 1062) (p := 51) zh_1062 (zc_2 (zc_1 (zc_1 (zc_1 (zc_1 (zc_1 zb_1104)))))), rfl⟩
theorem eL_law_1114 : dx cL_law 1114 (.iload 6) 2 1116 := ⟨zd_c (o := 1062) (p := 52) zh_1062 (zc_2 (zc_1 (zc_1 (zc_1 (zc_1 zb_1104))))), rfl⟩
theorem eL_law_1116 : dx cL_law 1116 (.ifCond .ne 15) 3 1119 := ⟨zd_c (o := 1062) (p := 54) zh_1062 (zc_2 (zc_1 (zc_1 (zc_1 zb_1104)))), rfl⟩
theorem eL_law_1119 : dx cL_law 1119 (.aload_n 3) 1 1120 := ⟨zd_c (o := 1062) (p := 57) zh_1062 (zc_2 (zc_1 (zc_1 zb_1104))), rfl⟩
theorem eL_law_1120 : dx cL_law 1120 (.iconst 0) 1 1121 := ⟨zd_c (o := 1062) (p := 58) zh_1062 (zc_2 (zc_1 zb_1104)), rfl⟩
theorem eL_law_1121 : dx cL_law 1121 (.laload) 1 1122 := ⟨zd_c (o := 1062) (p := 59) zh_1062 (zc_2 zb_1104), rfl⟩
def zp_1122 : ByteArray := ⟨#[0x15, 0x07, 0x85, 0x94, 0x99, 0x00, 0x05, 0x03, 0xac, 0xa7, 0x06, 0x7c, 0x2b, 0x2a, 0x15, 0x05, 0x04, 0x60, 0x2e, 0x2d, 0xb8, 0x00, 0xd1, 0x36, 0x06, 0x2c, 0x2a, 0x15, 0x05, 0x04, 0x60, 0x2e, 0xb6, 0x00, 0xd3, 0x36, 0x07, 0x2c, 0xb6, 0x00, 0x91, 0x15, 0x06, 0x9f, 0x00, 0x05, 0x03, 0xac, 0x15, 0x06, 0x9a, 0x00, 0x0f, 0x2d, 0x03, 0x2f, 0x15, 0x07, 0x85, 0x94, 0x99, 0x00, 0x05, 0x03]⟩
theorem zh_1122 : SubC cL_law zp_1122 1122 := sub_of (n := 64) (by decide +kernel)
theorem zb_1122 : (zdC zp_1122 0 (.iload 7) 2 && zdC zp_1122 2 (.i2l) 1 && zdC zp_1122 3 (.lcmp) 1 && zdC zp_1122 4 (.ifCond .eq 5) 3 && zdC zp_1122 7 (.iconst 0) 1 && zdC zp_1122 8 (.ireturn) 1 && zdC zp_1122 9 (.goto 1660) 3 && zdC zp_1122 12 (.aload_n 1) 1 && zdC zp_1122 13 (.aload_n 0) 1 && zdC zp_1122 14 (.iload 5) 2) = true := by decide +kernel
theorem eL_law_1122 : dx cL_law 1122 (.iload 7) 2 1124 := ⟨zd_c (o := 1122) (p := 0) zh_1122 (zc_1 (zc_1 (zc_1 (zc_1 (zc_1 (zc_1 (zc_1 (zc_1 (zc_1 zb_1122))))))))), rfl⟩
theorem eL_law_1124 : dx cL_law 1124 (.i2l) 1 1125 := ⟨zd_c (o := 1122) (p := 2) zh_1122 (zc_2 (zc_1 (zc_1 (zc_1 (zc_1 (zc_1 (zc_1 (zc_1 (zc_1 zb_1122))))))))), rfl⟩
theorem eL_law_1125 : dx cL_law 1125 (.lcmp) 1 1126 := ⟨zd_c (o := 1122) (p := 3) zh_1122 (zc_2 (zc_1 (zc_1 (zc_1 (zc_1 (zc_1 (zc_1 (zc_1 zb_1122)))))))), rfl⟩
theorem eL_law_1126 : dx cL_law 1126 (.ifCond .eq 5) 3 1129 := ⟨zd_c (o := 1122) (p := 4) zh_1122 (zc_2 (zc_1 (zc_1 (zc_1 (zc_1 (zc_1 (zc_1 zb_1122))))))), rfl⟩
theorem eL_law_1129 : dx cL_law 1129 (.iconst 0) 1 1130 := ⟨zd_c (o := 1122) (p := 7) zh_1122 (zc_2 (zc_1 (zc_1 (zc_1 (zc_1 (zc_1 zb_1122)))))), rfl⟩
theorem eL_law_1130 : dx cL_law 1130 (.ireturn) 1 1131 := ⟨zd_c (o := 1122) (p := 8) zh_1122 (zc_2 (zc_1 (zc_1 (zc_1 (zc_1 zb_1122))))), rfl⟩
theorem eL_law_1131 : dx cL_law 1131 (.goto 1660) 3 1134 := ⟨zd_c (o := 1122) (p := 9) zh_1122 (zc_2 (zc_1 (zc_1 (zc_1 zb_1122)))), rfl⟩
theorem eL_law_1134 : dx cL_law 1134 (.aload_n 1) 1 1135 := ⟨zd_c (o := 1122) (p := 12) zh_1122 (zc_2 (zc_1 (zc_1 zb_1122))), rfl⟩
theorem eL_law_1135 : dx cL_law 1135 (.aload_n 0) 1 1136 := ⟨zd_c (o := 1122) (p := 13) zh_1122 (zc_2 (zc_1 zb_1122)), rfl⟩
theorem eL_law_1136 : dx cL_law 1136 (.iload 5) 2 1138 := ⟨zd_c (o := 1122) (p := 14) zh_1122 (zc_2 zb_1122), rfl⟩
theorem zb_1138 : (zdC zp_1122 16 (.iconst 1) 1 && zdC zp_1122 17 (.iadd) 1 && zdC zp_1122 18 (.iaload) 1 && zdC zp_1122 19 (.aload_n 3) 1 && zdC zp_1122 20 (.invokestatic 209) 3 && zdC zp_1122 23 (.istore 6) 2 && zdC zp_1122 25 (.aload_n 2) 1 && zdC zp_1122 26 (.aload_n 0) 1 && zdC zp_1122 27 (.iload 5) 2 && zdC zp_1122 29 (.iconst 1) 1) = true := by decide +kernel
theorem eL_law_1138 : dx cL_law 1138 (.iconst 1) 1 1139 := ⟨zd_c (o := 1122) (p := 16) zh_1122 (zc_1 (zc_1 (zc_1 (zc_1 (zc_1 (zc_1 (zc_1 (zc_1 (zc_1 zb_1138))))))))), rfl⟩
theorem eL_law_1139 : dx cL_law 1139 (.iadd) 1 1140 := ⟨zd_c (o := 1122) (p := 17) zh_1122 (zc_2 (zc_1 (zc_1 (zc_1 (zc_1 (zc_1 (zc_1 (zc_1 (zc_1 zb_1138))))))))), rfl⟩
theorem eL_law_1140 : dx cL_law 1140 (.iaload) 1 1141 := ⟨zd_c (o := 1122) (p := 18) zh_1122 (zc_2 (zc_1 (zc_1 (zc_1 (zc_1 (zc_1 (zc_1 (zc_1 zb_1138)))))))), rfl⟩
theorem eL_law_1141 : dx cL_law 1141 (.aload_n 3) 1 1142 := ⟨zd_c (o := 1122) (p := 19) zh_1122 (zc_2 (zc_1 (zc_1 (zc_1 (zc_1 (zc_1 (zc_1 zb_1138))))))), rfl⟩
theorem eL_law_1142 : dx cL_law 1142 (.invokestatic 209) 3 1145 := ⟨zd_c (o := 1122) (p := 20) zh_1122 (zc_2 (zc_1 (zc_1 (zc_1 (zc_1 (zc_1 zb_1138)))))), rfl⟩
theorem eL_law_1145 : dx cL_law 1145 (.istore 6) 2 1147 := ⟨zd_c (o := 1122) (p := 23) zh_1122 (zc_2 (zc_1 (zc_1 (zc_1 (zc_1 zb_1138))))), rfl⟩
theorem eL_law_1147 : dx cL_law 1147 (.aload_n 2) 1 1148 := ⟨zd_c (o := 1122) (p := 25) zh_1122 (zc_2 (zc_1 (zc_1 (zc_1 zb_1138)))), rfl⟩
theorem eL_law_1148 : dx cL_law 1148 (.aload_n 0) 1 1149 := ⟨zd_c (o := 1122) (p := 26) zh_1122 (zc_2 (zc_1 (zc_1 zb_1138))), rfl⟩
theorem eL_law_1149 : dx cL_law 1149 (.iload 5) 2 1151 := ⟨zd_c (o := 1122) (p := 27) zh_1122 (zc_2 (zc_1 zb_1138)), rfl⟩
theorem eL_law_1151 : dx cL_law 1151 (.iconst 1) 1 1152 := ⟨zd_c (o := 1122) (p := 29) zh_1122 (zc_2 zb_1138), rfl⟩
theorem zb_1152 : (zdC zp_1122 30 (.iadd) 1 && zdC zp_1122 31 (.iaload) 1 && zdC zp_1122 32 (.invokevirtual 211) 3 && zdC zp_1122 35 (.istore 7) 2 && zdC zp_1122 37 (.aload_n 2) 1 && zdC zp_1122 38 (.invokevirtual 145) 3 && zdC zp_1122 41 (.iload 6) 2 && zdC zp_1122 43 (.if_icmp .eq 5) 3 && zdC zp_1122 46 (.iconst 0) 1 && zdC zp_1122 47 (.ireturn) 1) = true := by decide +kernel
theorem eL_law_1152 : dx cL_law 1152 (.iadd) 1 1153 := ⟨zd_c (o := 1122) (p := 30) zh_1122 (zc_1 (zc_1 (zc_1 (zc_1 (zc_1 (zc_1 (zc_1 (zc_1 (zc_1 zb_1152))))))))), rfl⟩
theorem eL_law_1153 : dx cL_law 1153 (.iaload) 1 1154 := ⟨zd_c (o := 1122) (p := 31) zh_1122 (zc_2 (zc_1 (zc_1 (zc_1 (zc_1 (zc_1 (zc_1 (zc_1 (zc_1 zb_1152))))))))), rfl⟩
theorem eL_law_1154 : dx cL_law 1154 (.invokevirtual 211) 3 1157 := ⟨zd_c (o := 1122) (p := 32) zh_1122 (zc_2 (zc_1 (zc_1 (zc_1 (zc_1 (zc_1 (zc_1 (zc_1 zb_1152)))))))), rfl⟩
theorem eL_law_1157 : dx cL_law 1157 (.istore 7) 2 1159 := ⟨zd_c (o := 1122) (p := 35) zh_1122 (zc_2 (zc_1 (zc_1 (zc_1 (zc_1 (zc_1 (zc_1 zb_1152))))))), rfl⟩
theorem eL_law_1159 : dx cL_law 1159 (.aload_n 2) 1 1160 := ⟨zd_c (o := 1122) (p := 37) zh_1122 (zc_2 (zc_1 (zc_1 (zc_1 (zc_1 (zc_1 zb_1152)))))), rfl⟩
theorem eL_law_1160 : dx cL_law 1160 (.invokevirtual 145) 3 1163 := ⟨zd_c (o := 1122) (p := 38) zh_1122 (zc_2 (zc_1 (zc_1 (zc_1 (zc_1 zb_1152))))), rfl⟩
theorem eL_law_1163 : dx cL_law 1163 (.iload 6) 2 1165 := ⟨zd_c (o := 1122) (p := 41) zh_1122 (zc_2 (zc_1 (zc_1 (zc_1 zb_1152)))), rfl⟩
theorem eL_law_1165 : dx cL_law 1165 (.if_icmp .eq 5) 3 1168 := ⟨zd_c (o := 1122) (p := 43) zh_1122 (zc_2 (zc_1 (zc_1 zb_1152))), rfl⟩
theorem eL_law_1168 : dx cL_law 1168 (.iconst 0) 1 1169 := ⟨zd_c (o := 1122) (p := 46) zh_1122 (zc_2 (zc_1 zb_1152)), rfl⟩
theorem eL_law_1169 : dx cL_law 1169 (.ireturn) 1 1170 := ⟨zd_c (o := 1122) (p := 47) zh_1122 (zc_2 zb_1152), rfl⟩
theorem zb_1170 : (zdC zp_1122 48 (.iload 6) 2 && zdC zp_1122 50 (.ifCond .ne 15) 3 && zdC zp_1122 53 (.aload_n 3) 1 && zdC zp_1122 54 (.iconst 0) 1 && zdC zp_1122 55 (.laload) 1 && zdC zp_1122 56 (.iload 7) 2 && zdC zp_1122 58 (.i2l) 1 && zdC zp_1122 59 (.lcmp) 1 && zdC zp_1122 60 (.ifCond .eq 5) 3 && zdC zp_1122 63 (.iconst 0) 1) = true := by decide +kernel
theorem eL_law_1170 : dx cL_law 1170 (.iload 6) 2 1172 := ⟨zd_c (o := 1122) (p := 48) zh_1122 (zc_1 (zc_1 (zc_1 (zc_1 (zc_1 (zc_1 (zc_1 (zc_1 (zc_1 zb_1170))))))))), rfl⟩
theorem eL_law_1172 : dx cL_law 1172 (.ifCond .ne 15) 3 1175 := ⟨zd_c (o := 1122) (p := 50) zh_1122 (zc_2 (zc_1 (zc_1 (zc_1 (zc_1 (zc_1 (zc_1 (zc_1 (zc_1 zb_1170))))))))), rfl⟩
theorem eL_law_1175 : dx cL_law 1175 (.aload_n 3) 1 1176 := ⟨zd_c (o := 1122) (p := 53) zh_1122 (zc_2 (zc_1 (zc_1 (zc_1 (zc_1 (zc_1 (zc_1 (zc_1 zb_1170)))))))), rfl⟩
theorem eL_law_1176 : dx cL_law 1176 (.iconst 0) 1 1177 := ⟨zd_c (o := 1122) (p := 54) zh_1122 (zc_2 (zc_1 (zc_1 (zc_1 (zc_1 (zc_1 (zc_1 zb_1170))))))), rfl⟩
theorem eL_law_1177 : dx cL_law 1177 (.laload) 1 1178 := ⟨zd_c (o := 1122) (p := 55) zh_1122 (zc_2 (zc_1 (zc_1 (zc_1 (zc_1 (zc_1 zb_1170)))))), rfl⟩
theorem eL_law_1178 : dx cL_law 1178 (.iload 7) 2 1180 := ⟨zd_c (o := 1122) (p := 56) zh_1122 (zc_2 (zc_1 (zc_1 (zc_1 (zc_1 zb_1170))))), rfl⟩
theorem eL_law_1180 : dx cL_law 1180 (.i2l) 1 1181 := ⟨zd_c (o := 1122) (p := 58) zh_1122 (zc_2 (zc_1 (zc_1 (zc_1 zb_1170)))), rfl⟩
theorem eL_law_1181 : dx cL_law 1181 (.lcmp) 1 1182 := ⟨zd_c (o := 1122) (p := 59) zh_1122 (zc_2 (zc_1 (zc_1 zb_1170))), rfl⟩
theorem eL_law_1182 : dx cL_law 1182 (.ifCond .eq 5) 3 1185 := ⟨zd_c (o := 1122) (p := 60) zh_1122 (zc_2 (zc_1 zb_1170)), rfl⟩
theorem eL_law_1185 : dx cL_law 1185 (.iconst 0) 1 1186 := ⟨zd_c (o := 1122) (p := 63) zh_1122 (zc_2 zb_1170), rfl⟩
def zp_1186 : ByteArray := ⟨#[0xac, 0xa7, 0x06, 0x44, 0x2b, 0x2a, 0x15, 0x05, 0x04, 0x60, 0x2e, 0x2d, 0xb8, 0x00, 0xd4, 0x36, 0x06, 0x2c, 0x2a, 0x15, 0x05, 0x04, 0x60, 0x2e, 0xb6, 0x00, 0xd6, 0x36, 0x07, 0x2c, 0xb6, 0x00, 0x91, 0x15, 0x06, 0x9f, 0x00, 0x05, 0x03, 0xac, 0x15, 0x06, 0x9a, 0x00, 0x0f, 0x2d, 0x03, 0x2f, 0x15, 0x07, 0x85, 0x94, 0x99, 0x00, 0x05, 0x03, 0xac, 0xa7, 0x06, 0x0c, 0x2b, 0x2a, 0x15, 0x05]⟩
theorem zh_1186 : SubC cL_law zp_1186 1186 := sub_of (n := 64) (by decide +kernel)
theorem zb_1186 : (zdC zp_1186 0 (.ireturn) 1 && zdC zp_1186 1 (.goto 1604) 3 && zdC zp_1186 4 (.aload_n 1) 1 && zdC zp_1186 5 (.aload_n 0) 1 && zdC zp_1186 6 (.iload 5) 2 && zdC zp_1186 8 (.iconst 1) 1 && zdC zp_1186 9 (.iadd) 1 && zdC zp_1186 10 (.iaload) 1 && zdC zp_1186 11 (.aload_n 3) 1 && zdC zp_1186 12 (.invokestatic 212) 3) = true := by decide +kernel
theorem eL_law_1186 : dx cL_law 1186 (.ireturn) 1 1187 := ⟨zd_c (o := 1186) (p := 0) zh_1186 (zc_1 (zc_1 (zc_1 (zc_1 (zc_1 (zc_1 (zc_1 (zc_1 (zc_1 zb_1186))))))))), rfl⟩
theorem eL_law_1187 : dx cL_law 1187 (.goto 1604) 3 1190 := ⟨zd_c (o := 1186) (p := 1) zh_1186 (zc_2 (zc_1 (zc_1 (zc_1 (zc_1 (zc_1 (zc_1 (zc_1 (zc_1 zb_1186))))))))), rfl⟩
theorem eL_law_1190 : dx cL_law 1190 (.aload_n 1) 1 1191 := ⟨zd_c (o := 1186) (p := 4) zh_1186 (zc_2 (zc_1 (zc_1 (zc_1 (zc_1 (zc_1 (zc_1 (zc_1 zb_1186)))))))), rfl⟩
theorem eL_law_1191 : dx cL_law 1191 (.aload_n 0) 1 1192 := ⟨zd_c (o := 1186) (p := 5) zh_1186 (zc_2 (zc_1 (zc_1 (zc_1 (zc_1 (zc_1 (zc_1 zb_1186))))))), rfl⟩
theorem eL_law_1192 : dx cL_law 1192 (.iload 5) 2 1194 := ⟨zd_c (o := 1186) (p := 6) zh_1186 (zc_2 (zc_1 (zc_1 (zc_1 (zc_1 (zc_1 zb_1186)))))), rfl⟩
theorem eL_law_1194 : dx cL_law 1194 (.iconst 1) 1 1195 := ⟨zd_c (o := 1186) (p := 8) zh_1186 (zc_2 (zc_1 (zc_1 (zc_1 (zc_1 zb_1186))))), rfl⟩
theorem eL_law_1195 : dx cL_law 1195 (.iadd) 1 1196 := ⟨zd_c (o := 1186) (p := 9) zh_1186 (zc_2 (zc_1 (zc_1 (zc_1 zb_1186)))), rfl⟩
theorem eL_law_1196 : dx cL_law 1196 (.iaload) 1 1197 := ⟨zd_c (o := 1186) (p := 10) zh_1186 (zc_2 (zc_1 (zc_1 zb_1186))), rfl⟩
theorem eL_law_1197 : dx cL_law 1197 (.aload_n 3) 1 1198 := ⟨zd_c (o := 1186) (p := 11) zh_1186 (zc_2 (zc_1 zb_1186)), rfl⟩
theorem eL_law_1198 : dx cL_law 1198 (.invokestatic 212) 3 1201 := ⟨zd_c (o := 1186) (p := 12) zh_1186 (zc_2 zb_1186), rfl⟩
theorem zb_1201 : (zdC zp_1186 15 (.istore 6) 2 && zdC zp_1186 17 (.aload_n 2) 1 && zdC zp_1186 18 (.aload_n 0) 1 && zdC zp_1186 19 (.iload 5) 2 && zdC zp_1186 21 (.iconst 1) 1 && zdC zp_1186 22 (.iadd) 1 && zdC zp_1186 23 (.iaload) 1 && zdC zp_1186 24 (.invokevirtual 214) 3 && zdC zp_1186 27 (.istore 7) 2 && zdC zp_1186 29 (.aload_n 2) 1) = true := by decide +kernel
theorem eL_law_1201 : dx cL_law 1201 (.istore 6) 2 1203 := ⟨zd_c (o := 1186) (p := 15) zh_1186 (zc_1 (zc_1 (zc_1 (zc_1 (zc_1 (zc_1 (zc_1 (zc_1 (zc_1 zb_1201))))))))), rfl⟩
theorem eL_law_1203 : dx cL_law 1203 (.aload_n 2) 1 1204 := ⟨zd_c (o := 1186) (p := 17) zh_1186 (zc_2 (zc_1 (zc_1 (zc_1 (zc_1 (zc_1 (zc_1 (zc_1 (zc_1 zb_1201))))))))), rfl⟩
theorem eL_law_1204 : dx cL_law 1204 (.aload_n 0) 1 1205 := ⟨zd_c (o := 1186) (p := 18) zh_1186 (zc_2 (zc_1 (zc_1 (zc_1 (zc_1 (zc_1 (zc_1 (zc_1 zb_1201)))))))), rfl⟩
theorem eL_law_1205 : dx cL_law 1205 (.iload 5) 2 1207 := ⟨zd_c (o := 1186) (p := 19) zh_1186 (zc_2 (zc_1 (zc_1 (zc_1 (zc_1 (zc_1 (zc_1 zb_1201))))))), rfl⟩
theorem eL_law_1207 : dx cL_law 1207 (.iconst 1) 1 1208 := ⟨zd_c (o := 1186) (p := 21) zh_1186 (zc_2 (zc_1 (zc_1 (zc_1 (zc_1 (zc_1 zb_1201)))))), rfl⟩
theorem eL_law_1208 : dx cL_law 1208 (.iadd) 1 1209 := ⟨zd_c (o := 1186) (p := 22) zh_1186 (zc_2 (zc_1 (zc_1 (zc_1 (zc_1 zb_1201))))), rfl⟩
theorem eL_law_1209 : dx cL_law 1209 (.iaload) 1 1210 := ⟨zd_c (o := 1186) (p := 23) zh_1186 (zc_2 (zc_1 (zc_1 (zc_1 zb_1201)))), rfl⟩
theorem eL_law_1210 : dx cL_law 1210 (.invokevirtual 214) 3 1213 := ⟨zd_c (o := 1186) (p := 24) zh_1186 (zc_2 (zc_1 (zc_1 zb_1201))), rfl⟩
theorem eL_law_1213 : dx cL_law 1213 (.istore 7) 2 1215 := ⟨zd_c (o := 1186) (p := 27) zh_1186 (zc_2 (zc_1 zb_1201)), rfl⟩
theorem eL_law_1215 : dx cL_law 1215 (.aload_n 2) 1 1216 := ⟨zd_c (o := 1186) (p := 29) zh_1186 (zc_2 zb_1201), rfl⟩
theorem zb_1216 : (zdC zp_1186 30 (.invokevirtual 145) 3 && zdC zp_1186 33 (.iload 6) 2 && zdC zp_1186 35 (.if_icmp .eq 5) 3 && zdC zp_1186 38 (.iconst 0) 1 && zdC zp_1186 39 (.ireturn) 1 && zdC zp_1186 40 (.iload 6) 2 && zdC zp_1186 42 (.ifCond .ne 15) 3 && zdC zp_1186 45 (.aload_n 3) 1 && zdC zp_1186 46 (.iconst 0) 1 && zdC zp_1186 47 (.laload) 1) = true := by decide +kernel
theorem eL_law_1216 : dx cL_law 1216 (.invokevirtual 145) 3 1219 := ⟨zd_c (o := 1186) (p := 30) zh_1186 (zc_1 (zc_1 (zc_1 (zc_1 (zc_1 (zc_1 (zc_1 (zc_1 (zc_1 zb_1216))))))))), rfl⟩
theorem eL_law_1219 : dx cL_law 1219 (.iload 6) 2 1221 := ⟨zd_c (o := 1186) (p := 33) zh_1186 (zc_2 (zc_1 (zc_1 (zc_1 (zc_1 (zc_1 (zc_1 (zc_1 (zc_1 zb_1216))))))))), rfl⟩
theorem eL_law_1221 : dx cL_law 1221 (.if_icmp .eq 5) 3 1224 := ⟨zd_c (o := 1186) (p := 35) zh_1186 (zc_2 (zc_1 (zc_1 (zc_1 (zc_1 (zc_1 (zc_1 (zc_1 zb_1216)))))))), rfl⟩
theorem eL_law_1224 : dx cL_law 1224 (.iconst 0) 1 1225 := ⟨zd_c (o := 1186) (p := 38) zh_1186 (zc_2 (zc_1 (zc_1 (zc_1 (zc_1 (zc_1 (zc_1 zb_1216))))))), rfl⟩
theorem eL_law_1225 : dx cL_law 1225 (.ireturn) 1 1226 := ⟨zd_c (o := 1186) (p := 39) zh_1186 (zc_2 (zc_1 (zc_1 (zc_1 (zc_1 (zc_1 zb_1216)))))), rfl⟩
theorem eL_law_1226 : dx cL_law 1226 (.iload 6) 2 1228 := ⟨zd_c (o := 1186) (p := 40) zh_1186 (zc_2 (zc_1 (zc_1 (zc_1 (zc_1 zb_1216))))), rfl⟩
theorem eL_law_1228 : dx cL_law 1228 (.ifCond .ne 15) 3 1231 := ⟨zd_c (o := 1186) (p := 42) zh_1186 (zc_2 (zc_1 (zc_1 (zc_1 zb_1216)))), rfl⟩
theorem eL_law_1231 : dx cL_law 1231 (.aload_n 3) 1 1232 := ⟨zd_c (o := 1186) (p := 45) zh_1186 (zc_2 (zc_1 (zc_1 zb_1216))), rfl⟩
theorem eL_law_1232 : dx cL_law 1232 (.iconst 0) 1 1233 := ⟨zd_c (o := 1186) (p := 46) zh_1186 (zc_2 (zc_1 zb_1216)), rfl⟩
theorem eL_law_1233 : dx cL_law 1233 (.laload) 1 1234 := ⟨zd_c (o := 1186) (p := 47) zh_1186 (zc_2 zb_1216), rfl⟩
theorem zb_1234 : (zdC zp_1186 48 (.iload 7) 2 && zdC zp_1186 50 (.i2l) 1 && zdC zp_1186 51 (.lcmp) 1 && zdC zp_1186 52 (.ifCond .eq 5) 3 && zdC zp_1186 55 (.iconst 0) 1 && zdC zp_1186 56 (.ireturn) 1 && zdC zp_1186 57 (.goto 1548) 3 && zdC zp_1186 60 (.aload_n 1) 1 && zdC zp_1186 61 (.aload_n 0) 1 && zdC zp_1186 62 (.iload 5) 2) = true := by decide +kernel
theorem eL_law_1234 : dx cL_law 1234 (.iload 7) 2 1236 := ⟨zd_c (o := 1186) (p := 48) zh_1186 (zc_1 (zc_1 (zc_1 (zc_1 (zc_1 (zc_1 (zc_1 (zc_1 (zc_1 zb_1234))))))))), rfl⟩
theorem eL_law_1236 : dx cL_law 1236 (.i2l) 1 1237 := ⟨zd_c (o := 1186) (p := 50) zh_1186 (zc_2 (zc_1 (zc_1 (zc_1 (zc_1 (zc_1 (zc_1 (zc_1 (zc_1 zb_1234))))))))), rfl⟩
theorem eL_law_1237 : dx cL_law 1237 (.lcmp) 1 1238 := ⟨zd_c (o := 1186) (p := 51) zh_1186 (zc_2 (zc_1 (zc_1 (zc_1 (zc_1 (zc_1 (zc_1 (zc_1 zb_1234)))))))), rfl⟩
theorem eL_law_1238 : dx cL_law 1238 (.ifCond .eq 5) 3 1241 := ⟨zd_c (o := 1186) (p := 52) zh_1186 (zc_2 (zc_1 (zc_1 (zc_1 (zc_1 (zc_1 (zc_1 zb_1234))))))), rfl⟩
theorem eL_law_1241 : dx cL_law 1241 (.iconst 0) 1 1242 := ⟨zd_c (o := 1186) (p := 55) zh_1186 (zc_2 (zc_1 (zc_1 (zc_1 (zc_1 (zc_1 zb_1234)))))), rfl⟩
theorem eL_law_1242 : dx cL_law 1242 (.ireturn) 1 1243 := ⟨zd_c (o := 1186) (p := 56) zh_1186 (zc_2 (zc_1 (zc_1 (zc_1 (zc_1 zb_1234))))), rfl⟩
theorem eL_law_1243 : dx cL_law 1243 (.goto 1548) 3 1246 := ⟨zd_c (o := 1186) (p := 57) zh_1186 (zc_2 (zc_1 (zc_1 (zc_1 zb_1234)))), rfl⟩
theorem eL_law_1246 : dx cL_law 1246 (.aload_n 1) 1 1247 := ⟨zd_c (o := 1186) (p := 60) zh_1186 (zc_2 (zc_1 (zc_1 zb_1234))), rfl⟩
theorem eL_law_1247 : dx cL_law 1247 (.aload_n 0) 1 1248 := ⟨zd_c (o := 1186) (p := 61) zh_1186 (zc_2 (zc_1 zb_1234)), rfl⟩
theorem eL_law_1248 : dx cL_law 1248 (.iload 5) 2 1250 := ⟨zd_c (o := 1186) (p := 62) zh_1186 (zc_2 zb_1234), rfl⟩
def zp_1250 : ByteArray := ⟨#[0x04, 0x60, 0x2e, 0x2a, 0x15, 0x05, 0x05, 0x60, 0x2e, 0x2d, 0xb8, 0x00, 0xd7, 0x36, 0x06, 0x2c, 0x2a, 0x15, 0x05, 0x04, 0x60, 0x2e, 0x2a, 0x15, 0x05, 0x05, 0x60, 0x2e, 0xb6, 0x00, 0xd9, 0x36, 0x07, 0x2c, 0xb6, 0x00, 0x91, 0x15, 0x06, 0x9f, 0x00, 0x05, 0x03, 0xac, 0x15, 0x06, 0x9a, 0x00, 0x0f, 0x2d, 0x03, 0x2f, 0x15, 0x07, 0x85, 0x94, 0x99, 0x00, 0x05, 0x03]⟩
theorem zh_1250 : SubC cL_law zp_1250 1250 := sub_of (n := 60) (by decide +kernel)
theorem zb_1250 : (zdC zp_1250 0 (.iconst 1) 1 && zdC zp_1250 1 (.iadd) 1 && zdC zp_1250 2 (.iaload) 1 && zdC zp_1250 3 (.aload_n 0) 1 && zdC zp_1250 4 (.iload 5) 2 && zdC zp_1250 6 (.iconst 2) 1 && zdC zp_1250 7 (.iadd) 1 && zdC zp_1250 8 (.iaload) 1 && zdC zp_1250 9 (.aload_n 3) 1 && zdC zp_1250 10 (.invokestatic 215) 3) = true := by decide +kernel
theorem eL_law_1250 : dx cL_law 1250 (.iconst 1) 1 1251 := ⟨zd_c (o := 1250) (p := 0) zh_1250 (zc_1 (zc_1 (zc_1 (zc_1 (zc_1 (zc_1 (zc_1 (zc_1 (zc_1 zb_1250))))))))), rfl⟩
theorem eL_law_1251 : dx cL_law 1251 (.iadd) 1 1252 := ⟨zd_c (o := 1250) (p := 1) zh_1250 (zc_2 (zc_1 (zc_1 (zc_1 (zc_1 (zc_1 (zc_1 (zc_1 (zc_1 zb_1250))))))))), rfl⟩
theorem eL_law_1252 : dx cL_law 1252 (.iaload) 1 1253 := ⟨zd_c (o := 1250) (p := 2) zh_1250 (zc_2 (zc_1 (zc_1 (zc_1 (zc_1 (zc_1 (zc_1 (zc_1 zb_1250)))))))), rfl⟩
theorem eL_law_1253 : dx cL_law 1253 (.aload_n 0) 1 1254 := ⟨zd_c (o := 1250) (p := 3) zh_1250 (zc_2 (zc_1 (zc_1 (zc_1 (zc_1 (zc_1 (zc_1 zb_1250))))))), rfl⟩
theorem eL_law_1254 : dx cL_law 1254 (.iload 5) 2 1256 := ⟨zd_c (o := 1250) (p := 4) zh_1250 (zc_2 (zc_1 (zc_1 (zc_1 (zc_1 (zc_1 zb_1250)))))), rfl⟩
theorem eL_law_1256 : dx cL_law 1256 (.iconst 2) 1 1257 := ⟨zd_c (o := 1250) (p := 6) zh_1250 (zc_2 (zc_1 (zc_1 (zc_1 (zc_1 zb_1250))))), rfl⟩
theorem eL_law_1257 : dx cL_law 1257 (.iadd) 1 1258 := ⟨zd_c (o := 1250) (p := 7) zh_1250 (zc_2 (zc_1 (zc_1 (zc_1 zb_1250)))), rfl⟩
theorem eL_law_1258 : dx cL_law 1258 (.iaload) 1 1259 := ⟨zd_c (o := 1250) (p := 8) zh_1250 (zc_2 (zc_1 (zc_1 zb_1250))), rfl⟩
theorem eL_law_1259 : dx cL_law 1259 (.aload_n 3) 1 1260 := ⟨zd_c (o := 1250) (p := 9) zh_1250 (zc_2 (zc_1 zb_1250)), rfl⟩
theorem eL_law_1260 : dx cL_law 1260 (.invokestatic 215) 3 1263 := ⟨zd_c (o := 1250) (p := 10) zh_1250 (zc_2 zb_1250), rfl⟩
theorem zb_1263 : (zdC zp_1250 13 (.istore 6) 2 && zdC zp_1250 15 (.aload_n 2) 1 && zdC zp_1250 16 (.aload_n 0) 1 && zdC zp_1250 17 (.iload 5) 2 && zdC zp_1250 19 (.iconst 1) 1 && zdC zp_1250 20 (.iadd) 1 && zdC zp_1250 21 (.iaload) 1 && zdC zp_1250 22 (.aload_n 0) 1 && zdC zp_1250 23 (.iload 5) 2 && zdC zp_1250 25 (.iconst 2) 1) = true := by decide +kernel
theorem eL_law_1263 : dx cL_law 1263 (.istore 6) 2 1265 := ⟨zd_c (o := 1250) (p := 13) zh_1250 (zc_1 (zc_1 (zc_1 (zc_1 (zc_1 (zc_1 (zc_1 (zc_1 (zc_1 zb_1263))))))))), rfl⟩
theorem eL_law_1265 : dx cL_law 1265 (.aload_n 2) 1 1266 := ⟨zd_c (o := 1250) (p := 15) zh_1250 (zc_2 (zc_1 (zc_1 (zc_1 (zc_1 (zc_1 (zc_1 (zc_1 (zc_1 zb_1263))))))))), rfl⟩
theorem eL_law_1266 : dx cL_law 1266 (.aload_n 0) 1 1267 := ⟨zd_c (o := 1250) (p := 16) zh_1250 (zc_2 (zc_1 (zc_1 (zc_1 (zc_1 (zc_1 (zc_1 (zc_1 zb_1263)))))))), rfl⟩
theorem eL_law_1267 : dx cL_law 1267 (.iload 5) 2 1269 := ⟨zd_c (o := 1250) (p := 17) zh_1250 (zc_2 (zc_1 (zc_1 (zc_1 (zc_1 (zc_1 (zc_1 zb_1263))))))), rfl⟩
theorem eL_law_1269 : dx cL_law 1269 (.iconst 1) 1 1270 := ⟨zd_c (o := 1250) (p := 19) zh_1250 (zc_2 (zc_1 (zc_1 (zc_1 (zc_1 (zc_1 zb_1263)))))), rfl⟩
theorem eL_law_1270 : dx cL_law 1270 (.iadd) 1 1271 := ⟨zd_c (o := 1250) (p := 20) zh_1250 (zc_2 (zc_1 (zc_1 (zc_1 (zc_1 zb_1263))))), rfl⟩
theorem eL_law_1271 : dx cL_law 1271 (.iaload) 1 1272 := ⟨zd_c (o := 1250) (p := 21) zh_1250 (zc_2 (zc_1 (zc_1 (zc_1 zb_1263)))), rfl⟩
theorem eL_law_1272 : dx cL_law 1272 (.aload_n 0) 1 1273 := ⟨zd_c (o := 1250) (p := 22) zh_1250 (zc_2 (zc_1 (zc_1 zb_1263))), rfl⟩
theorem eL_law_1273 : dx cL_law 1273 (.iload 5) 2 1275 := ⟨zd_c (o := 1250) (p := 23) zh_1250 (zc_2 (zc_1 zb_1263)), rfl⟩
theorem eL_law_1275 : dx cL_law 1275 (.iconst 2) 1 1276 := ⟨zd_c (o := 1250) (p := 25) zh_1250 (zc_2 zb_1263), rfl⟩
theorem zb_1276 : (zdC zp_1250 26 (.iadd) 1 && zdC zp_1250 27 (.iaload) 1 && zdC zp_1250 28 (.invokevirtual 217) 3 && zdC zp_1250 31 (.istore 7) 2 && zdC zp_1250 33 (.aload_n 2) 1 && zdC zp_1250 34 (.invokevirtual 145) 3 && zdC zp_1250 37 (.iload 6) 2 && zdC zp_1250 39 (.if_icmp .eq 5) 3 && zdC zp_1250 42 (.iconst 0) 1 && zdC zp_1250 43 (.ireturn) 1) = true := by decide +kernel
theorem eL_law_1276 : dx cL_law 1276 (.iadd) 1 1277 := ⟨zd_c (o := 1250) (p := 26) zh_1250 (zc_1 (zc_1 (zc_1 (zc_1 (zc_1 (zc_1 (zc_1 (zc_1 (zc_1 zb_1276))))))))), rfl⟩
theorem eL_law_1277 : dx cL_law 1277 (.iaload) 1 1278 := ⟨zd_c (o := 1250) (p := 27) zh_1250 (zc_2 (zc_1 (zc_1 (zc_1 (zc_1 (zc_1 (zc_1 (zc_1 (zc_1 zb_1276))))))))), rfl⟩
theorem eL_law_1278 : dx cL_law 1278 (.invokevirtual 217) 3 1281 := ⟨zd_c (o := 1250) (p := 28) zh_1250 (zc_2 (zc_1 (zc_1 (zc_1 (zc_1 (zc_1 (zc_1 (zc_1 zb_1276)))))))), rfl⟩
theorem eL_law_1281 : dx cL_law 1281 (.istore 7) 2 1283 := ⟨zd_c (o := 1250) (p := 31) zh_1250 (zc_2 (zc_1 (zc_1 (zc_1 (zc_1 (zc_1 (zc_1 zb_1276))))))), rfl⟩
theorem eL_law_1283 : dx cL_law 1283 (.aload_n 2) 1 1284 := ⟨zd_c (o := 1250) (p := 33) zh_1250 (zc_2 (zc_1 (zc_1 (zc_1 (zc_1 (zc_1 zb_1276)))))), rfl⟩
theorem eL_law_1284 : dx cL_law 1284 (.invokevirtual 145) 3 1287 := ⟨zd_c (o := 1250) (p := 34) zh_1250 (zc_2 (zc_1 (zc_1 (zc_1 (zc_1 zb_1276))))), rfl⟩
theorem eL_law_1287 : dx cL_law 1287 (.iload 6) 2 1289 := ⟨zd_c (o := 1250) (p := 37) zh_1250 (zc_2 (zc_1 (zc_1 (zc_1 zb_1276)))), rfl⟩
theorem eL_law_1289 : dx cL_law 1289 (.if_icmp .eq 5) 3 1292 := ⟨zd_c (o := 1250) (p := 39) zh_1250 (zc_2 (zc_1 (zc_1 zb_1276))), rfl⟩
theorem eL_law_1292 : dx cL_law 1292 (.iconst 0) 1 1293 := ⟨zd_c (o := 1250) (p := 42) zh_1250 (zc_2 (zc_1 zb_1276)), rfl⟩
theorem eL_law_1293 : dx cL_law 1293 (.ireturn) 1 1294 := ⟨zd_c (o := 1250) (p := 43) zh_1250 (zc_2 zb_1276), rfl⟩
theorem zb_1294 : (zdC zp_1250 44 (.iload 6) 2 && zdC zp_1250 46 (.ifCond .ne 15) 3 && zdC zp_1250 49 (.aload_n 3) 1 && zdC zp_1250 50 (.iconst 0) 1 && zdC zp_1250 51 (.laload) 1 && zdC zp_1250 52 (.iload 7) 2 && zdC zp_1250 54 (.i2l) 1 && zdC zp_1250 55 (.lcmp) 1 && zdC zp_1250 56 (.ifCond .eq 5) 3 && zdC zp_1250 59 (.iconst 0) 1) = true := by decide +kernel
theorem eL_law_1294 : dx cL_law 1294 (.iload 6) 2 1296 := ⟨zd_c (o := 1250) (p := 44) zh_1250 (zc_1 (zc_1 (zc_1 (zc_1 (zc_1 (zc_1 (zc_1 (zc_1 (zc_1 zb_1294))))))))), rfl⟩
theorem eL_law_1296 : dx cL_law 1296 (.ifCond .ne 15) 3 1299 := ⟨zd_c (o := 1250) (p := 46) zh_1250 (zc_2 (zc_1 (zc_1 (zc_1 (zc_1 (zc_1 (zc_1 (zc_1 (zc_1 zb_1294))))))))), rfl⟩
theorem eL_law_1299 : dx cL_law 1299 (.aload_n 3) 1 1300 := ⟨zd_c (o := 1250) (p := 49) zh_1250 (zc_2 (zc_1 (zc_1 (zc_1 (zc_1 (zc_1 (zc_1 (zc_1 zb_1294)))))))), rfl⟩
theorem eL_law_1300 : dx cL_law 1300 (.iconst 0) 1 1301 := ⟨zd_c (o := 1250) (p := 50) zh_1250 (zc_2 (zc_1 (zc_1 (zc_1 (zc_1 (zc_1 (zc_1 zb_1294))))))), rfl⟩
theorem eL_law_1301 : dx cL_law 1301 (.laload) 1 1302 := ⟨zd_c (o := 1250) (p := 51) zh_1250 (zc_2 (zc_1 (zc_1 (zc_1 (zc_1 (zc_1 zb_1294)))))), rfl⟩
theorem eL_law_1302 : dx cL_law 1302 (.iload 7) 2 1304 := ⟨zd_c (o := 1250) (p := 52) zh_1250 (zc_2 (zc_1 (zc_1 (zc_1 (zc_1 zb_1294))))), rfl⟩
theorem eL_law_1304 : dx cL_law 1304 (.i2l) 1 1305 := ⟨zd_c (o := 1250) (p := 54) zh_1250 (zc_2 (zc_1 (zc_1 (zc_1 zb_1294)))), rfl⟩
theorem eL_law_1305 : dx cL_law 1305 (.lcmp) 1 1306 := ⟨zd_c (o := 1250) (p := 55) zh_1250 (zc_2 (zc_1 (zc_1 zb_1294))), rfl⟩
theorem eL_law_1306 : dx cL_law 1306 (.ifCond .eq 5) 3 1309 := ⟨zd_c (o := 1250) (p := 56) zh_1250 (zc_2 (zc_1 zb_1294)), rfl⟩
theorem eL_law_1309 : dx cL_law 1309 (.iconst 0) 1 1310 := ⟨zd_c (o := 1250) (p := 59) zh_1250 (zc_2 zb_1294), rfl⟩
def zp_1310 : ByteArray := ⟨#[0xac, 0xa7, 0x05, 0xc8, 0x2b, 0x2a, 0x15, 0x05, 0x04, 0x60, 0x2e, 0x2a, 0x15, 0x05, 0x05, 0x60, 0x2e, 0x2d, 0xb8, 0x00, 0xda, 0x36, 0x06, 0x2c, 0x2a, 0x15, 0x05, 0x04, 0x60, 0x2e, 0x2a, 0x15, 0x05, 0x05, 0x60, 0x2e, 0xb6, 0x00, 0xdc, 0x36, 0x07, 0x2c, 0xb6, 0x00, 0x91, 0x15, 0x06, 0x9f, 0x00, 0x05, 0x03, 0xac, 0x15, 0x06, 0x9a, 0x00, 0x0f, 0x2d, 0x03, 0x2f]⟩
theorem zh_1310 : SubC cL_law zp_1310 1310 := sub_of (n := 60) (by decide +kernel)
theorem zb_1310 : (zdC zp_1310 0 (.ireturn) 1 && zdC zp_1310 1 (.goto 1480) 3 && zdC zp_1310 4 (.aload_n 1) 1 && zdC zp_1310 5 (.aload_n 0) 1 && zdC zp_1310 6 (.iload 5) 2 && zdC zp_1310 8 (.iconst 1) 1 && zdC zp_1310 9 (.iadd) 1 && zdC zp_1310 10 (.iaload) 1 && zdC zp_1310 11 (.aload_n 0) 1 && zdC zp_1310 12 (.iload 5) 2) = true := by decide +kernel
theorem eL_law_1310 : dx cL_law 1310 (.ireturn) 1 1311 := ⟨zd_c (o := 1310) (p := 0) zh_1310 (zc_1 (zc_1 (zc_1 (zc_1 (zc_1 (zc_1 (zc_1 (zc_1 (zc_1 zb_1310))))))))), rfl⟩
theorem eL_law_1311 : dx cL_law 1311 (.goto 1480) 3 1314 := ⟨zd_c (o := 1310) (p := 1) zh_1310 (zc_2 (zc_1 (zc_1 (zc_1 (zc_1 (zc_1 (zc_1 (zc_1 (zc_1 zb_1310))))))))), rfl⟩
theorem eL_law_1314 : dx cL_law 1314 (.aload_n 1) 1 1315 := ⟨zd_c (o := 1310) (p := 4) zh_1310 (zc_2 (zc_1 (zc_1 (zc_1 (zc_1 (zc_1 (zc_1 (zc_1 zb_1310)))))))), rfl⟩
theorem eL_law_1315 : dx cL_law 1315 (.aload_n 0) 1 1316 := ⟨zd_c (o := 1310) (p := 5) zh_1310 (zc_2 (zc_1 (zc_1 (zc_1 (zc_1 (zc_1 (zc_1 zb_1310))))))), rfl⟩
theorem eL_law_1316 : dx cL_law 1316 (.iload 5) 2 1318 := ⟨zd_c (o := 1310) (p := 6) zh_1310 (zc_2 (zc_1 (zc_1 (zc_1 (zc_1 (zc_1 zb_1310)))))), rfl⟩
theorem eL_law_1318 : dx cL_law 1318 (.iconst 1) 1 1319 := ⟨zd_c (o := 1310) (p := 8) zh_1310 (zc_2 (zc_1 (zc_1 (zc_1 (zc_1 zb_1310))))), rfl⟩
theorem eL_law_1319 : dx cL_law 1319 (.iadd) 1 1320 := ⟨zd_c (o := 1310) (p := 9) zh_1310 (zc_2 (zc_1 (zc_1 (zc_1 zb_1310)))), rfl⟩
theorem eL_law_1320 : dx cL_law 1320 (.iaload) 1 1321 := ⟨zd_c (o := 1310) (p := 10) zh_1310 (zc_2 (zc_1 (zc_1 zb_1310))), rfl⟩
theorem eL_law_1321 : dx cL_law 1321 (.aload_n 0) 1 1322 := ⟨zd_c (o := 1310) (p := 11) zh_1310 (zc_2 (zc_1 zb_1310)), rfl⟩
theorem eL_law_1322 : dx cL_law 1322 (.iload 5) 2 1324 := ⟨zd_c (o := 1310) (p := 12) zh_1310 (zc_2 zb_1310), rfl⟩
theorem zb_1324 : (zdC zp_1310 14 (.iconst 2) 1 && zdC zp_1310 15 (.iadd) 1 && zdC zp_1310 16 (.iaload) 1 && zdC zp_1310 17 (.aload_n 3) 1 && zdC zp_1310 18 (.invokestatic 218) 3 && zdC zp_1310 21 (.istore 6) 2 && zdC zp_1310 23 (.aload_n 2) 1 && zdC zp_1310 24 (.aload_n 0) 1 && zdC zp_1310 25 (.iload 5) 2 && zdC zp_1310 27 (.iconst 1) 1) = true := by decide +kernel
theorem eL_law_1324 : dx cL_law 1324 (.iconst 2) 1 1325 := ⟨zd_c (o := 1310) (p := 14) zh_1310 (zc_1 (zc_1 (zc_1 (zc_1 (zc_1 (zc_1 (zc_1 (zc_1 (zc_1 zb_1324))))))))), rfl⟩
theorem eL_law_1325 : dx cL_law 1325 (.iadd) 1 1326 := ⟨zd_c (o := 1310) (p := 15) zh_1310 (zc_2 (zc_1 (zc_1 (zc_1 (zc_1 (zc_1 (zc_1 (zc_1 (zc_1 zb_1324))))))))), rfl⟩
theorem eL_law_1326 : dx cL_law 1326 (.iaload) 1 1327 := ⟨zd_c (o := 1310) (p := 16) zh_1310 (zc_2 (zc_1 (zc_1 (zc_1 (zc_1 (zc_1 (zc_1 (zc_1 zb_1324)))))))), rfl⟩
theorem eL_law_1327 : dx cL_law 1327 (.aload_n 3) 1 1328 := ⟨zd_c (o := 1310) (p := 17) zh_1310 (zc_2 (zc_1 (zc_1 (zc_1 (zc_1 (zc_1 (zc_1 zb_1324))))))), rfl⟩
theorem eL_law_1328 : dx cL_law 1328 (.invokestatic 218) 3 1331 := ⟨zd_c (o := 1310) (p := 18) zh_1310 (zc_2 (zc_1 (zc_1 (zc_1 (zc_1 (zc_1 zb_1324)))))), rfl⟩
theorem eL_law_1331 : dx cL_law 1331 (.istore 6) 2 1333 := ⟨zd_c (o := 1310) (p := 21) zh_1310 (zc_2 (zc_1 (zc_1 (zc_1 (zc_1 zb_1324))))), rfl⟩
theorem eL_law_1333 : dx cL_law 1333 (.aload_n 2) 1 1334 := ⟨zd_c (o := 1310) (p := 23) zh_1310 (zc_2 (zc_1 (zc_1 (zc_1 zb_1324)))), rfl⟩
theorem eL_law_1334 : dx cL_law 1334 (.aload_n 0) 1 1335 := ⟨zd_c (o := 1310) (p := 24) zh_1310 (zc_2 (zc_1 (zc_1 zb_1324))), rfl⟩
theorem eL_law_1335 : dx cL_law 1335 (.iload 5) 2 1337 := ⟨zd_c (o := 1310) (p := 25) zh_1310 (zc_2 (zc_1 zb_1324)), rfl⟩
theorem eL_law_1337 : dx cL_law 1337 (.iconst 1) 1 1338 := ⟨zd_c (o := 1310) (p := 27) zh_1310 (zc_2 zb_1324), rfl⟩
theorem zb_1338 : (zdC zp_1310 28 (.iadd) 1 && zdC zp_1310 29 (.iaload) 1 && zdC zp_1310 30 (.aload_n 0) 1 && zdC zp_1310 31 (.iload 5) 2 && zdC zp_1310 33 (.iconst 2) 1 && zdC zp_1310 34 (.iadd) 1 && zdC zp_1310 35 (.iaload) 1 && zdC zp_1310 36 (.invokevirtual 220) 3 && zdC zp_1310 39 (.istore 7) 2 && zdC zp_1310 41 (.aload_n 2) 1) = true := by decide +kernel
theorem eL_law_1338 : dx cL_law 1338 (.iadd) 1 1339 := ⟨zd_c (o := 1310) (p := 28) zh_1310 (zc_1 (zc_1 (zc_1 (zc_1 (zc_1 (zc_1 (zc_1 (zc_1 (zc_1 zb_1338))))))))), rfl⟩
theorem eL_law_1339 : dx cL_law 1339 (.iaload) 1 1340 := ⟨zd_c (o := 1310) (p := 29) zh_1310 (zc_2 (zc_1 (zc_1 (zc_1 (zc_1 (zc_1 (zc_1 (zc_1 (zc_1 zb_1338))))))))), rfl⟩
theorem eL_law_1340 : dx cL_law 1340 (.aload_n 0) 1 1341 := ⟨zd_c (o := 1310) (p := 30) zh_1310 (zc_2 (zc_1 (zc_1 (zc_1 (zc_1 (zc_1 (zc_1 (zc_1 zb_1338)))))))), rfl⟩
theorem eL_law_1341 : dx cL_law 1341 (.iload 5) 2 1343 := ⟨zd_c (o := 1310) (p := 31) zh_1310 (zc_2 (zc_1 (zc_1 (zc_1 (zc_1 (zc_1 (zc_1 zb_1338))))))), rfl⟩
theorem eL_law_1343 : dx cL_law 1343 (.iconst 2) 1 1344 := ⟨zd_c (o := 1310) (p := 33) zh_1310 (zc_2 (zc_1 (zc_1 (zc_1 (zc_1 (zc_1 zb_1338)))))), rfl⟩
theorem eL_law_1344 : dx cL_law 1344 (.iadd) 1 1345 := ⟨zd_c (o := 1310) (p := 34) zh_1310 (zc_2 (zc_1 (zc_1 (zc_1 (zc_1 zb_1338))))), rfl⟩
theorem eL_law_1345 : dx cL_law 1345 (.iaload) 1 1346 := ⟨zd_c (o := 1310) (p := 35) zh_1310 (zc_2 (zc_1 (zc_1 (zc_1 zb_1338)))), rfl⟩
theorem eL_law_1346 : dx cL_law 1346 (.invokevirtual 220) 3 1349 := ⟨zd_c (o := 1310) (p := 36) zh_1310 (zc_2 (zc_1 (zc_1 zb_1338))), rfl⟩
theorem eL_law_1349 : dx cL_law 1349 (.istore 7) 2 1351 := ⟨zd_c (o := 1310) (p := 39) zh_1310 (zc_2 (zc_1 zb_1338)), rfl⟩
theorem eL_law_1351 : dx cL_law 1351 (.aload_n 2) 1 1352 := ⟨zd_c (o := 1310) (p := 41) zh_1310 (zc_2 zb_1338), rfl⟩
theorem zb_1352 : (zdC zp_1310 42 (.invokevirtual 145) 3 && zdC zp_1310 45 (.iload 6) 2 && zdC zp_1310 47 (.if_icmp .eq 5) 3 && zdC zp_1310 50 (.iconst 0) 1 && zdC zp_1310 51 (.ireturn) 1 && zdC zp_1310 52 (.iload 6) 2 && zdC zp_1310 54 (.ifCond .ne 15) 3 && zdC zp_1310 57 (.aload_n 3) 1 && zdC zp_1310 58 (.iconst 0) 1 && zdC zp_1310 59 (.laload) 1) = true := by decide +kernel
theorem eL_law_1352 : dx cL_law 1352 (.invokevirtual 145) 3 1355 := ⟨zd_c (o := 1310) (p := 42) zh_1310 (zc_1 (zc_1 (zc_1 (zc_1 (zc_1 (zc_1 (zc_1 (zc_1 (zc_1 zb_1352))))))))), rfl⟩
theorem eL_law_1355 : dx cL_law 1355 (.iload 6) 2 1357 := ⟨zd_c (o := 1310) (p := 45) zh_1310 (zc_2 (zc_1 (zc_1 (zc_1 (zc_1 (zc_1 (zc_1 (zc_1 (zc_1 zb_1352))))))))), rfl⟩
theorem eL_law_1357 : dx cL_law 1357 (.if_icmp .eq 5) 3 1360 := ⟨zd_c (o := 1310) (p := 47) zh_1310 (zc_2 (zc_1 (zc_1 (zc_1 (zc_1 (zc_1 (zc_1 (zc_1 zb_1352)))))))), rfl⟩
theorem eL_law_1360 : dx cL_law 1360 (.iconst 0) 1 1361 := ⟨zd_c (o := 1310) (p := 50) zh_1310 (zc_2 (zc_1 (zc_1 (zc_1 (zc_1 (zc_1 (zc_1 zb_1352))))))), rfl⟩
theorem eL_law_1361 : dx cL_law 1361 (.ireturn) 1 1362 := ⟨zd_c (o := 1310) (p := 51) zh_1310 (zc_2 (zc_1 (zc_1 (zc_1 (zc_1 (zc_1 zb_1352)))))), rfl⟩
theorem eL_law_1362 : dx cL_law 1362 (.iload 6) 2 1364 := ⟨zd_c (o := 1310) (p := 52) zh_1310 (zc_2 (zc_1 (zc_1 (zc_1 (zc_1 zb_1352))))), rfl⟩
theorem eL_law_1364 : dx cL_law 1364 (.ifCond .ne 15) 3 1367 := ⟨zd_c (o := 1310) (p := 54) zh_1310 (zc_2 (zc_1 (zc_1 (zc_1 zb_1352)))), rfl⟩
theorem eL_law_1367 : dx cL_law 1367 (.aload_n 3) 1 1368 := ⟨zd_c (o := 1310) (p := 57) zh_1310 (zc_2 (zc_1 (zc_1 zb_1352))), rfl⟩
theorem eL_law_1368 : dx cL_law 1368 (.iconst 0) 1 1369 := ⟨zd_c (o := 1310) (p := 58) zh_1310 (zc_2 (zc_1 zb_1352)), rfl⟩
theorem eL_law_1369 : dx cL_law 1369 (.laload) 1 1370 := ⟨zd_c (o := 1310) (p := 59) zh_1310 (zc_2 zb_1352), rfl⟩
def zp_1370 : ByteArray := ⟨#[0x15, 0x07, 0x85, 0x94, 0x99, 0x00, 0x05, 0x03, 0xac, 0xa7, 0x05, 0x84, 0x2b, 0x2a, 0x15, 0x05, 0x04, 0x60, 0x2e, 0x2d, 0xb8, 0x00, 0xdd, 0x36, 0x06, 0x2c, 0x2a, 0x15, 0x05, 0x04, 0x60, 0x2e, 0xb6, 0x00, 0xdf, 0x36, 0x07, 0x2c, 0xb6, 0x00, 0x91, 0x15, 0x06, 0x9f, 0x00, 0x05, 0x03, 0xac, 0x15, 0x06, 0x9a, 0x00, 0x0f, 0x2d, 0x03, 0x2f, 0x15, 0x07, 0x85, 0x94, 0x99, 0x00, 0x05, 0x03]⟩
theorem zh_1370 : SubC cL_law zp_1370 1370 := sub_of (n := 64) (by decide +kernel)
theorem zb_1370 : (zdC zp_1370 0 (.iload 7) 2 && zdC zp_1370 2 (.i2l) 1 && zdC zp_1370 3 (.lcmp) 1 && zdC zp_1370 4 (.ifCond .eq 5) 3 && zdC zp_1370 7 (.iconst 0) 1 && zdC zp_1370 8 (.ireturn) 1 && zdC zp_1370 9 (.goto 1412) 3 && zdC zp_1370 12 (.aload_n 1) 1 && zdC zp_1370 13 (.aload_n 0) 1 && zdC zp_1370 14 (.iload 5) 2) = true := by decide +kernel
theorem eL_law_1370 : dx cL_law 1370 (.iload 7) 2 1372 := ⟨zd_c (o := 1370) (p := 0) zh_1370 (zc_1 (zc_1 (zc_1 (zc_1 (zc_1 (zc_1 (zc_1 (zc_1 (zc_1 zb_1370))))))))), rfl⟩
theorem eL_law_1372 : dx cL_law 1372 (.i2l) 1 1373 := ⟨zd_c (o := 1370) (p := 2) zh_1370 (zc_2 (zc_1 (zc_1 (zc_1 (zc_1 (zc_1 (zc_1 (zc_1 (zc_1 zb_1370))))))))), rfl⟩
theorem eL_law_1373 : dx cL_law 1373 (.lcmp) 1 1374 := ⟨zd_c (o := 1370) (p := 3) zh_1370 (zc_2 (zc_1 (zc_1 (zc_1 (zc_1 (zc_1 (zc_1 (zc_1 zb_1370)))))))), rfl⟩
theorem eL_law_1374 : dx cL_law 1374 (.ifCond .eq 5) 3 1377 := ⟨zd_c (o := 1370) (p := 4) zh_1370 (zc_2 (zc_1 (zc_1 (zc_1 (zc_1 (zc_1 (zc_1 zb_1370))))))), rfl⟩
theorem eL_law_1377 : dx cL_law 1377 (.iconst 0) 1 1378 := ⟨zd_c (o := 1370) (p := 7) zh_1370 (zc_2 (zc_1 (zc_1 (zc_1 (zc_1 (zc_1 zb_1370)))))), rfl⟩
theorem eL_law_1378 : dx cL_law 1378 (.ireturn) 1 1379 := ⟨zd_c (o := 1370) (p := 8) zh_1370 (zc_2 (zc_1 (zc_1 (zc_1 (zc_1 zb_1370))))), rfl⟩
theorem eL_law_1379 : dx cL_law 1379 (.goto 1412) 3 1382 := ⟨zd_c (o := 1370) (p := 9) zh_1370 (zc_2 (zc_1 (zc_1 (zc_1 zb_1370)))), rfl⟩
theorem eL_law_1382 : dx cL_law 1382 (.aload_n 1) 1 1383 := ⟨zd_c (o := 1370) (p := 12) zh_1370 (zc_2 (zc_1 (zc_1 zb_1370))), rfl⟩
theorem eL_law_1383 : dx cL_law 1383 (.aload_n 0) 1 1384 := ⟨zd_c (o := 1370) (p := 13) zh_1370 (zc_2 (zc_1 zb_1370)), rfl⟩
theorem eL_law_1384 : dx cL_law 1384 (.iload 5) 2 1386 := ⟨zd_c (o := 1370) (p := 14) zh_1370 (zc_2 zb_1370), rfl⟩
theorem zb_1386 : (zdC zp_1370 16 (.iconst 1) 1 && zdC zp_1370 17 (.iadd) 1 && zdC zp_1370 18 (.iaload) 1 && zdC zp_1370 19 (.aload_n 3) 1 && zdC zp_1370 20 (.invokestatic 221) 3 && zdC zp_1370 23 (.istore 6) 2 && zdC zp_1370 25 (.aload_n 2) 1 && zdC zp_1370 26 (.aload_n 0) 1 && zdC zp_1370 27 (.iload 5) 2 && zdC zp_1370 29 (.iconst 1) 1) = true := by decide +kernel
theorem eL_law_1386 : dx cL_law 1386 (.iconst 1) 1 1387 := ⟨zd_c (o := 1370) (p := 16) zh_1370 (zc_1 (zc_1 (zc_1 (zc_1 (zc_1 (zc_1 (zc_1 (zc_1 (zc_1 zb_1386))))))))), rfl⟩
theorem eL_law_1387 : dx cL_law 1387 (.iadd) 1 1388 := ⟨zd_c (o := 1370) (p := 17) zh_1370 (zc_2 (zc_1 (zc_1 (zc_1 (zc_1 (zc_1 (zc_1 (zc_1 (zc_1 zb_1386))))))))), rfl⟩
theorem eL_law_1388 : dx cL_law 1388 (.iaload) 1 1389 := ⟨zd_c (o := 1370) (p := 18) zh_1370 (zc_2 (zc_1 (zc_1 (zc_1 (zc_1 (zc_1 (zc_1 (zc_1 zb_1386)))))))), rfl⟩
theorem eL_law_1389 : dx cL_law 1389 (.aload_n 3) 1 1390 := ⟨zd_c (o := 1370) (p := 19) zh_1370 (zc_2 (zc_1 (zc_1 (zc_1 (zc_1 (zc_1 (zc_1 zb_1386))))))), rfl⟩
theorem eL_law_1390 : dx cL_law 1390 (.invokestatic 221) 3 1393 := ⟨zd_c (o := 1370) (p := 20) zh_1370 (zc_2 (zc_1 (zc_1 (zc_1 (zc_1 (zc_1 zb_1386)))))), rfl⟩
theorem eL_law_1393 : dx cL_law 1393 (.istore 6) 2 1395 := ⟨zd_c (o := 1370) (p := 23) zh_1370 (zc_2 (zc_1 (zc_1 (zc_1 (zc_1 zb_1386))))), rfl⟩
theorem eL_law_1395 : dx cL_law 1395 (.aload_n 2) 1 1396 := ⟨zd_c (o := 1370) (p := 25) zh_1370 (zc_2 (zc_1 (zc_1 (zc_1 zb_1386)))), rfl⟩
theorem eL_law_1396 : dx cL_law 1396 (.aload_n 0) 1 1397 := ⟨zd_c (o := 1370) (p := 26) zh_1370 (zc_2 (zc_1 (zc_1 zb_1386))), rfl⟩
theorem eL_law_1397 : dx cL_law 1397 (.iload 5) 2 1399 := ⟨zd_c (o := 1370) (p := 27) zh_1370 (zc_2 (zc_1 zb_1386)), rfl⟩
theorem eL_law_1399 : dx cL_law 1399 (.iconst 1) 1 1400 := ⟨zd_c (o := 1370) (p := 29) zh_1370 (zc_2 zb_1386), rfl⟩
theorem zb_1400 : (zdC zp_1370 30 (.iadd) 1 && zdC zp_1370 31 (.iaload) 1 && zdC zp_1370 32 (.invokevirtual 223) 3 && zdC zp_1370 35 (.istore 7) 2 && zdC zp_1370 37 (.aload_n 2) 1 && zdC zp_1370 38 (.invokevirtual 145) 3 && zdC zp_1370 41 (.iload 6) 2 && zdC zp_1370 43 (.if_icmp .eq 5) 3 && zdC zp_1370 46 (.iconst 0) 1 && zdC zp_1370 47 (.ireturn) 1) = true := by decide +kernel
theorem eL_law_1400 : dx cL_law 1400 (.iadd) 1 1401 := ⟨zd_c (o := 1370) (p := 30) zh_1370 (zc_1 (zc_1 (zc_1 (zc_1 (zc_1 (zc_1 (zc_1 (zc_1 (zc_1 zb_1400))))))))), rfl⟩
theorem eL_law_1401 : dx cL_law 1401 (.iaload) 1 1402 := ⟨zd_c (o := 1370) (p := 31) zh_1370 (zc_2 (zc_1 (zc_1 (zc_1 (zc_1 (zc_1 (zc_1 (zc_1 (zc_1 zb_1400))))))))), rfl⟩
theorem eL_law_1402 : dx cL_law 1402 (.invokevirtual 223) 3 1405 := ⟨zd_c (o := 1370) (p := 32) zh_1370 (zc_2 (zc_1 (zc_1 (zc_1 (zc_1 (zc_1 (zc_1 (zc_1 zb_1400)))))))), rfl⟩
theorem eL_law_1405 : dx cL_law 1405 (.istore 7) 2 1407 := ⟨zd_c (o := 1370) (p := 35) zh_1370 (zc_2 (zc_1 (zc_1 (zc_1 (zc_1 (zc_1 (zc_1 zb_1400))))))), rfl⟩
theorem eL_law_1407 : dx cL_law 1407 (.aload_n 2) 1 1408 := ⟨zd_c (o := 1370) (p := 37) zh_1370 (zc_2 (zc_1 (zc_1 (zc_1 (zc_1 (zc_1 zb_1400)))))), rfl⟩
theorem eL_law_1408 : dx cL_law 1408 (.invokevirtual 145) 3 1411 := ⟨zd_c (o := 1370) (p := 38) zh_1370 (zc_2 (zc_1 (zc_1 (zc_1 (zc_1 zb_1400))))), rfl⟩
theorem eL_law_1411 : dx cL_law 1411 (.iload 6) 2 1413 := ⟨zd_c (o := 1370) (p := 41) zh_1370 (zc_2 (zc_1 (zc_1 (zc_1 zb_1400)))), rfl⟩
theorem eL_law_1413 : dx cL_law 1413 (.if_icmp .eq 5) 3 1416 := ⟨zd_c (o := 1370) (p := 43) zh_1370 (zc_2 (zc_1 (zc_1 zb_1400))), rfl⟩
theorem eL_law_1416 : dx cL_law 1416 (.iconst 0) 1 1417 := ⟨zd_c (o := 1370) (p := 46) zh_1370 (zc_2 (zc_1 zb_1400)), rfl⟩
theorem eL_law_1417 : dx cL_law 1417 (.ireturn) 1 1418 := ⟨zd_c (o := 1370) (p := 47) zh_1370 (zc_2 zb_1400), rfl⟩
theorem zb_1418 : (zdC zp_1370 48 (.iload 6) 2 && zdC zp_1370 50 (.ifCond .ne 15) 3 && zdC zp_1370 53 (.aload_n 3) 1 && zdC zp_1370 54 (.iconst 0) 1 && zdC zp_1370 55 (.laload) 1 && zdC zp_1370 56 (.iload 7) 2 && zdC zp_1370 58 (.i2l) 1 && zdC zp_1370 59 (.lcmp) 1 && zdC zp_1370 60 (.ifCond .eq 5) 3 && zdC zp_1370 63 (.iconst 0) 1) = true := by decide +kernel
theorem eL_law_1418 : dx cL_law 1418 (.iload 6) 2 1420 := ⟨zd_c (o := 1370) (p := 48) zh_1370 (zc_1 (zc_1 (zc_1 (zc_1 (zc_1 (zc_1 (zc_1 (zc_1 (zc_1 zb_1418))))))))), rfl⟩
theorem eL_law_1420 : dx cL_law 1420 (.ifCond .ne 15) 3 1423 := ⟨zd_c (o := 1370) (p := 50) zh_1370 (zc_2 (zc_1 (zc_1 (zc_1 (zc_1 (zc_1 (zc_1 (zc_1 (zc_1 zb_1418))))))))), rfl⟩
theorem eL_law_1423 : dx cL_law 1423 (.aload_n 3) 1 1424 := ⟨zd_c (o := 1370) (p := 53) zh_1370 (zc_2 (zc_1 (zc_1 (zc_1 (zc_1 (zc_1 (zc_1 (zc_1 zb_1418)))))))), rfl⟩
theorem eL_law_1424 : dx cL_law 1424 (.iconst 0) 1 1425 := ⟨zd_c (o := 1370) (p := 54) zh_1370 (zc_2 (zc_1 (zc_1 (zc_1 (zc_1 (zc_1 (zc_1 zb_1418))))))), rfl⟩
theorem eL_law_1425 : dx cL_law 1425 (.laload) 1 1426 := ⟨zd_c (o := 1370) (p := 55) zh_1370 (zc_2 (zc_1 (zc_1 (zc_1 (zc_1 (zc_1 zb_1418)))))), rfl⟩
theorem eL_law_1426 : dx cL_law 1426 (.iload 7) 2 1428 := ⟨zd_c (o := 1370) (p := 56) zh_1370 (zc_2 (zc_1 (zc_1 (zc_1 (zc_1 zb_1418))))), rfl⟩
theorem eL_law_1428 : dx cL_law 1428 (.i2l) 1 1429 := ⟨zd_c (o := 1370) (p := 58) zh_1370 (zc_2 (zc_1 (zc_1 (zc_1 zb_1418)))), rfl⟩
theorem eL_law_1429 : dx cL_law 1429 (.lcmp) 1 1430 := ⟨zd_c (o := 1370) (p := 59) zh_1370 (zc_2 (zc_1 (zc_1 zb_1418))), rfl⟩
theorem eL_law_1430 : dx cL_law 1430 (.ifCond .eq 5) 3 1433 := ⟨zd_c (o := 1370) (p := 60) zh_1370 (zc_2 (zc_1 zb_1418)), rfl⟩
theorem eL_law_1433 : dx cL_law 1433 (.iconst 0) 1 1434 := ⟨zd_c (o := 1370) (p := 63) zh_1370 (zc_2 zb_1418), rfl⟩
def zp_1434 : ByteArray := ⟨#[0xac, 0xa7, 0x05, 0x4c, 0x2b, 0xb6, 0x00, 0xe0, 0x2c, 0xb6, 0x00, 0xe3, 0x9f, 0x05, 0x41, 0x03, 0xac, 0x2b, 0xb6, 0x00, 0xe4, 0x2c, 0xb6, 0x00, 0xe7, 0x9f, 0x05, 0x34, 0x03, 0xac, 0x2b, 0x2a, 0x15, 0x05, 0x04, 0x60, 0x2e, 0x19, 0x04, 0xb8, 0x00, 0xe8, 0x36, 0x06, 0x2c, 0x2a, 0x15, 0x05, 0x04, 0x60, 0x2e, 0xb6, 0x00, 0xeb, 0x38, 0x07, 0x2c, 0xb6, 0x00, 0x91, 0x15, 0x06, 0x9f, 0x00, 0x05, 0x03, 0xac, 0x15, 0x06]⟩
theorem zh_1434 : SubC cL_law zp_1434 1434 := sub_of (n := 69) (by decide +kernel)
theorem zb_1434 : (zdC zp_1434 0 (.ireturn) 1 && zdC zp_1434 1 (.goto 1356) 3 && zdC zp_1434 4 (.aload_n 1) 1 && zdC zp_1434 5 (.invokevirtual 224) 3 && zdC zp_1434 8 (.aload_n 2) 1 && zdC zp_1434 9 (.invokevirtual 227) 3 && zdC zp_1434 12 (.if_icmp .eq 1345) 3 && zdC zp_1434 15 (.iconst 0) 1 && zdC zp_1434 16 (.ireturn) 1 && zdC zp_1434 17 (.aload_n 1) 1) = true := by decide +kernel
theorem eL_law_1434 : dx cL_law 1434 (.ireturn) 1 1435 := ⟨zd_c (o := 1434) (p := 0) zh_1434 (zc_1 (zc_1 (zc_1 (zc_1 (zc_1 (zc_1 (zc_1 (zc_1 (zc_1 zb_1434))))))))), rfl⟩
theorem eL_law_1435 : dx cL_law 1435 (.goto 1356) 3 1438 := ⟨zd_c (o := 1434) (p := 1) zh_1434 (zc_2 (zc_1 (zc_1 (zc_1 (zc_1 (zc_1 (zc_1 (zc_1 (zc_1 zb_1434))))))))), rfl⟩
theorem eL_law_1438 : dx cL_law 1438 (.aload_n 1) 1 1439 := ⟨zd_c (o := 1434) (p := 4) zh_1434 (zc_2 (zc_1 (zc_1 (zc_1 (zc_1 (zc_1 (zc_1 (zc_1 zb_1434)))))))), rfl⟩
theorem eL_law_1439 : dx cL_law 1439 (.invokevirtual 224) 3 1442 := ⟨zd_c (o := 1434) (p := 5) zh_1434 (zc_2 (zc_1 (zc_1 (zc_1 (zc_1 (zc_1 (zc_1 zb_1434))))))), rfl⟩
theorem eL_law_1442 : dx cL_law 1442 (.aload_n 2) 1 1443 := ⟨zd_c (o := 1434) (p := 8) zh_1434 (zc_2 (zc_1 (zc_1 (zc_1 (zc_1 (zc_1 zb_1434)))))), rfl⟩
theorem eL_law_1443 : dx cL_law 1443 (.invokevirtual 227) 3 1446 := ⟨zd_c (o := 1434) (p := 9) zh_1434 (zc_2 (zc_1 (zc_1 (zc_1 (zc_1 zb_1434))))), rfl⟩
theorem eL_law_1446 : dx cL_law 1446 (.if_icmp .eq 1345) 3 1449 := ⟨zd_c (o := 1434) (p := 12) zh_1434 (zc_2 (zc_1 (zc_1 (zc_1 zb_1434)))), rfl⟩
theorem eL_law_1449 : dx cL_law 1449 (.iconst 0) 1 1450 := ⟨zd_c (o := 1434) (p := 15) zh_1434 (zc_2 (zc_1 (zc_1 zb_1434))), rfl⟩
theorem eL_law_1450 : dx cL_law 1450 (.ireturn) 1 1451 := ⟨zd_c (o := 1434) (p := 16) zh_1434 (zc_2 (zc_1 zb_1434)), rfl⟩
theorem eL_law_1451 : dx cL_law 1451 (.aload_n 1) 1 1452 := ⟨zd_c (o := 1434) (p := 17) zh_1434 (zc_2 zb_1434), rfl⟩
theorem zb_1452 : (zdC zp_1434 18 (.invokevirtual 228) 3 && zdC zp_1434 21 (.aload_n 2) 1 && zdC zp_1434 22 (.invokevirtual 231) 3 && zdC zp_1434 25 (.if_icmp .eq 1332) 3 && zdC zp_1434 28 (.iconst 0) 1 && zdC zp_1434 29 (.ireturn) 1 && zdC zp_1434 30 (.aload_n 1) 1 && zdC zp_1434 31 (.aload_n 0) 1 && zdC zp_1434 32 (.iload 5) 2 && zdC zp_1434 34 (.iconst 1) 1) = true := by decide +kernel
theorem eL_law_1452 : dx cL_law 1452 (.invokevirtual 228) 3 1455 := ⟨zd_c (o := 1434) (p := 18) zh_1434 (zc_1 (zc_1 (zc_1 (zc_1 (zc_1 (zc_1 (zc_1 (zc_1 (zc_1 zb_1452))))))))), rfl⟩
theorem eL_law_1455 : dx cL_law 1455 (.aload_n 2) 1 1456 := ⟨zd_c (o := 1434) (p := 21) zh_1434 (zc_2 (zc_1 (zc_1 (zc_1 (zc_1 (zc_1 (zc_1 (zc_1 (zc_1 zb_1452))))))))), rfl⟩
theorem eL_law_1456 : dx cL_law 1456 (.invokevirtual 231) 3 1459 := ⟨zd_c (o := 1434) (p := 22) zh_1434 (zc_2 (zc_1 (zc_1 (zc_1 (zc_1 (zc_1 (zc_1 (zc_1 zb_1452)))))))), rfl⟩
theorem eL_law_1459 : dx cL_law 1459 (.if_icmp .eq 1332) 3 1462 := ⟨zd_c (o := 1434) (p := 25) zh_1434 (zc_2 (zc_1 (zc_1 (zc_1 (zc_1 (zc_1 (zc_1 zb_1452))))))), rfl⟩
theorem eL_law_1462 : dx cL_law 1462 (.iconst 0) 1 1463 := ⟨zd_c (o := 1434) (p := 28) zh_1434 (zc_2 (zc_1 (zc_1 (zc_1 (zc_1 (zc_1 zb_1452)))))), rfl⟩
theorem eL_law_1463 : dx cL_law 1463 (.ireturn) 1 1464 := ⟨zd_c (o := 1434) (p := 29) zh_1434 (zc_2 (zc_1 (zc_1 (zc_1 (zc_1 zb_1452))))), rfl⟩
theorem eL_law_1464 : dx cL_law 1464 (.aload_n 1) 1 1465 := ⟨zd_c (o := 1434) (p := 30) zh_1434 (zc_2 (zc_1 (zc_1 (zc_1 zb_1452)))), rfl⟩
theorem eL_law_1465 : dx cL_law 1465 (.aload_n 0) 1 1466 := ⟨zd_c (o := 1434) (p := 31) zh_1434 (zc_2 (zc_1 (zc_1 zb_1452))), rfl⟩
theorem eL_law_1466 : dx cL_law 1466 (.iload 5) 2 1468 := ⟨zd_c (o := 1434) (p := 32) zh_1434 (zc_2 (zc_1 zb_1452)), rfl⟩
theorem eL_law_1468 : dx cL_law 1468 (.iconst 1) 1 1469 := ⟨zd_c (o := 1434) (p := 34) zh_1434 (zc_2 zb_1452), rfl⟩
theorem zb_1469 : (zdC zp_1434 35 (.iadd) 1 && zdC zp_1434 36 (.iaload) 1 && zdC zp_1434 37 (.aload 4) 2 && zdC zp_1434 39 (.invokestatic 232) 3 && zdC zp_1434 42 (.istore 6) 2 && zdC zp_1434 44 (.aload_n 2) 1 && zdC zp_1434 45 (.aload_n 0) 1 && zdC zp_1434 46 (.iload 5) 2 && zdC zp_1434 48 (.iconst 1) 1 && zdC zp_1434 49 (.iadd) 1) = true := by decide +kernel
theorem eL_law_1469 : dx cL_law 1469 (.iadd) 1 1470 := ⟨zd_c (o := 1434) (p := 35) zh_1434 (zc_1 (zc_1 (zc_1 (zc_1 (zc_1 (zc_1 (zc_1 (zc_1 (zc_1 zb_1469))))))))), rfl⟩
theorem eL_law_1470 : dx cL_law 1470 (.iaload) 1 1471 := ⟨zd_c (o := 1434) (p := 36) zh_1434 (zc_2 (zc_1 (zc_1 (zc_1 (zc_1 (zc_1 (zc_1 (zc_1 (zc_1 zb_1469))))))))), rfl⟩
theorem eL_law_1471 : dx cL_law 1471 (.aload 4) 2 1473 := ⟨zd_c (o := 1434) (p := 37) zh_1434 (zc_2 (zc_1 (zc_1 (zc_1 (zc_1 (zc_1 (zc_1 (zc_1 zb_1469)))))))), rfl⟩
theorem eL_law_1473 : dx cL_law 1473 (.invokestatic 232) 3 1476 := ⟨zd_c (o := 1434) (p := 39) zh_1434 (zc_2 (zc_1 (zc_1 (zc_1 (zc_1 (zc_1 (zc_1 zb_1469))))))), rfl⟩
theorem eL_law_1476 : dx cL_law 1476 (.istore 6) 2 1478 := ⟨zd_c (o := 1434) (p := 42) zh_1434 (zc_2 (zc_1 (zc_1 (zc_1 (zc_1 (zc_1 zb_1469)))))), rfl⟩
theorem eL_law_1478 : dx cL_law 1478 (.aload_n 2) 1 1479 := ⟨zd_c (o := 1434) (p := 44) zh_1434 (zc_2 (zc_1 (zc_1 (zc_1 (zc_1 zb_1469))))), rfl⟩
theorem eL_law_1479 : dx cL_law 1479 (.aload_n 0) 1 1480 := ⟨zd_c (o := 1434) (p := 45) zh_1434 (zc_2 (zc_1 (zc_1 (zc_1 zb_1469)))), rfl⟩
theorem eL_law_1480 : dx cL_law 1480 (.iload 5) 2 1482 := ⟨zd_c (o := 1434) (p := 46) zh_1434 (zc_2 (zc_1 (zc_1 zb_1469))), rfl⟩
theorem eL_law_1482 : dx cL_law 1482 (.iconst 1) 1 1483 := ⟨zd_c (o := 1434) (p := 48) zh_1434 (zc_2 (zc_1 zb_1469)), rfl⟩
theorem eL_law_1483 : dx cL_law 1483 (.iadd) 1 1484 := ⟨zd_c (o := 1434) (p := 49) zh_1434 (zc_2 zb_1469), rfl⟩
theorem zb_1484 : (zdC zp_1434 50 (.iaload) 1 && zdC zp_1434 51 (.invokevirtual 235) 3 && zdC zp_1434 54 (.fstore 7) 2 && zdC zp_1434 56 (.aload_n 2) 1 && zdC zp_1434 57 (.invokevirtual 145) 3 && zdC zp_1434 60 (.iload 6) 2 && zdC zp_1434 62 (.if_icmp .eq 5) 3 && zdC zp_1434 65 (.iconst 0) 1 && zdC zp_1434 66 (.ireturn) 1 && zdC zp_1434 67 (.iload 6) 2) = true := by decide +kernel
theorem eL_law_1484 : dx cL_law 1484 (.iaload) 1 1485 := ⟨zd_c (o := 1434) (p := 50) zh_1434 (zc_1 (zc_1 (zc_1 (zc_1 (zc_1 (zc_1 (zc_1 (zc_1 (zc_1 zb_1484))))))))), rfl⟩
theorem eL_law_1485 : dx cL_law 1485 (.invokevirtual 235) 3 1488 := ⟨zd_c (o := 1434) (p := 51) zh_1434 (zc_2 (zc_1 (zc_1 (zc_1 (zc_1 (zc_1 (zc_1 (zc_1 (zc_1 zb_1484))))))))), rfl⟩
theorem eL_law_1488 : dx cL_law 1488 (.fstore 7) 2 1490 := ⟨zd_c (o := 1434) (p := 54) zh_1434 (zc_2 (zc_1 (zc_1 (zc_1 (zc_1 (zc_1 (zc_1 (zc_1 zb_1484)))))))), rfl⟩
theorem eL_law_1490 : dx cL_law 1490 (.aload_n 2) 1 1491 := ⟨zd_c (o := 1434) (p := 56) zh_1434 (zc_2 (zc_1 (zc_1 (zc_1 (zc_1 (zc_1 (zc_1 zb_1484))))))), rfl⟩
theorem eL_law_1491 : dx cL_law 1491 (.invokevirtual 145) 3 1494 := ⟨zd_c (o := 1434) (p := 57) zh_1434 (zc_2 (zc_1 (zc_1 (zc_1 (zc_1 (zc_1 zb_1484)))))), rfl⟩
theorem eL_law_1494 : dx cL_law 1494 (.iload 6) 2 1496 := ⟨zd_c (o := 1434) (p := 60) zh_1434 (zc_2 (zc_1 (zc_1 (zc_1 (zc_1 zb_1484))))), rfl⟩
theorem eL_law_1496 : dx cL_law 1496 (.if_icmp .eq 5) 3 1499 := ⟨zd_c (o := 1434) (p := 62) zh_1434 (zc_2 (zc_1 (zc_1 (zc_1 zb_1484)))), rfl⟩
theorem eL_law_1499 : dx cL_law 1499 (.iconst 0) 1 1500 := ⟨zd_c (o := 1434) (p := 65) zh_1434 (zc_2 (zc_1 (zc_1 zb_1484))), rfl⟩
theorem eL_law_1500 : dx cL_law 1500 (.ireturn) 1 1501 := ⟨zd_c (o := 1434) (p := 66) zh_1434 (zc_2 (zc_1 zb_1484)), rfl⟩
theorem eL_law_1501 : dx cL_law 1501 (.iload 6) 2 1503 := ⟨zd_c (o := 1434) (p := 67) zh_1434 (zc_2 zb_1484), rfl⟩
def zp_1503 : ByteArray := ⟨#[0x9a, 0x00, 0x24, 0x19, 0x04, 0x03, 0x31, 0x17, 0x07, 0x8d, 0x97, 0x99, 0x00, 0x19, 0x19, 0x04, 0x03, 0x31, 0x19, 0x04, 0x03, 0x31, 0x97, 0x99, 0x00, 0x0b, 0x17, 0x07, 0x17, 0x07, 0x95, 0x9a, 0x00, 0x05, 0x03, 0xac, 0xa7, 0x04, 0xe4, 0x2b, 0x2a, 0x15, 0x05, 0x04, 0x60, 0x2e, 0x19, 0x04, 0xb8, 0x00, 0xec, 0x36, 0x06, 0x2c, 0x2a, 0x15, 0x05, 0x04, 0x60, 0x2e, 0xb6, 0x00, 0xee, 0x39, 0x07]⟩
theorem zh_1503 : SubC cL_law zp_1503 1503 := sub_of (n := 65) (by decide +kernel)
theorem zb_1503 : (zdC zp_1503 0 (.ifCond .ne 36) 3 && zdC zp_1503 3 (.aload 4) 2 && zdC zp_1503 5 (.iconst 0) 1 && zdC zp_1503 6 (.daload) 1 && zdC zp_1503 7 (.fload 7) 2 && zdC zp_1503 9 (.f2d) 1 && zdC zp_1503 10 (.dcmp .l) 1 && zdC zp_1503 11 (.ifCond .eq 25) 3 && zdC zp_1503 14 (.aload 4) 2 && zdC zp_1503 16 (.iconst 0) 1) = true := by decide +kernel
theorem eL_law_1503 : dx cL_law 1503 (.ifCond .ne 36) 3 1506 := ⟨zd_c (o := 1503) (p := 0) zh_1503 (zc_1 (zc_1 (zc_1 (zc_1 (zc_1 (zc_1 (zc_1 (zc_1 (zc_1 zb_1503))))))))), rfl⟩
theorem eL_law_1506 : dx cL_law 1506 (.aload 4) 2 1508 := ⟨zd_c (o := 1503) (p := 3) zh_1503 (zc_2 (zc_1 (zc_1 (zc_1 (zc_1 (zc_1 (zc_1 (zc_1 (zc_1 zb_1503))))))))), rfl⟩
theorem eL_law_1508 : dx cL_law 1508 (.iconst 0) 1 1509 := ⟨zd_c (o := 1503) (p := 5) zh_1503 (zc_2 (zc_1 (zc_1 (zc_1 (zc_1 (zc_1 (zc_1 (zc_1 zb_1503)))))))), rfl⟩
theorem eL_law_1509 : dx cL_law 1509 (.daload) 1 1510 := ⟨zd_c (o := 1503) (p := 6) zh_1503 (zc_2 (zc_1 (zc_1 (zc_1 (zc_1 (zc_1 (zc_1 zb_1503))))))), rfl⟩
theorem eL_law_1510 : dx cL_law 1510 (.fload 7) 2 1512 := ⟨zd_c (o := 1503) (p := 7) zh_1503 (zc_2 (zc_1 (zc_1 (zc_1 (zc_1 (zc_1 zb_1503)))))), rfl⟩
theorem eL_law_1512 : dx cL_law 1512 (.f2d) 1 1513 := ⟨zd_c (o := 1503) (p := 9) zh_1503 (zc_2 (zc_1 (zc_1 (zc_1 (zc_1 zb_1503))))), rfl⟩
theorem eL_law_1513 : dx cL_law 1513 (.dcmp .l) 1 1514 := ⟨zd_c (o := 1503) (p := 10) zh_1503 (zc_2 (zc_1 (zc_1 (zc_1 zb_1503)))), rfl⟩
theorem eL_law_1514 : dx cL_law 1514 (.ifCond .eq 25) 3 1517 := ⟨zd_c (o := 1503) (p := 11) zh_1503 (zc_2 (zc_1 (zc_1 zb_1503))), rfl⟩
theorem eL_law_1517 : dx cL_law 1517 (.aload 4) 2 1519 := ⟨zd_c (o := 1503) (p := 14) zh_1503 (zc_2 (zc_1 zb_1503)), rfl⟩
theorem eL_law_1519 : dx cL_law 1519 (.iconst 0) 1 1520 := ⟨zd_c (o := 1503) (p := 16) zh_1503 (zc_2 zb_1503), rfl⟩
theorem zb_1520 : (zdC zp_1503 17 (.daload) 1 && zdC zp_1503 18 (.aload 4) 2 && zdC zp_1503 20 (.iconst 0) 1 && zdC zp_1503 21 (.daload) 1 && zdC zp_1503 22 (.dcmp .l) 1 && zdC zp_1503 23 (.ifCond .eq 11) 3 && zdC zp_1503 26 (.fload 7) 2 && zdC zp_1503 28 (.fload 7) 2 && zdC zp_1503 30 (.fcmp .l) 1 && zdC zp_1503 31 (.ifCond .ne 5) 3) = true := by decide +kernel
theorem eL_law_1520 : dx cL_law 1520 (.daload) 1 1521 := ⟨zd_c (o := 1503) (p := 17) zh_1503 (zc_1 (zc_1 (zc_1 (zc_1 (zc_1 (zc_1 (zc_1 (zc_1 (zc_1 zb_1520))))))))), rfl⟩
theorem eL_law_1521 : dx cL_law 1521 (.aload 4) 2 1523 := ⟨zd_c (o := 1503) (p := 18) zh_1503 (zc_2 (zc_1 (zc_1 (zc_1 (zc_1 (zc_1 (zc_1 (zc_1 (zc_1 zb_1520))))))))), rfl⟩
theorem eL_law_1523 : dx cL_law 1523 (.iconst 0) 1 1524 := ⟨zd_c (o := 1503) (p := 20) zh_1503 (zc_2 (zc_1 (zc_1 (zc_1 (zc_1 (zc_1 (zc_1 (zc_1 zb_1520)))))))), rfl⟩
theorem eL_law_1524 : dx cL_law 1524 (.daload) 1 1525 := ⟨zd_c (o := 1503) (p := 21) zh_1503 (zc_2 (zc_1 (zc_1 (zc_1 (zc_1 (zc_1 (zc_1 zb_1520))))))), rfl⟩
theorem eL_law_1525 : dx cL_law 1525 (.dcmp .l) 1 1526 := ⟨zd_c (o := 1503) (p := 22) zh_1503 (zc_2 (zc_1 (zc_1 (zc_1 (zc_1 (zc_1 zb_1520)))))), rfl⟩
theorem eL_law_1526 : dx cL_law 1526 (.ifCond .eq 11) 3 1529 := ⟨zd_c (o := 1503) (p := 23) zh_1503 (zc_2 (zc_1 (zc_1 (zc_1 (zc_1 zb_1520))))), rfl⟩
theorem eL_law_1529 : dx cL_law 1529 (.fload 7) 2 1531 := ⟨zd_c (o := 1503) (p := 26) zh_1503 (zc_2 (zc_1 (zc_1 (zc_1 zb_1520)))), rfl⟩
theorem eL_law_1531 : dx cL_law 1531 (.fload 7) 2 1533 := ⟨zd_c (o := 1503) (p := 28) zh_1503 (zc_2 (zc_1 (zc_1 zb_1520))), rfl⟩
theorem eL_law_1533 : dx cL_law 1533 (.fcmp .l) 1 1534 := ⟨zd_c (o := 1503) (p := 30) zh_1503 (zc_2 (zc_1 zb_1520)), rfl⟩
theorem eL_law_1534 : dx cL_law 1534 (.ifCond .ne 5) 3 1537 := ⟨zd_c (o := 1503) (p := 31) zh_1503 (zc_2 zb_1520), rfl⟩
theorem zb_1537 : (zdC zp_1503 34 (.iconst 0) 1 && zdC zp_1503 35 (.ireturn) 1 && zdC zp_1503 36 (.goto 1252) 3 && zdC zp_1503 39 (.aload_n 1) 1 && zdC zp_1503 40 (.aload_n 0) 1 && zdC zp_1503 41 (.iload 5) 2 && zdC zp_1503 43 (.iconst 1) 1 && zdC zp_1503 44 (.iadd) 1 && zdC zp_1503 45 (.iaload) 1 && zdC zp_1503 46 (.aload 4) 2) = true := by decide +kernel
theorem eL_law_1537 : dx cL_law 1537 (.iconst 0) 1 1538 := ⟨zd_c (o := 1503) (p := 34) zh_1503 (zc_1 (zc_1 (zc_1 (zc_1 (zc_1 (zc_1 (zc_1 (zc_1 (zc_1 zb_1537))))))))), rfl⟩
theorem eL_law_1538 : dx cL_law 1538 (.ireturn) 1 1539 := ⟨zd_c (o := 1503) (p := 35) zh_1503 (zc_2 (zc_1 (zc_1 (zc_1 (zc_1 (zc_1 (zc_1 (zc_1 (zc_1 zb_1537))))))))), rfl⟩
theorem eL_law_1539 : dx cL_law 1539 (.goto 1252) 3 1542 := ⟨zd_c (o := 1503) (p := 36) zh_1503 (zc_2 (zc_1 (zc_1 (zc_1 (zc_1 (zc_1 (zc_1 (zc_1 zb_1537)))))))), rfl⟩
theorem eL_law_1542 : dx cL_law 1542 (.aload_n 1) 1 1543 := ⟨zd_c (o := 1503) (p := 39) zh_1503 (zc_2 (zc_1 (zc_1 (zc_1 (zc_1 (zc_1 (zc_1 zb_1537))))))), rfl⟩
theorem eL_law_1543 : dx cL_law 1543 (.aload_n 0) 1 1544 := ⟨zd_c (o := 1503) (p := 40) zh_1503 (zc_2 (zc_1 (zc_1 (zc_1 (zc_1 (zc_1 zb_1537)))))), rfl⟩
theorem eL_law_1544 : dx cL_law 1544 (.iload 5) 2 1546 := ⟨zd_c (o := 1503) (p := 41) zh_1503 (zc_2 (zc_1 (zc_1 (zc_1 (zc_1 zb_1537))))), rfl⟩
theorem eL_law_1546 : dx cL_law 1546 (.iconst 1) 1 1547 := ⟨zd_c (o := 1503) (p := 43) zh_1503 (zc_2 (zc_1 (zc_1 (zc_1 zb_1537)))), rfl⟩
theorem eL_law_1547 : dx cL_law 1547 (.iadd) 1 1548 := ⟨zd_c (o := 1503) (p := 44) zh_1503 (zc_2 (zc_1 (zc_1 zb_1537))), rfl⟩
theorem eL_law_1548 : dx cL_law 1548 (.iaload) 1 1549 := ⟨zd_c (o := 1503) (p := 45) zh_1503 (zc_2 (zc_1 zb_1537)), rfl⟩
theorem eL_law_1549 : dx cL_law 1549 (.aload 4) 2 1551 := ⟨zd_c (o := 1503) (p := 46) zh_1503 (zc_2 zb_1537), rfl⟩
theorem zb_1551 : (zdC zp_1503 48 (.invokestatic 236) 3 && zdC zp_1503 51 (.istore 6) 2 && zdC zp_1503 53 (.aload_n 2) 1 && zdC zp_1503 54 (.aload_n 0) 1 && zdC zp_1503 55 (.iload 5) 2 && zdC zp_1503 57 (.iconst 1) 1 && zdC zp_1503 58 (.iadd) 1 && zdC zp_1503 59 (.iaload) 1 && zdC zp_1503 60 (.invokevirtual 238) 3 && zdC zp_1503 63 (.dstore 7) 2) = true := by decide +kernel
theorem eL_law_1551 : dx cL_law 1551 (.invokestatic 236) 3 1554 := ⟨zd_c (o := 1503) (p := 48) zh_1503 (zc_1 (zc_1 (zc_1 (zc_1 (zc_1 (zc_1 (zc_1 (zc_1 (zc_1 zb_1551))))))))), rfl⟩
theorem eL_law_1554 : dx cL_law 1554 (.istore 6) 2 1556 := ⟨zd_c (o := 1503) (p := 51) zh_1503 (zc_2 (zc_1 (zc_1 (zc_1 (zc_1 (zc_1 (zc_1 (zc_1 (zc_1 zb_1551))))))))), rfl⟩
theorem eL_law_1556 : dx cL_law 1556 (.aload_n 2) 1 1557 := ⟨zd_c (o := 1503) (p := 53) zh_1503 (zc_2 (zc_1 (zc_1 (zc_1 (zc_1 (zc_1 (zc_1 (zc_1 zb_1551)))))))), rfl⟩
theorem eL_law_1557 : dx cL_law 1557 (.aload_n 0) 1 1558 := ⟨zd_c (o := 1503) (p := 54) zh_1503 (zc_2 (zc_1 (zc_1 (zc_1 (zc_1 (zc_1 (zc_1 zb_1551))))))), rfl⟩
theorem eL_law_1558 : dx cL_law 1558 (.iload 5) 2 1560 := ⟨zd_c (o := 1503) (p := 55) zh_1503 (zc_2 (zc_1 (zc_1 (zc_1 (zc_1 (zc_1 zb_1551)))))), rfl⟩
theorem eL_law_1560 : dx cL_law 1560 (.iconst 1) 1 1561 := ⟨zd_c (o := 1503) (p := 57) zh_1503 (zc_2 (zc_1 (zc_1 (zc_1 (zc_1 zb_1551))))), rfl⟩
theorem eL_law_1561 : dx cL_law 1561 (.iadd) 1 1562 := ⟨zd_c (o := 1503) (p := 58) zh_1503 (zc_2 (zc_1 (zc_1 (zc_1 zb_1551)))), rfl⟩
theorem eL_law_1562 : dx cL_law 1562 (.iaload) 1 1563 := ⟨zd_c (o := 1503) (p := 59) zh_1503 (zc_2 (zc_1 (zc_1 zb_1551))), rfl⟩
theorem eL_law_1563 : dx cL_law 1563 (.invokevirtual 238) 3 1566 := ⟨zd_c (o := 1503) (p := 60) zh_1503 (zc_2 (zc_1 zb_1551)), rfl⟩
theorem eL_law_1566 : dx cL_law 1566 (.dstore 7) 2 1568 := ⟨zd_c (o := 1503) (p := 63) zh_1503 (zc_2 zb_1551), rfl⟩
def zp_1568 : ByteArray := ⟨#[0x2c, 0xb6, 0x00, 0x91, 0x15, 0x06, 0x9f, 0x00, 0x05, 0x03, 0xac, 0x15, 0x06, 0x9a, 0x00, 0x23, 0x19, 0x04, 0x03, 0x31, 0x18, 0x07, 0x97, 0x99, 0x00, 0x19, 0x19, 0x04, 0x03, 0x31, 0x19, 0x04, 0x03, 0x31, 0x97, 0x99, 0x00, 0x0b, 0x18, 0x07, 0x18, 0x07, 0x97, 0x9a, 0x00, 0x05, 0x03, 0xac, 0xa7, 0x04, 0x97, 0x2b, 0xb6, 0x00, 0xef, 0x2c, 0xb6, 0x00, 0xf2, 0x9f, 0x04, 0x8c, 0x03, 0xac, 0x2b, 0x2a, 0x15, 0x05, 0x04]⟩
theorem zh_1568 : SubC cL_law zp_1568 1568 := sub_of (n := 69) (by decide +kernel)
theorem zb_1568 : (zdC zp_1568 0 (.aload_n 2) 1 && zdC zp_1568 1 (.invokevirtual 145) 3 && zdC zp_1568 4 (.iload 6) 2 && zdC zp_1568 6 (.if_icmp .eq 5) 3 && zdC zp_1568 9 (.iconst 0) 1 && zdC zp_1568 10 (.ireturn) 1 && zdC zp_1568 11 (.iload 6) 2 && zdC zp_1568 13 (.ifCond .ne 35) 3 && zdC zp_1568 16 (.aload 4) 2 && zdC zp_1568 18 (.iconst 0) 1) = true := by decide +kernel
theorem eL_law_1568 : dx cL_law 1568 (.aload_n 2) 1 1569 := ⟨zd_c (o := 1568) (p := 0) zh_1568 (zc_1 (zc_1 (zc_1 (zc_1 (zc_1 (zc_1 (zc_1 (zc_1 (zc_1 zb_1568))))))))), rfl⟩
theorem eL_law_1569 : dx cL_law 1569 (.invokevirtual 145) 3 1572 := ⟨zd_c (o := 1568) (p := 1) zh_1568 (zc_2 (zc_1 (zc_1 (zc_1 (zc_1 (zc_1 (zc_1 (zc_1 (zc_1 zb_1568))))))))), rfl⟩
theorem eL_law_1572 : dx cL_law 1572 (.iload 6) 2 1574 := ⟨zd_c (o := 1568) (p := 4) zh_1568 (zc_2 (zc_1 (zc_1 (zc_1 (zc_1 (zc_1 (zc_1 (zc_1 zb_1568)))))))), rfl⟩
theorem eL_law_1574 : dx cL_law 1574 (.if_icmp .eq 5) 3 1577 := ⟨zd_c (o := 1568) (p := 6) zh_1568 (zc_2 (zc_1 (zc_1 (zc_1 (zc_1 (zc_1 (zc_1 zb_1568))))))), rfl⟩
theorem eL_law_1577 : dx cL_law 1577 (.iconst 0) 1 1578 := ⟨zd_c (o := 1568) (p := 9) zh_1568 (zc_2 (zc_1 (zc_1 (zc_1 (zc_1 (zc_1 zb_1568)))))), rfl⟩
theorem eL_law_1578 : dx cL_law 1578 (.ireturn) 1 1579 := ⟨zd_c (o := 1568) (p := 10) zh_1568 (zc_2 (zc_1 (zc_1 (zc_1 (zc_1 zb_1568))))), rfl⟩
theorem eL_law_1579 : dx cL_law 1579 (.iload 6) 2 1581 := ⟨zd_c (o := 1568) (p := 11) zh_1568 (zc_2 (zc_1 (zc_1 (zc_1 zb_1568)))), rfl⟩
theorem eL_law_1581 : dx cL_law 1581 (.ifCond .ne 35) 3 1584 := ⟨zd_c (o := 1568) (p := 13) zh_1568 (zc_2 (zc_1 (zc_1 zb_1568))), rfl⟩
theorem eL_law_1584 : dx cL_law 1584 (.aload 4) 2 1586 := ⟨zd_c (o := 1568) (p := 16) zh_1568 (zc_2 (zc_1 zb_1568)), rfl⟩
theorem eL_law_1586 : dx cL_law 1586 (.iconst 0) 1 1587 := ⟨zd_c (o := 1568) (p := 18) zh_1568 (zc_2 zb_1568), rfl⟩
theorem zb_1587 : (zdC zp_1568 19 (.daload) 1 && zdC zp_1568 20 (.dload 7) 2 && zdC zp_1568 22 (.dcmp .l) 1 && zdC zp_1568 23 (.ifCond .eq 25) 3 && zdC zp_1568 26 (.aload 4) 2 && zdC zp_1568 28 (.iconst 0) 1 && zdC zp_1568 29 (.daload) 1 && zdC zp_1568 30 (.aload 4) 2 && zdC zp_1568 32 (.iconst 0) 1 && zdC zp_1568 33 (.daload) 1) = true := by decide +kernel
theorem eL_law_1587 : dx cL_law 1587 (.daload) 1 1588 := ⟨zd_c (o := 1568) (p := 19) zh_1568 (zc_1 (zc_1 (zc_1 (zc_1 (zc_1 (zc_1 (zc_1 (zc_1 (zc_1 zb_1587))))))))), rfl⟩
theorem eL_law_1588 : dx cL_law 1588 (.dload 7) 2 1590 := ⟨zd_c (o := 1568) (p := 20) zh_1568 (zc_2 (zc_1 (zc_1 (zc_1 (zc_1 (zc_1 (zc_1 (zc_1 (zc_1 zb_1587))))))))), rfl⟩
theorem eL_law_1590 : dx cL_law 1590 (.dcmp .l) 1 1591 := ⟨zd_c (o := 1568) (p := 22) zh_1568 (zc_2 (zc_1 (zc_1 (zc_1 (zc_1 (zc_1 (zc_1 (zc_1 zb_1587)))))))), rfl⟩
theorem eL_law_1591 : dx cL_law 1591 (.ifCond .eq 25) 3 1594 := ⟨zd_c (o := 1568) (p := 23) zh_1568 (zc_2 (zc_1 (zc_1 (zc_1 (zc_1 (zc_1 (zc_1 zb_1587))))))), rfl⟩
theorem eL_law_1594 : dx cL_law 1594 (.aload 4) 2 1596 := ⟨zd_c (o := 1568) (p := 26) zh_1568 (zc_2 (zc_1 (zc_1 (zc_1 (zc_1 (zc_1 zb_1587)))))), rfl⟩
theorem eL_law_1596 : dx cL_law 1596 (.iconst 0) 1 1597 := ⟨zd_c (o := 1568) (p := 28) zh_1568 (zc_2 (zc_1 (zc_1 (zc_1 (zc_1 zb_1587))))), rfl⟩
theorem eL_law_1597 : dx cL_law 1597 (.daload) 1 1598 := ⟨zd_c (o := 1568) (p := 29) zh_1568 (zc_2 (zc_1 (zc_1 (zc_1 zb_1587)))), rfl⟩
theorem eL_law_1598 : dx cL_law 1598 (.aload 4) 2 1600 := ⟨zd_c (o := 1568) (p := 30) zh_1568 (zc_2 (zc_1 (zc_1 zb_1587))), rfl⟩
theorem eL_law_1600 : dx cL_law 1600 (.iconst 0) 1 1601 := ⟨zd_c (o := 1568) (p := 32) zh_1568 (zc_2 (zc_1 zb_1587)), rfl⟩
theorem eL_law_1601 : dx cL_law 1601 (.daload) 1 1602 := ⟨zd_c (o := 1568) (p := 33) zh_1568 (zc_2 zb_1587), rfl⟩
theorem zb_1602 : (zdC zp_1568 34 (.dcmp .l) 1 && zdC zp_1568 35 (.ifCond .eq 11) 3 && zdC zp_1568 38 (.dload 7) 2 && zdC zp_1568 40 (.dload 7) 2 && zdC zp_1568 42 (.dcmp .l) 1 && zdC zp_1568 43 (.ifCond .ne 5) 3 && zdC zp_1568 46 (.iconst 0) 1 && zdC zp_1568 47 (.ireturn) 1 && zdC zp_1568 48 (.goto 1175) 3 && zdC zp_1568 51 (.aload_n 1) 1) = true := by decide +kernel
theorem eL_law_1602 : dx cL_law 1602 (.dcmp .l) 1 1603 := ⟨zd_c (o := 1568) (p := 34) zh_1568 (zc_1 (zc_1 (zc_1 (zc_1 (zc_1 (zc_1 (zc_1 (zc_1 (zc_1 zb_1602))))))))), rfl⟩
theorem eL_law_1603 : dx cL_law 1603 (.ifCond .eq 11) 3 1606 := ⟨zd_c (o := 1568) (p := 35) zh_1568 (zc_2 (zc_1 (zc_1 (zc_1 (zc_1 (zc_1 (zc_1 (zc_1 (zc_1 zb_1602))))))))), rfl⟩
theorem eL_law_1606 : dx cL_law 1606 (.dload 7) 2 1608 := ⟨zd_c (o := 1568) (p := 38) zh_1568 (zc_2 (zc_1 (zc_1 (zc_1 (zc_1 (zc_1 (zc_1 (zc_1 zb_1602)))))))), rfl⟩
theorem eL_law_1608 : dx cL_law 1608 (.dload 7) 2 1610 := ⟨zd_c (o := 1568) (p := 40) zh_1568 (zc_2 (zc_1 (zc_1 (zc_1 (zc_1 (zc_1 (zc_1 zb_1602))))))), rfl⟩
theorem eL_law_1610 : dx cL_law 1610 (.dcmp .l) 1 1611 := ⟨zd_c (o := 1568) (p := 42) zh_1568 (zc_2 (zc_1 (zc_1 (zc_1 (zc_1 (zc_1 zb_1602)))))), rfl⟩
theorem eL_law_1611 : dx cL_law 1611 (.ifCond .ne 5) 3 1614 := ⟨zd_c (o := 1568) (p := 43) zh_1568 (zc_2 (zc_1 (zc_1 (zc_1 (zc_1 zb_1602))))), rfl⟩
theorem eL_law_1614 : dx cL_law 1614 (.iconst 0) 1 1615 := ⟨zd_c (o := 1568) (p := 46) zh_1568 (zc_2 (zc_1 (zc_1 (zc_1 zb_1602)))), rfl⟩
theorem eL_law_1615 : dx cL_law 1615 (.ireturn) 1 1616 := ⟨zd_c (o := 1568) (p := 47) zh_1568 (zc_2 (zc_1 (zc_1 zb_1602))), rfl⟩
theorem eL_law_1616 : dx cL_law 1616 (.goto 1175) 3 1619 := ⟨zd_c (o := 1568) (p := 48) zh_1568 (zc_2 (zc_1 zb_1602)), rfl⟩
theorem eL_law_1619 : dx cL_law 1619 (.aload_n 1) 1 1620 := ⟨zd_c (o := 1568) (p := 51) zh_1568 (zc_2 zb_1602), rfl⟩
theorem zb_1620 : (zdC zp_1568 52 (.invokevirtual 239) 3 && zdC zp_1568 55 (.aload_n 2) 1 && zdC zp_1568 56 (.invokevirtual 242) 3 && zdC zp_1568 59 (.if_icmp .eq 1164) 3 && zdC zp_1568 62 (.iconst 0) 1 && zdC zp_1568 63 (.ireturn) 1 && zdC zp_1568 64 (.aload_n 1) 1 && zdC zp_1568 65 (.aload_n 0) 1 && zdC zp_1568 66 (.iload 5) 2 && zdC zp_1568 68 (.iconst 1) 1) = true := by decide +kernel
theorem eL_law_1620 : dx cL_law 1620 (.invokevirtual 239) 3 1623 := ⟨zd_c (o := 1568) (p := 52) zh_1568 (zc_1 (zc_1 (zc_1 (zc_1 (zc_1 (zc_1 (zc_1 (zc_1 (zc_1 zb_1620))))))))), rfl⟩
theorem eL_law_1623 : dx cL_law 1623 (.aload_n 2) 1 1624 := ⟨zd_c (o := 1568) (p := 55) zh_1568 (zc_2 (zc_1 (zc_1 (zc_1 (zc_1 (zc_1 (zc_1 (zc_1 (zc_1 zb_1620))))))))), rfl⟩
theorem eL_law_1624 : dx cL_law 1624 (.invokevirtual 242) 3 1627 := ⟨zd_c (o := 1568) (p := 56) zh_1568 (zc_2 (zc_1 (zc_1 (zc_1 (zc_1 (zc_1 (zc_1 (zc_1 zb_1620)))))))), rfl⟩
theorem eL_law_1627 : dx cL_law 1627 (.if_icmp .eq 1164) 3 1630 := ⟨zd_c (o := 1568) (p := 59) zh_1568 (zc_2 (zc_1 (zc_1 (zc_1 (zc_1 (zc_1 (zc_1 zb_1620))))))), rfl⟩
theorem eL_law_1630 : dx cL_law 1630 (.iconst 0) 1 1631 := ⟨zd_c (o := 1568) (p := 62) zh_1568 (zc_2 (zc_1 (zc_1 (zc_1 (zc_1 (zc_1 zb_1620)))))), rfl⟩
theorem eL_law_1631 : dx cL_law 1631 (.ireturn) 1 1632 := ⟨zd_c (o := 1568) (p := 63) zh_1568 (zc_2 (zc_1 (zc_1 (zc_1 (zc_1 zb_1620))))), rfl⟩
theorem eL_law_1632 : dx cL_law 1632 (.aload_n 1) 1 1633 := ⟨zd_c (o := 1568) (p := 64) zh_1568 (zc_2 (zc_1 (zc_1 (zc_1 zb_1620)))), rfl⟩
theorem eL_law_1633 : dx cL_law 1633 (.aload_n 0) 1 1634 := ⟨zd_c (o := 1568) (p := 65) zh_1568 (zc_2 (zc_1 (zc_1 zb_1620))), rfl⟩
theorem eL_law_1634 : dx cL_law 1634 (.iload 5) 2 1636 := ⟨zd_c (o := 1568) (p := 66) zh_1568 (zc_2 (zc_1 zb_1620)), rfl⟩
theorem eL_law_1636 : dx cL_law 1636 (.iconst 1) 1 1637 := ⟨zd_c (o := 1568) (p := 68) zh_1568 (zc_2 zb_1620), rfl⟩
def zp_1637 : ByteArray := ⟨#[0x60, 0x2e, 0x2d, 0xb8, 0x00, 0xf3, 0x36, 0x06, 0x2c, 0x2a, 0x15, 0x05, 0x04, 0x60, 0x2e, 0xb6, 0x00, 0xf5, 0x36, 0x07, 0x2c, 0xb6, 0x00, 0x91, 0x15, 0x06, 0x9f, 0x00, 0x05, 0x03, 0xac, 0x15, 0x06, 0x9a, 0x00, 0x0f, 0x2d, 0x03, 0x2f, 0x15, 0x07, 0x85, 0x94, 0x99, 0x00, 0x05, 0x03, 0xac, 0xa7, 0x04, 0x52, 0x2b, 0x2a, 0x15, 0x05, 0x04, 0x60, 0x2e, 0x2d, 0xb8, 0x00, 0xf6, 0x36, 0x06]⟩
theorem zh_1637 : SubC cL_law zp_1637 1637 := sub_of (n := 64) (by decide +kernel)
theorem zb_1637 : (zdC zp_1637 0 (.iadd) 1 && zdC zp_1637 1 (.iaload) 1 && zdC zp_1637 2 (.aload_n 3) 1 && zdC zp_1637 3 (.invokestatic 243) 3 && zdC zp_1637 6 (.istore 6) 2 && zdC zp_1637 8 (.aload_n 2) 1 && zdC zp_1637 9 (.aload_n 0) 1 && zdC zp_1637 10 (.iload 5) 2 && zdC zp_1637 12 (.iconst 1) 1 && zdC zp_1637 13 (.iadd) 1) = true := by decide +kernel
theorem eL_law_1637 : dx cL_law 1637 (.iadd) 1 1638 := ⟨zd_c (o := 1637) (p := 0) zh_1637 (zc_1 (zc_1 (zc_1 (zc_1 (zc_1 (zc_1 (zc_1 (zc_1 (zc_1 zb_1637))))))))), rfl⟩
theorem eL_law_1638 : dx cL_law 1638 (.iaload) 1 1639 := ⟨zd_c (o := 1637) (p := 1) zh_1637 (zc_2 (zc_1 (zc_1 (zc_1 (zc_1 (zc_1 (zc_1 (zc_1 (zc_1 zb_1637))))))))), rfl⟩
theorem eL_law_1639 : dx cL_law 1639 (.aload_n 3) 1 1640 := ⟨zd_c (o := 1637) (p := 2) zh_1637 (zc_2 (zc_1 (zc_1 (zc_1 (zc_1 (zc_1 (zc_1 (zc_1 zb_1637)))))))), rfl⟩
theorem eL_law_1640 : dx cL_law 1640 (.invokestatic 243) 3 1643 := ⟨zd_c (o := 1637) (p := 3) zh_1637 (zc_2 (zc_1 (zc_1 (zc_1 (zc_1 (zc_1 (zc_1 zb_1637))))))), rfl⟩
theorem eL_law_1643 : dx cL_law 1643 (.istore 6) 2 1645 := ⟨zd_c (o := 1637) (p := 6) zh_1637 (zc_2 (zc_1 (zc_1 (zc_1 (zc_1 (zc_1 zb_1637)))))), rfl⟩
theorem eL_law_1645 : dx cL_law 1645 (.aload_n 2) 1 1646 := ⟨zd_c (o := 1637) (p := 8) zh_1637 (zc_2 (zc_1 (zc_1 (zc_1 (zc_1 zb_1637))))), rfl⟩
theorem eL_law_1646 : dx cL_law 1646 (.aload_n 0) 1 1647 := ⟨zd_c (o := 1637) (p := 9) zh_1637 (zc_2 (zc_1 (zc_1 (zc_1 zb_1637)))), rfl⟩
theorem eL_law_1647 : dx cL_law 1647 (.iload 5) 2 1649 := ⟨zd_c (o := 1637) (p := 10) zh_1637 (zc_2 (zc_1 (zc_1 zb_1637))), rfl⟩
theorem eL_law_1649 : dx cL_law 1649 (.iconst 1) 1 1650 := ⟨zd_c (o := 1637) (p := 12) zh_1637 (zc_2 (zc_1 zb_1637)), rfl⟩
theorem eL_law_1650 : dx cL_law 1650 (.iadd) 1 1651 := ⟨zd_c (o := 1637) (p := 13) zh_1637 (zc_2 zb_1637), rfl⟩
theorem zb_1651 : (zdC zp_1637 14 (.iaload) 1 && zdC zp_1637 15 (.invokevirtual 245) 3 && zdC zp_1637 18 (.istore 7) 2 && zdC zp_1637 20 (.aload_n 2) 1 && zdC zp_1637 21 (.invokevirtual 145) 3 && zdC zp_1637 24 (.iload 6) 2 && zdC zp_1637 26 (.if_icmp .eq 5) 3 && zdC zp_1637 29 (.iconst 0) 1 && zdC zp_1637 30 (.ireturn) 1 && zdC zp_1637 31 (.iload 6) 2) = true := by decide +kernel
theorem eL_law_1651 : dx cL_law 1651 (.iaload) 1 1652 := ⟨zd_c (o := 1637) (p := 14) zh_1637 (zc_1 (zc_1 (zc_1 (zc_1 (zc_1 (zc_1 (zc_1 (zc_1 (zc_1 zb_1651))))))))), rfl⟩
theorem eL_law_1652 : dx cL_law 1652 (.invokevirtual 245) 3 1655 := ⟨zd_c (o := 1637) (p := 15) zh_1637 (zc_2 (zc_1 (zc_1 (zc_1 (zc_1 (zc_1 (zc_1 (zc_1 (zc_1 zb_1651))))))))), rfl⟩
theorem eL_law_1655 : dx cL_law 1655 (.istore 7) 2 1657 := ⟨zd_c (o := 1637) (p := 18) zh_1637 (zc_2 (zc_1 (zc_1 (zc_1 (zc_1 (zc_1 (zc_1 (zc_1 zb_1651)))))))), rfl⟩
theorem eL_law_1657 : dx cL_law 1657 (.aload_n 2) 1 1658 := ⟨zd_c (o := 1637) (p := 20) zh_1637 (zc_2 (zc_1 (zc_1 (zc_1 (zc_1 (zc_1 (zc_1 zb_1651))))))), rfl⟩
theorem eL_law_1658 : dx cL_law 1658 (.invokevirtual 145) 3 1661 := ⟨zd_c (o := 1637) (p := 21) zh_1637 (zc_2 (zc_1 (zc_1 (zc_1 (zc_1 (zc_1 zb_1651)))))), rfl⟩
theorem eL_law_1661 : dx cL_law 1661 (.iload 6) 2 1663 := ⟨zd_c (o := 1637) (p := 24) zh_1637 (zc_2 (zc_1 (zc_1 (zc_1 (zc_1 zb_1651))))), rfl⟩
theorem eL_law_1663 : dx cL_law 1663 (.if_icmp .eq 5) 3 1666 := ⟨zd_c (o := 1637) (p := 26) zh_1637 (zc_2 (zc_1 (zc_1 (zc_1 zb_1651)))), rfl⟩
theorem eL_law_1666 : dx cL_law 1666 (.iconst 0) 1 1667 := ⟨zd_c (o := 1637) (p := 29) zh_1637 (zc_2 (zc_1 (zc_1 zb_1651))), rfl⟩
theorem eL_law_1667 : dx cL_law 1667 (.ireturn) 1 1668 := ⟨zd_c (o := 1637) (p := 30) zh_1637 (zc_2 (zc_1 zb_1651)), rfl⟩
theorem eL_law_1668 : dx cL_law 1668 (.iload 6) 2 1670 := ⟨zd_c (o := 1637) (p := 31) zh_1637 (zc_2 zb_1651), rfl⟩
theorem zb_1670 : (zdC zp_1637 33 (.ifCond .ne 15) 3 && zdC zp_1637 36 (.aload_n 3) 1 && zdC zp_1637 37 (.iconst 0) 1 && zdC zp_1637 38 (.laload) 1 && zdC zp_1637 39 (.iload 7) 2 && zdC zp_1637 41 (.i2l) 1 && zdC zp_1637 42 (.lcmp) 1 && zdC zp_1637 43 (.ifCond .eq 5) 3 && zdC zp_1637 46 (.iconst 0) 1 && zdC zp_1637 47 (.ireturn) 1) = true := by decide +kernel
theorem eL_law_1670 : dx cL_law 1670 (.ifCond .ne 15) 3 1673 := ⟨zd_c (o := 1637) (p := 33) zh_1637 (zc_1 (zc_1 (zc_1 (zc_1 (zc_1 (zc_1 (zc_1 (zc_1 (zc_1 zb_1670))))))))), rfl⟩
theorem eL_law_1673 : dx cL_law 1673 (.aload_n 3) 1 1674 := ⟨zd_c (o := 1637) (p := 36) zh_1637 (zc_2 (zc_1 (zc_1 (zc_1 (zc_1 (zc_1 (zc_1 (zc_1 (zc_1 zb_1670))))))))), rfl⟩
theorem eL_law_1674 : dx cL_law 1674 (.iconst 0) 1 1675 := ⟨zd_c (o := 1637) (p := 37) zh_1637 (zc_2 (zc_1 (zc_1 (zc_1 (zc_1 (zc_1 (zc_1 (zc_1 zb_1670)))))))), rfl⟩
theorem eL_law_1675 : dx cL_law 1675 (.laload) 1 1676 := ⟨zd_c (o := 1637) (p := 38) zh_1637 (zc_2 (zc_1 (zc_1 (zc_1 (zc_1 (zc_1 (zc_1 zb_1670))))))), rfl⟩
theorem eL_law_1676 : dx cL_law 1676 (.iload 7) 2 1678 := ⟨zd_c (o := 1637) (p := 39) zh_1637 (zc_2 (zc_1 (zc_1 (zc_1 (zc_1 (zc_1 zb_1670)))))), rfl⟩
theorem eL_law_1678 : dx cL_law 1678 (.i2l) 1 1679 := ⟨zd_c (o := 1637) (p := 41) zh_1637 (zc_2 (zc_1 (zc_1 (zc_1 (zc_1 zb_1670))))), rfl⟩
theorem eL_law_1679 : dx cL_law 1679 (.lcmp) 1 1680 := ⟨zd_c (o := 1637) (p := 42) zh_1637 (zc_2 (zc_1 (zc_1 (zc_1 zb_1670)))), rfl⟩
theorem eL_law_1680 : dx cL_law 1680 (.ifCond .eq 5) 3 1683 := ⟨zd_c (o := 1637) (p := 43) zh_1637 (zc_2 (zc_1 (zc_1 zb_1670))), rfl⟩
theorem eL_law_1683 : dx cL_law 1683 (.iconst 0) 1 1684 := ⟨zd_c (o := 1637) (p := 46) zh_1637 (zc_2 (zc_1 zb_1670)), rfl⟩
theorem eL_law_1684 : dx cL_law 1684 (.ireturn) 1 1685 := ⟨zd_c (o := 1637) (p := 47) zh_1637 (zc_2 zb_1670), rfl⟩
theorem zb_1685 : (zdC zp_1637 48 (.goto 1106) 3 && zdC zp_1637 51 (.aload_n 1) 1 && zdC zp_1637 52 (.aload_n 0) 1 && zdC zp_1637 53 (.iload 5) 2 && zdC zp_1637 55 (.iconst 1) 1 && zdC zp_1637 56 (.iadd) 1 && zdC zp_1637 57 (.iaload) 1 && zdC zp_1637 58 (.aload_n 3) 1 && zdC zp_1637 59 (.invokestatic 246) 3 && zdC zp_1637 62 (.istore 6) 2) = true := by decide +kernel
theorem eL_law_1685 : dx cL_law 1685 (.goto 1106) 3 1688 := ⟨zd_c (o := 1637) (p := 48) zh_1637 (zc_1 (zc_1 (zc_1 (zc_1 (zc_1 (zc_1 (zc_1 (zc_1 (zc_1 zb_1685))))))))), rfl⟩
theorem eL_law_1688 : dx cL_law 1688 (.aload_n 1) 1 1689 := ⟨zd_c (o := 1637) (p := 51) zh_1637 (zc_2 (zc_1 (zc_1 (zc_1 (zc_1 (zc_1 (zc_1 (zc_1 (zc_1 zb_1685))))))))), rfl⟩
theorem eL_law_1689 : dx cL_law 1689 (.aload_n 0) 1 1690 := ⟨zd_c (o := 1637) (p := 52) zh_1637 (zc_2 (zc_1 (zc_1 (zc_1 (zc_1 (zc_1 (zc_1 (zc_1 zb_1685)))))))), rfl⟩
theorem eL_law_1690 : dx cL_law 1690 (.iload 5) 2 1692 := ⟨zd_c (o := 1637) (p := 53) zh_1637 (zc_2 (zc_1 (zc_1 (zc_1 (zc_1 (zc_1 (zc_1 zb_1685))))))), rfl⟩
theorem eL_law_1692 : dx cL_law 1692 (.iconst 1) 1 1693 := ⟨zd_c (o := 1637) (p := 55) zh_1637 (zc_2 (zc_1 (zc_1 (zc_1 (zc_1 (zc_1 zb_1685)))))), rfl⟩
theorem eL_law_1693 : dx cL_law 1693 (.iadd) 1 1694 := ⟨zd_c (o := 1637) (p := 56) zh_1637 (zc_2 (zc_1 (zc_1 (zc_1 (zc_1 zb_1685))))), rfl⟩
theorem eL_law_1694 : dx cL_law 1694 (.iaload) 1 1695 := ⟨zd_c (o := 1637) (p := 57) zh_1637 (zc_2 (zc_1 (zc_1 (zc_1 zb_1685)))), rfl⟩
theorem eL_law_1695 : dx cL_law 1695 (.aload_n 3) 1 1696 := ⟨zd_c (o := 1637) (p := 58) zh_1637 (zc_2 (zc_1 (zc_1 zb_1685))), rfl⟩
theorem eL_law_1696 : dx cL_law 1696 (.invokestatic 246) 3 1699 := ⟨zd_c (o := 1637) (p := 59) zh_1637 (zc_2 (zc_1 zb_1685)), rfl⟩
theorem eL_law_1699 : dx cL_law 1699 (.istore 6) 2 1701 := ⟨zd_c (o := 1637) (p := 62) zh_1637 (zc_2 zb_1685), rfl⟩
def zp_1701 : ByteArray := ⟨#[0x2c, 0x2a, 0x15, 0x05, 0x04, 0x60, 0x2e, 0xb6, 0x00, 0xf8, 0x36, 0x07, 0x2c, 0xb6, 0x00, 0x91, 0x15, 0x06, 0x9f, 0x00, 0x05, 0x03, 0xac, 0x15, 0x06, 0x9a, 0x00, 0x0f, 0x2d, 0x03, 0x2f, 0x15, 0x07, 0x85, 0x94, 0x99, 0x00, 0x05, 0x03, 0xac, 0xa7, 0x04, 0x1a, 0x2b, 0x2a, 0x15, 0x05, 0x04, 0x60, 0x2e, 0x2a, 0x15, 0x05, 0x05, 0x60, 0x2e, 0x2a, 0x15, 0x05, 0x06]⟩
theorem zh_1701 : SubC cL_law zp_1701 1701 := sub_of (n := 60) (by decide +kernel)
theorem zb_1701 : (zdC zp_1701 0 (.aload_n 2) 1 && zdC zp_1701 1 (.aload_n 0) 1 && zdC zp_1701 2 (.iload 5) 2 && zdC zp_1701 4 (.iconst 1) 1 && zdC zp_1701 5 (.iadd) 1 && zdC zp_1701 6 (.iaload) 1 && zdC zp_1701 7 (.invokevirtual 248) 3 && zdC zp_1701 10 (.istore 7) 2 && zdC zp_1701 12 (.aload_n 2) 1 && zdC zp_1701 13 (.invokevirtual 145) 3) = true := by decide +kernel
theorem eL_law_1701 : dx cL_law 1701 (.aload_n 2) 1 1702 := ⟨zd_c (o := 1701) (p := 0) zh_1701 (zc_1 (zc_1 (zc_1 (zc_1 (zc_1 (zc_1 (zc_1 (zc_1 (zc_1 zb_1701))))))))), rfl⟩
theorem eL_law_1702 : dx cL_law 1702 (.aload_n 0) 1 1703 := ⟨zd_c (o := 1701) (p := 1) zh_1701 (zc_2 (zc_1 (zc_1 (zc_1 (zc_1 (zc_1 (zc_1 (zc_1 (zc_1 zb_1701))))))))), rfl⟩
theorem eL_law_1703 : dx cL_law 1703 (.iload 5) 2 1705 := ⟨zd_c (o := 1701) (p := 2) zh_1701 (zc_2 (zc_1 (zc_1 (zc_1 (zc_1 (zc_1 (zc_1 (zc_1 zb_1701)))))))), rfl⟩
theorem eL_law_1705 : dx cL_law 1705 (.iconst 1) 1 1706 := ⟨zd_c (o := 1701) (p := 4) zh_1701 (zc_2 (zc_1 (zc_1 (zc_1 (zc_1 (zc_1 (zc_1 zb_1701))))))), rfl⟩
theorem eL_law_1706 : dx cL_law 1706 (.iadd) 1 1707 := ⟨zd_c (o := 1701) (p := 5) zh_1701 (zc_2 (zc_1 (zc_1 (zc_1 (zc_1 (zc_1 zb_1701)))))), rfl⟩
theorem eL_law_1707 : dx cL_law 1707 (.iaload) 1 1708 := ⟨zd_c (o := 1701) (p := 6) zh_1701 (zc_2 (zc_1 (zc_1 (zc_1 (zc_1 zb_1701))))), rfl⟩
theorem eL_law_1708 : dx cL_law 1708 (.invokevirtual 248) 3 1711 := ⟨zd_c (o := 1701) (p := 7) zh_1701 (zc_2 (zc_1 (zc_1 (zc_1 zb_1701)))), rfl⟩
theorem eL_law_1711 : dx cL_law 1711 (.istore 7) 2 1713 := ⟨zd_c (o := 1701) (p := 10) zh_1701 (zc_2 (zc_1 (zc_1 zb_1701))), rfl⟩
theorem eL_law_1713 : dx cL_law 1713 (.aload_n 2) 1 1714 := ⟨zd_c (o := 1701) (p := 12) zh_1701 (zc_2 (zc_1 zb_1701)), rfl⟩
theorem eL_law_1714 : dx cL_law 1714 (.invokevirtual 145) 3 1717 := ⟨zd_c (o := 1701) (p := 13) zh_1701 (zc_2 zb_1701), rfl⟩
theorem zb_1717 : (zdC zp_1701 16 (.iload 6) 2 && zdC zp_1701 18 (.if_icmp .eq 5) 3 && zdC zp_1701 21 (.iconst 0) 1 && zdC zp_1701 22 (.ireturn) 1 && zdC zp_1701 23 (.iload 6) 2 && zdC zp_1701 25 (.ifCond .ne 15) 3 && zdC zp_1701 28 (.aload_n 3) 1 && zdC zp_1701 29 (.iconst 0) 1 && zdC zp_1701 30 (.laload) 1 && zdC zp_1701 31 (.iload 7) 2) = true := by decide +kernel
theorem eL_law_1717 : dx cL_law 1717 (.iload 6) 2 1719 := ⟨zd_c (o := 1701) (p := 16) zh_1701 (zc_1 (zc_1 (zc_1 (zc_1 (zc_1 (zc_1 (zc_1 (zc_1 (zc_1 zb_1717))))))))), rfl⟩
theorem eL_law_1719 : dx cL_law 1719 (.if_icmp .eq 5) 3 1722 := ⟨zd_c (o := 1701) (p := 18) zh_1701 (zc_2 (zc_1 (zc_1 (zc_1 (zc_1 (zc_1 (zc_1 (zc_1 (zc_1 zb_1717))))))))), rfl⟩
theorem eL_law_1722 : dx cL_law 1722 (.iconst 0) 1 1723 := ⟨zd_c (o := 1701) (p := 21) zh_1701 (zc_2 (zc_1 (zc_1 (zc_1 (zc_1 (zc_1 (zc_1 (zc_1 zb_1717)))))))), rfl⟩
theorem eL_law_1723 : dx cL_law 1723 (.ireturn) 1 1724 := ⟨zd_c (o := 1701) (p := 22) zh_1701 (zc_2 (zc_1 (zc_1 (zc_1 (zc_1 (zc_1 (zc_1 zb_1717))))))), rfl⟩
theorem eL_law_1724 : dx cL_law 1724 (.iload 6) 2 1726 := ⟨zd_c (o := 1701) (p := 23) zh_1701 (zc_2 (zc_1 (zc_1 (zc_1 (zc_1 (zc_1 zb_1717)))))), rfl⟩
theorem eL_law_1726 : dx cL_law 1726 (.ifCond .ne 15) 3 1729 := ⟨zd_c (o := 1701) (p := 25) zh_1701 (zc_2 (zc_1 (zc_1 (zc_1 (zc_1 zb_1717))))), rfl⟩
theorem eL_law_1729 : dx cL_law 1729 (.aload_n 3) 1 1730 := ⟨zd_c (o := 1701) (p := 28) zh_1701 (zc_2 (zc_1 (zc_1 (zc_1 zb_1717)))), rfl⟩
theorem eL_law_1730 : dx cL_law 1730 (.iconst 0) 1 1731 := ⟨zd_c (o := 1701) (p := 29) zh_1701 (zc_2 (zc_1 (zc_1 zb_1717))), rfl⟩
theorem eL_law_1731 : dx cL_law 1731 (.laload) 1 1732 := ⟨zd_c (o := 1701) (p := 30) zh_1701 (zc_2 (zc_1 zb_1717)), rfl⟩
theorem eL_law_1732 : dx cL_law 1732 (.iload 7) 2 1734 := ⟨zd_c (o := 1701) (p := 31) zh_1701 (zc_2 zb_1717), rfl⟩
theorem zb_1734 : (zdC zp_1701 33 (.i2l) 1 && zdC zp_1701 34 (.lcmp) 1 && zdC zp_1701 35 (.ifCond .eq 5) 3 && zdC zp_1701 38 (.iconst 0) 1 && zdC zp_1701 39 (.ireturn) 1 && zdC zp_1701 40 (.goto 1050) 3 && zdC zp_1701 43 (.aload_n 1) 1 && zdC zp_1701 44 (.aload_n 0) 1 && zdC zp_1701 45 (.iload 5) 2 && zdC zp_1701 47 (.iconst 1) 1) = true := by decide +kernel
theorem eL_law_1734 : dx cL_law 1734 (.i2l) 1 1735 := ⟨zd_c (o := 1701) (p := 33) zh_1701 (zc_1 (zc_1 (zc_1 (zc_1 (zc_1 (zc_1 (zc_1 (zc_1 (zc_1 zb_1734))))))))), rfl⟩
theorem eL_law_1735 : dx cL_law 1735 (.lcmp) 1 1736 := ⟨zd_c (o := 1701) (p := 34) zh_1701 (zc_2 (zc_1 (zc_1 (zc_1 (zc_1 (zc_1 (zc_1 (zc_1 (zc_1 zb_1734))))))))), rfl⟩
theorem eL_law_1736 : dx cL_law 1736 (.ifCond .eq 5) 3 1739 := ⟨zd_c (o := 1701) (p := 35) zh_1701 (zc_2 (zc_1 (zc_1 (zc_1 (zc_1 (zc_1 (zc_1 (zc_1 zb_1734)))))))), rfl⟩
theorem eL_law_1739 : dx cL_law 1739 (.iconst 0) 1 1740 := ⟨zd_c (o := 1701) (p := 38) zh_1701 (zc_2 (zc_1 (zc_1 (zc_1 (zc_1 (zc_1 (zc_1 zb_1734))))))), rfl⟩
theorem eL_law_1740 : dx cL_law 1740 (.ireturn) 1 1741 := ⟨zd_c (o := 1701) (p := 39) zh_1701 (zc_2 (zc_1 (zc_1 (zc_1 (zc_1 (zc_1 zb_1734)))))), rfl⟩
theorem eL_law_1741 : dx cL_law 1741 (.goto 1050) 3 1744 := ⟨zd_c (o := 1701) (p := 40) zh_1701 (zc_2 (zc_1 (zc_1 (zc_1 (zc_1 zb_1734))))), rfl⟩
theorem eL_law_1744 : dx cL_law 1744 (.aload_n 1) 1 1745 := ⟨zd_c (o := 1701) (p := 43) zh_1701 (zc_2 (zc_1 (zc_1 (zc_1 zb_1734)))), rfl⟩
theorem eL_law_1745 : dx cL_law 1745 (.aload_n 0) 1 1746 := ⟨zd_c (o := 1701) (p := 44) zh_1701 (zc_2 (zc_1 (zc_1 zb_1734))), rfl⟩
theorem eL_law_1746 : dx cL_law 1746 (.iload 5) 2 1748 := ⟨zd_c (o := 1701) (p := 45) zh_1701 (zc_2 (zc_1 zb_1734)), rfl⟩
theorem eL_law_1748 : dx cL_law 1748 (.iconst 1) 1 1749 := ⟨zd_c (o := 1701) (p := 47) zh_1701 (zc_2 zb_1734), rfl⟩
theorem zb_1749 : (zdC zp_1701 48 (.iadd) 1 && zdC zp_1701 49 (.iaload) 1 && zdC zp_1701 50 (.aload_n 0) 1 && zdC zp_1701 51 (.iload 5) 2 && zdC zp_1701 53 (.iconst 2) 1 && zdC zp_1701 54 (.iadd) 1 && zdC zp_1701 55 (.iaload) 1 && zdC zp_1701 56 (.aload_n 0) 1 && zdC zp_1701 57 (.iload 5) 2 && zdC zp_1701 59 (.iconst 3) 1) = true := by decide +kernel
theorem eL_law_1749 : dx cL_law 1749 (.iadd) 1 1750 := ⟨zd_c (o := 1701) (p := 48) zh_1701 (zc_1 (zc_1 (zc_1 (zc_1 (zc_1 (zc_1 (zc_1 (zc_1 (zc_1 zb_1749))))))))), rfl⟩
theorem eL_law_1750 : dx cL_law 1750 (.iaload) 1 1751 := ⟨zd_c (o := 1701) (p := 49) zh_1701 (zc_2 (zc_1 (zc_1 (zc_1 (zc_1 (zc_1 (zc_1 (zc_1 (zc_1 zb_1749))))))))), rfl⟩
theorem eL_law_1751 : dx cL_law 1751 (.aload_n 0) 1 1752 := ⟨zd_c (o := 1701) (p := 50) zh_1701 (zc_2 (zc_1 (zc_1 (zc_1 (zc_1 (zc_1 (zc_1 (zc_1 zb_1749)))))))), rfl⟩
theorem eL_law_1752 : dx cL_law 1752 (.iload 5) 2 1754 := ⟨zd_c (o := 1701) (p := 51) zh_1701 (zc_2 (zc_1 (zc_1 (zc_1 (zc_1 (zc_1 (zc_1 zb_1749))))))), rfl⟩
theorem eL_law_1754 : dx cL_law 1754 (.iconst 2) 1 1755 := ⟨zd_c (o := 1701) (p := 53) zh_1701 (zc_2 (zc_1 (zc_1 (zc_1 (zc_1 (zc_1 zb_1749)))))), rfl⟩
theorem eL_law_1755 : dx cL_law 1755 (.iadd) 1 1756 := ⟨zd_c (o := 1701) (p := 54) zh_1701 (zc_2 (zc_1 (zc_1 (zc_1 (zc_1 zb_1749))))), rfl⟩
theorem eL_law_1756 : dx cL_law 1756 (.iaload) 1 1757 := ⟨zd_c (o := 1701) (p := 55) zh_1701 (zc_2 (zc_1 (zc_1 (zc_1 zb_1749)))), rfl⟩
theorem eL_law_1757 : dx cL_law 1757 (.aload_n 0) 1 1758 := ⟨zd_c (o := 1701) (p := 56) zh_1701 (zc_2 (zc_1 (zc_1 zb_1749))), rfl⟩
theorem eL_law_1758 : dx cL_law 1758 (.iload 5) 2 1760 := ⟨zd_c (o := 1701) (p := 57) zh_1701 (zc_2 (zc_1 zb_1749)), rfl⟩
theorem eL_law_1760 : dx cL_law 1760 (.iconst 3) 1 1761 := ⟨zd_c (o := 1701) (p := 59) zh_1701 (zc_2 zb_1749), rfl⟩
def zp_1761 : ByteArray := ⟨#[0x60, 0x2e, 0x2d, 0xb8, 0x00, 0xf9, 0x36, 0x06, 0x2c, 0x2a, 0x15, 0x05, 0x04, 0x60, 0x2e, 0x2a, 0x15, 0x05, 0x05, 0x60, 0x2e, 0x2a, 0x15, 0x05, 0x06, 0x60, 0x2e, 0xb6, 0x00, 0xfc, 0x36, 0x07, 0x2c, 0xb6, 0x00, 0x91, 0x15, 0x06, 0x9f, 0x00, 0x05, 0x03, 0xac, 0x15, 0x06, 0x9a, 0x00, 0x0f, 0x2d, 0x03, 0x2f, 0x15, 0x07, 0x85, 0x94, 0x99, 0x00, 0x05, 0x03, 0xac]⟩
theorem zh_1761 : SubC cL_law zp_1761 1761 := sub_of (n := 60) (by decide +kernel)
theorem zb_1761 : (zdC zp_1761 0 (.iadd) 1 && zdC zp_1761 1 (.iaload) 1 && zdC zp_1761 2 (.aload_n 3) 1 && zdC zp_1761 3 (.invokestatic 249) 3 && zdC zp_1761 6 (.istore 6) 2 && zdC zp_1761 8 (.aload_n 2) 1 && zdC zp_1761 9 (.aload_n 0) 1 && zdC zp_1761 10 (.iload 5) 2 && zdC zp_1761 12 (.iconst 1) 1 && zdC zp_1761 13 (.iadd) 1) = true := by decide +kernel
theorem eL_law_1761 : dx cL_law 1761 (.iadd) 1 1762 := ⟨zd_c (o := 1761) (p := 0) zh_1761 (zc_1 (zc_1 (zc_1 (zc_1 (zc_1 (zc_1 (zc_1 (zc_1 (zc_1 zb_1761))))))))), rfl⟩
theorem eL_law_1762 : dx cL_law 1762 (.iaload) 1 1763 := ⟨zd_c (o := 1761) (p := 1) zh_1761 (zc_2 (zc_1 (zc_1 (zc_1 (zc_1 (zc_1 (zc_1 (zc_1 (zc_1 zb_1761))))))))), rfl⟩
theorem eL_law_1763 : dx cL_law 1763 (.aload_n 3) 1 1764 := ⟨zd_c (o := 1761) (p := 2) zh_1761 (zc_2 (zc_1 (zc_1 (zc_1 (zc_1 (zc_1 (zc_1 (zc_1 zb_1761)))))))), rfl⟩
theorem eL_law_1764 : dx cL_law 1764 (.invokestatic 249) 3 1767 := ⟨zd_c (o := 1761) (p := 3) zh_1761 (zc_2 (zc_1 (zc_1 (zc_1 (zc_1 (zc_1 (zc_1 zb_1761))))))), rfl⟩
theorem eL_law_1767 : dx cL_law 1767 (.istore 6) 2 1769 := ⟨zd_c (o := 1761) (p := 6) zh_1761 (zc_2 (zc_1 (zc_1 (zc_1 (zc_1 (zc_1 zb_1761)))))), rfl⟩
theorem eL_law_1769 : dx cL_law 1769 (.aload_n 2) 1 1770 := ⟨zd_c (o := 1761) (p := 8) zh_1761 (zc_2 (zc_1 (zc_1 (zc_1 (zc_1 zb_1761))))), rfl⟩
theorem eL_law_1770 : dx cL_law 1770 (.aload_n 0) 1 1771 := ⟨zd_c (o := 1761) (p := 9) zh_1761 (zc_2 (zc_1 (zc_1 (zc_1 zb_1761)))), rfl⟩
theorem eL_law_1771 : dx cL_law 1771 (.iload 5) 2 1773 := ⟨zd_c (o := 1761) (p := 10) zh_1761 (zc_2 (zc_1 (zc_1 zb_1761))), rfl⟩
theorem eL_law_1773 : dx cL_law 1773 (.iconst 1) 1 1774 := ⟨zd_c (o := 1761) (p := 12) zh_1761 (zc_2 (zc_1 zb_1761)), rfl⟩
theorem eL_law_1774 : dx cL_law 1774 (.iadd) 1 1775 := ⟨zd_c (o := 1761) (p := 13) zh_1761 (zc_2 zb_1761), rfl⟩
theorem zb_1775 : (zdC zp_1761 14 (.iaload) 1 && zdC zp_1761 15 (.aload_n 0) 1 && zdC zp_1761 16 (.iload 5) 2 && zdC zp_1761 18 (.iconst 2) 1 && zdC zp_1761 19 (.iadd) 1 && zdC zp_1761 20 (.iaload) 1 && zdC zp_1761 21 (.aload_n 0) 1 && zdC zp_1761 22 (.iload 5) 2 && zdC zp_1761 24 (.iconst 3) 1 && zdC zp_1761 25 (.iadd) 1) = true := by decide +kernel
theorem eL_law_1775 : dx cL_law 1775 (.iaload) 1 1776 := ⟨zd_c (o := 1761) (p := 14) zh_1761 (zc_1 (zc_1 (zc_1 (zc_1 (zc_1 (zc_1 (zc_1 (zc_1 (zc_1 zb_1775))))))))), rfl⟩
theorem eL_law_1776 : dx cL_law 1776 (.aload_n 0) 1 1777 := ⟨zd_c (o := 1761) (p := 15) zh_1761 (zc_2 (zc_1 (zc_1 (zc_1 (zc_1 (zc_1 (zc_1 (zc_1 (zc_1 zb_1775))))))))), rfl⟩
theorem eL_law_1777 : dx cL_law 1777 (.iload 5) 2 1779 := ⟨zd_c (o := 1761) (p := 16) zh_1761 (zc_2 (zc_1 (zc_1 (zc_1 (zc_1 (zc_1 (zc_1 (zc_1 zb_1775)))))))), rfl⟩
theorem eL_law_1779 : dx cL_law 1779 (.iconst 2) 1 1780 := ⟨zd_c (o := 1761) (p := 18) zh_1761 (zc_2 (zc_1 (zc_1 (zc_1 (zc_1 (zc_1 (zc_1 zb_1775))))))), rfl⟩
theorem eL_law_1780 : dx cL_law 1780 (.iadd) 1 1781 := ⟨zd_c (o := 1761) (p := 19) zh_1761 (zc_2 (zc_1 (zc_1 (zc_1 (zc_1 (zc_1 zb_1775)))))), rfl⟩
theorem eL_law_1781 : dx cL_law 1781 (.iaload) 1 1782 := ⟨zd_c (o := 1761) (p := 20) zh_1761 (zc_2 (zc_1 (zc_1 (zc_1 (zc_1 zb_1775))))), rfl⟩
theorem eL_law_1782 : dx cL_law 1782 (.aload_n 0) 1 1783 := ⟨zd_c (o := 1761) (p := 21) zh_1761 (zc_2 (zc_1 (zc_1 (zc_1 zb_1775)))), rfl⟩
theorem eL_law_1783 : dx cL_law 1783 (.iload 5) 2 1785 := ⟨zd_c (o := 1761) (p := 22) zh_1761 (zc_2 (zc_1 (zc_1 zb_1775))), rfl⟩
theorem eL_law_1785 : dx cL_law 1785 (.iconst 3) 1 1786 := ⟨zd_c (o := 1761) (p := 24) zh_1761 (zc_2 (zc_1 zb_1775)), rfl⟩
theorem eL_law_1786 : dx cL_law 1786 (.iadd) 1 1787 := ⟨zd_c (o := 1761) (p := 25) zh_1761 (zc_2 zb_1775), rfl⟩
theorem zb_1787 : (zdC zp_1761 26 (.iaload) 1 && zdC zp_1761 27 (.invokevirtual 252) 3 && zdC zp_1761 30 (.istore 7) 2 && zdC zp_1761 32 (.aload_n 2) 1 && zdC zp_1761 33 (.invokevirtual 145) 3 && zdC zp_1761 36 (.iload 6) 2 && zdC zp_1761 38 (.if_icmp .eq 5) 3 && zdC zp_1761 41 (.iconst 0) 1 && zdC zp_1761 42 (.ireturn) 1 && zdC zp_1761 43 (.iload 6) 2) = true := by decide +kernel
theorem eL_law_1787 : dx cL_law 1787 (.iaload) 1 1788 := ⟨zd_c (o := 1761) (p := 26) zh_1761 (zc_1 (zc_1 (zc_1 (zc_1 (zc_1 (zc_1 (zc_1 (zc_1 (zc_1 zb_1787))))))))), rfl⟩
theorem eL_law_1788 : dx cL_law 1788 (.invokevirtual 252) 3 1791 := ⟨zd_c (o := 1761) (p := 27) zh_1761 (zc_2 (zc_1 (zc_1 (zc_1 (zc_1 (zc_1 (zc_1 (zc_1 (zc_1 zb_1787))))))))), rfl⟩
theorem eL_law_1791 : dx cL_law 1791 (.istore 7) 2 1793 := ⟨zd_c (o := 1761) (p := 30) zh_1761 (zc_2 (zc_1 (zc_1 (zc_1 (zc_1 (zc_1 (zc_1 (zc_1 zb_1787)))))))), rfl⟩
theorem eL_law_1793 : dx cL_law 1793 (.aload_n 2) 1 1794 := ⟨zd_c (o := 1761) (p := 32) zh_1761 (zc_2 (zc_1 (zc_1 (zc_1 (zc_1 (zc_1 (zc_1 zb_1787))))))), rfl⟩
theorem eL_law_1794 : dx cL_law 1794 (.invokevirtual 145) 3 1797 := ⟨zd_c (o := 1761) (p := 33) zh_1761 (zc_2 (zc_1 (zc_1 (zc_1 (zc_1 (zc_1 zb_1787)))))), rfl⟩
theorem eL_law_1797 : dx cL_law 1797 (.iload 6) 2 1799 := ⟨zd_c (o := 1761) (p := 36) zh_1761 (zc_2 (zc_1 (zc_1 (zc_1 (zc_1 zb_1787))))), rfl⟩
theorem eL_law_1799 : dx cL_law 1799 (.if_icmp .eq 5) 3 1802 := ⟨zd_c (o := 1761) (p := 38) zh_1761 (zc_2 (zc_1 (zc_1 (zc_1 zb_1787)))), rfl⟩
theorem eL_law_1802 : dx cL_law 1802 (.iconst 0) 1 1803 := ⟨zd_c (o := 1761) (p := 41) zh_1761 (zc_2 (zc_1 (zc_1 zb_1787))), rfl⟩
theorem eL_law_1803 : dx cL_law 1803 (.ireturn) 1 1804 := ⟨zd_c (o := 1761) (p := 42) zh_1761 (zc_2 (zc_1 zb_1787)), rfl⟩
theorem eL_law_1804 : dx cL_law 1804 (.iload 6) 2 1806 := ⟨zd_c (o := 1761) (p := 43) zh_1761 (zc_2 zb_1787), rfl⟩
theorem zb_1806 : (zdC zp_1761 45 (.ifCond .ne 15) 3 && zdC zp_1761 48 (.aload_n 3) 1 && zdC zp_1761 49 (.iconst 0) 1 && zdC zp_1761 50 (.laload) 1 && zdC zp_1761 51 (.iload 7) 2 && zdC zp_1761 53 (.i2l) 1 && zdC zp_1761 54 (.lcmp) 1 && zdC zp_1761 55 (.ifCond .eq 5) 3 && zdC zp_1761 58 (.iconst 0) 1 && zdC zp_1761 59 (.ireturn) 1) = true := by decide +kernel
theorem eL_law_1806 : dx cL_law 1806 (.ifCond .ne 15) 3 1809 := ⟨zd_c (o := 1761) (p := 45) zh_1761 (zc_1 (zc_1 (zc_1 (zc_1 (zc_1 (zc_1 (zc_1 (zc_1 (zc_1 zb_1806))))))))), rfl⟩
theorem eL_law_1809 : dx cL_law 1809 (.aload_n 3) 1 1810 := ⟨zd_c (o := 1761) (p := 48) zh_1761 (zc_2 (zc_1 (zc_1 (zc_1 (zc_1 (zc_1 (zc_1 (zc_1 (zc_1 zb_1806))))))))), rfl⟩
theorem eL_law_1810 : dx cL_law 1810 (.iconst 0) 1 1811 := ⟨zd_c (o := 1761) (p := 49) zh_1761 (zc_2 (zc_1 (zc_1 (zc_1 (zc_1 (zc_1 (zc_1 (zc_1 zb_1806)))))))), rfl⟩
theorem eL_law_1811 : dx cL_law 1811 (.laload) 1 1812 := ⟨zd_c (o := 1761) (p := 50) zh_1761 (zc_2 (zc_1 (zc_1 (zc_1 (zc_1 (zc_1 (zc_1 zb_1806))))))), rfl⟩
theorem eL_law_1812 : dx cL_law 1812 (.iload 7) 2 1814 := ⟨zd_c (o := 1761) (p := 51) zh_1761 (zc_2 (zc_1 (zc_1 (zc_1 (zc_1 (zc_1 zb_1806)))))), rfl⟩
theorem eL_law_1814 : dx cL_law 1814 (.i2l) 1 1815 := ⟨zd_c (o := 1761) (p := 53) zh_1761 (zc_2 (zc_1 (zc_1 (zc_1 (zc_1 zb_1806))))), rfl⟩
theorem eL_law_1815 : dx cL_law 1815 (.lcmp) 1 1816 := ⟨zd_c (o := 1761) (p := 54) zh_1761 (zc_2 (zc_1 (zc_1 (zc_1 zb_1806)))), rfl⟩
theorem eL_law_1816 : dx cL_law 1816 (.ifCond .eq 5) 3 1819 := ⟨zd_c (o := 1761) (p := 55) zh_1761 (zc_2 (zc_1 (zc_1 zb_1806))), rfl⟩
theorem eL_law_1819 : dx cL_law 1819 (.iconst 0) 1 1820 := ⟨zd_c (o := 1761) (p := 58) zh_1761 (zc_2 (zc_1 zb_1806)), rfl⟩
theorem eL_law_1820 : dx cL_law 1820 (.ireturn) 1 1821 := ⟨zd_c (o := 1761) (p := 59) zh_1761 (zc_2 zb_1806), rfl⟩
def zp_1821 : ByteArray := ⟨#[0xa7, 0x03, 0xca, 0x2b, 0x2a, 0x15, 0x05, 0x04, 0x60, 0x2e, 0x2a, 0x15, 0x05, 0x05, 0x60, 0x2e, 0x2a, 0x15, 0x05, 0x06, 0x60, 0x2e, 0x2d, 0xb8, 0x00, 0xfd, 0x36, 0x06, 0x2c, 0x2a, 0x15, 0x05, 0x04, 0x60, 0x2e, 0x2a, 0x15, 0x05, 0x05, 0x60, 0x2e, 0x2a, 0x15, 0x05, 0x06, 0x60, 0x2e, 0xb6, 0x00, 0xff, 0x36, 0x07, 0x2c, 0xb6, 0x00, 0x91]⟩
theorem zh_1821 : SubC cL_law zp_1821 1821 := sub_of (n := 56) (by decide +kernel)
theorem zb_1821 : (zdC zp_1821 0 (.goto 970) 3 && zdC zp_1821 3 (.aload_n 1) 1 && zdC zp_1821 4 (.aload_n 0) 1 && zdC zp_1821 5 (.iload 5) 2 && zdC zp_1821 7 (.iconst 1) 1 && zdC zp_1821 8 (.iadd) 1 && zdC zp_1821 9 (.iaload) 1 && zdC zp_1821 10 (.aload_n 0) 1 && zdC zp_1821 11 (.iload 5) 2 && zdC zp_1821 13 (.iconst 2) 1) = true := by decide +kernel
theorem eL_law_1821 : dx cL_law 1821 (.goto 970) 3 1824 := ⟨zd_c (o := 1821) (p := 0) zh_1821 (zc_1 (zc_1 (zc_1 (zc_1 (zc_1 (zc_1 (zc_1 (zc_1 (zc_1 zb_1821))))))))), rfl⟩
theorem eL_law_1824 : dx cL_law 1824 (.aload_n 1) 1 1825 := ⟨zd_c (o := 1821) (p := 3) zh_1821 (zc_2 (zc_1 (zc_1 (zc_1 (zc_1 (zc_1 (zc_1 (zc_1 (zc_1 zb_1821))))))))), rfl⟩
theorem eL_law_1825 : dx cL_law 1825 (.aload_n 0) 1 1826 := ⟨zd_c (o := 1821) (p := 4) zh_1821 (zc_2 (zc_1 (zc_1 (zc_1 (zc_1 (zc_1 (zc_1 (zc_1 zb_1821)))))))), rfl⟩
theorem eL_law_1826 : dx cL_law 1826 (.iload 5) 2 1828 := ⟨zd_c (o := 1821) (p := 5) zh_1821 (zc_2 (zc_1 (zc_1 (zc_1 (zc_1 (zc_1 (zc_1 zb_1821))))))), rfl⟩
theorem eL_law_1828 : dx cL_law 1828 (.iconst 1) 1 1829 := ⟨zd_c (o := 1821) (p := 7) zh_1821 (zc_2 (zc_1 (zc_1 (zc_1 (zc_1 (zc_1 zb_1821)))))), rfl⟩
theorem eL_law_1829 : dx cL_law 1829 (.iadd) 1 1830 := ⟨zd_c (o := 1821) (p := 8) zh_1821 (zc_2 (zc_1 (zc_1 (zc_1 (zc_1 zb_1821))))), rfl⟩
theorem eL_law_1830 : dx cL_law 1830 (.iaload) 1 1831 := ⟨zd_c (o := 1821) (p := 9) zh_1821 (zc_2 (zc_1 (zc_1 (zc_1 zb_1821)))), rfl⟩
theorem eL_law_1831 : dx cL_law 1831 (.aload_n 0) 1 1832 := ⟨zd_c (o := 1821) (p := 10) zh_1821 (zc_2 (zc_1 (zc_1 zb_1821))), rfl⟩
theorem eL_law_1832 : dx cL_law 1832 (.iload 5) 2 1834 := ⟨zd_c (o := 1821) (p := 11) zh_1821 (zc_2 (zc_1 zb_1821)), rfl⟩
theorem eL_law_1834 : dx cL_law 1834 (.iconst 2) 1 1835 := ⟨zd_c (o := 1821) (p := 13) zh_1821 (zc_2 zb_1821), rfl⟩
theorem zb_1835 : (zdC zp_1821 14 (.iadd) 1 && zdC zp_1821 15 (.iaload) 1 && zdC zp_1821 16 (.aload_n 0) 1 && zdC zp_1821 17 (.iload 5) 2 && zdC zp_1821 19 (.iconst 3) 1 && zdC zp_1821 20 (.iadd) 1 && zdC zp_1821 21 (.iaload) 1 && zdC zp_1821 22 (.aload_n 3) 1 && zdC zp_1821 23 (.invokestatic 253) 3 && zdC zp_1821 26 (.istore 6) 2) = true := by decide +kernel
theorem eL_law_1835 : dx cL_law 1835 (.iadd) 1 1836 := ⟨zd_c (o := 1821) (p := 14) zh_1821 (zc_1 (zc_1 (zc_1 (zc_1 (zc_1 (zc_1 (zc_1 (zc_1 (zc_1 zb_1835))))))))), rfl⟩
theorem eL_law_1836 : dx cL_law 1836 (.iaload) 1 1837 := ⟨zd_c (o := 1821) (p := 15) zh_1821 (zc_2 (zc_1 (zc_1 (zc_1 (zc_1 (zc_1 (zc_1 (zc_1 (zc_1 zb_1835))))))))), rfl⟩
theorem eL_law_1837 : dx cL_law 1837 (.aload_n 0) 1 1838 := ⟨zd_c (o := 1821) (p := 16) zh_1821 (zc_2 (zc_1 (zc_1 (zc_1 (zc_1 (zc_1 (zc_1 (zc_1 zb_1835)))))))), rfl⟩
theorem eL_law_1838 : dx cL_law 1838 (.iload 5) 2 1840 := ⟨zd_c (o := 1821) (p := 17) zh_1821 (zc_2 (zc_1 (zc_1 (zc_1 (zc_1 (zc_1 (zc_1 zb_1835))))))), rfl⟩
theorem eL_law_1840 : dx cL_law 1840 (.iconst 3) 1 1841 := ⟨zd_c (o := 1821) (p := 19) zh_1821 (zc_2 (zc_1 (zc_1 (zc_1 (zc_1 (zc_1 zb_1835)))))), rfl⟩
theorem eL_law_1841 : dx cL_law 1841 (.iadd) 1 1842 := ⟨zd_c (o := 1821) (p := 20) zh_1821 (zc_2 (zc_1 (zc_1 (zc_1 (zc_1 zb_1835))))), rfl⟩
theorem eL_law_1842 : dx cL_law 1842 (.iaload) 1 1843 := ⟨zd_c (o := 1821) (p := 21) zh_1821 (zc_2 (zc_1 (zc_1 (zc_1 zb_1835)))), rfl⟩
theorem eL_law_1843 : dx cL_law 1843 (.aload_n 3) 1 1844 := ⟨zd_c (o := 1821) (p := 22) zh_1821 (zc_2 (zc_1 (zc_1 zb_1835))), rfl⟩
theorem eL_law_1844 : dx cL_law 1844 (.invokestatic 253) 3 1847 := ⟨zd_c (o := 1821) (p := 23) zh_1821 (zc_2 (zc_1 zb_1835)), rfl⟩
theorem eL_law_1847 : dx cL_law 1847 (.istore 6) 2 1849 := ⟨zd_c (o := 1821) (p := 26) zh_1821 (zc_2 zb_1835), rfl⟩
theorem zb_1849 : (zdC zp_1821 28 (.aload_n 2) 1 && zdC zp_1821 29 (.aload_n 0) 1 && zdC zp_1821 30 (.iload 5) 2 && zdC zp_1821 32 (.iconst 1) 1 && zdC zp_1821 33 (.iadd) 1 && zdC zp_1821 34 (.iaload) 1 && zdC zp_1821 35 (.aload_n 0) 1 && zdC zp_1821 36 (.iload 5) 2 && zdC zp_1821 38 (.iconst 2) 1 && zdC zp_1821 39 (.iadd) 1) = true := by decide +kernel
theorem eL_law_1849 : dx cL_law 1849 (.aload_n 2) 1 1850 := ⟨zd_c (o := 1821) (p := 28) zh_1821 (zc_1 (zc_1 (zc_1 (zc_1 (zc_1 (zc_1 (zc_1 (zc_1 (zc_1 zb_1849))))))))), rfl⟩
theorem eL_law_1850 : dx cL_law 1850 (.aload_n 0) 1 1851 := ⟨zd_c (o := 1821) (p := 29) zh_1821 (zc_2 (zc_1 (zc_1 (zc_1 (zc_1 (zc_1 (zc_1 (zc_1 (zc_1 zb_1849))))))))), rfl⟩
theorem eL_law_1851 : dx cL_law 1851 (.iload 5) 2 1853 := ⟨zd_c (o := 1821) (p := 30) zh_1821 (zc_2 (zc_1 (zc_1 (zc_1 (zc_1 (zc_1 (zc_1 (zc_1 zb_1849)))))))), rfl⟩
theorem eL_law_1853 : dx cL_law 1853 (.iconst 1) 1 1854 := ⟨zd_c (o := 1821) (p := 32) zh_1821 (zc_2 (zc_1 (zc_1 (zc_1 (zc_1 (zc_1 (zc_1 zb_1849))))))), rfl⟩
theorem eL_law_1854 : dx cL_law 1854 (.iadd) 1 1855 := ⟨zd_c (o := 1821) (p := 33) zh_1821 (zc_2 (zc_1 (zc_1 (zc_1 (zc_1 (zc_1 zb_1849)))))), rfl⟩
theorem eL_law_1855 : dx cL_law 1855 (.iaload) 1 1856 := ⟨zd_c (o := 1821) (p := 34) zh_1821 (zc_2 (zc_1 (zc_1 (zc_1 (zc_1 zb_1849))))), rfl⟩
theorem eL_law_1856 : dx cL_law 1856 (.aload_n 0) 1 1857 := ⟨zd_c (o := 1821) (p := 35) zh_1821 (zc_2 (zc_1 (zc_1 (zc_1 zb_1849)))), rfl⟩
theorem eL_law_1857 : dx cL_law 1857 (.iload 5) 2 1859 := ⟨zd_c (o := 1821) (p := 36) zh_1821 (zc_2 (zc_1 (zc_1 zb_1849))), rfl⟩
theorem eL_law_1859 : dx cL_law 1859 (.iconst 2) 1 1860 := ⟨zd_c (o := 1821) (p := 38) zh_1821 (zc_2 (zc_1 zb_1849)), rfl⟩
theorem eL_law_1860 : dx cL_law 1860 (.iadd) 1 1861 := ⟨zd_c (o := 1821) (p := 39) zh_1821 (zc_2 zb_1849), rfl⟩
theorem zb_1861 : (zdC zp_1821 40 (.iaload) 1 && zdC zp_1821 41 (.aload_n 0) 1 && zdC zp_1821 42 (.iload 5) 2 && zdC zp_1821 44 (.iconst 3) 1 && zdC zp_1821 45 (.iadd) 1 && zdC zp_1821 46 (.iaload) 1 && zdC zp_1821 47 (.invokevirtual 255) 3 && zdC zp_1821 50 (.istore 7) 2 && zdC zp_1821 52 (.aload_n 2) 1 && zdC zp_1821 53 (.invokevirtual 145) 3) = true := by decide +kernel
theorem eL_law_1861 : dx cL_law 1861 (.iaload) 1 1862 := ⟨zd_c (o := 1821) (p := 40) zh_1821 (zc_1 (zc_1 (zc_1 (zc_1 (zc_1 (zc_1 (zc_1 (zc_1 (zc_1 zb_1861))))))))), rfl⟩
theorem eL_law_1862 : dx cL_law 1862 (.aload_n 0) 1 1863 := ⟨zd_c (o := 1821) (p := 41) zh_1821 (zc_2 (zc_1 (zc_1 (zc_1 (zc_1 (zc_1 (zc_1 (zc_1 (zc_1 zb_1861))))))))), rfl⟩
theorem eL_law_1863 : dx cL_law 1863 (.iload 5) 2 1865 := ⟨zd_c (o := 1821) (p := 42) zh_1821 (zc_2 (zc_1 (zc_1 (zc_1 (zc_1 (zc_1 (zc_1 (zc_1 zb_1861)))))))), rfl⟩
theorem eL_law_1865 : dx cL_law 1865 (.iconst 3) 1 1866 := ⟨zd_c (o := 1821) (p := 44) zh_1821 (zc_2 (zc_1 (zc_1 (zc_1 (zc_1 (zc_1 (zc_1 zb_1861))))))), rfl⟩
theorem eL_law_1866 : dx cL_law 1866 (.iadd) 1 1867 := ⟨zd_c (o := 1821) (p := 45) zh_1821 (zc_2 (zc_1 (zc_1 (zc_1 (zc_1 (zc_1 zb_1861)))))), rfl⟩
theorem eL_law_1867 : dx cL_law 1867 (.iaload) 1 1868 := ⟨zd_c (o := 1821) (p := 46) zh_1821 (zc_2 (zc_1 (zc_1 (zc_1 (zc_1 zb_1861))))), rfl⟩
theorem eL_law_1868 : dx cL_law 1868 (.invokevirtual 255) 3 1871 := ⟨zd_c (o := 1821) (p := 47) zh_1821 (zc_2 (zc_1 (zc_1 (zc_1 zb_1861)))), rfl⟩
theorem eL_law_1871 : dx cL_law 1871 (.istore 7) 2 1873 := ⟨zd_c (o := 1821) (p := 50) zh_1821 (zc_2 (zc_1 (zc_1 zb_1861))), rfl⟩
theorem eL_law_1873 : dx cL_law 1873 (.aload_n 2) 1 1874 := ⟨zd_c (o := 1821) (p := 52) zh_1821 (zc_2 (zc_1 zb_1861)), rfl⟩
theorem eL_law_1874 : dx cL_law 1874 (.invokevirtual 145) 3 1877 := ⟨zd_c (o := 1821) (p := 53) zh_1821 (zc_2 zb_1861), rfl⟩
def zp_1877 : ByteArray := ⟨#[0x15, 0x06, 0x9f, 0x00, 0x05, 0x03, 0xac, 0x15, 0x06, 0x9a, 0x00, 0x0f, 0x2d, 0x03, 0x2f, 0x15, 0x07, 0x85, 0x94, 0x99, 0x00, 0x05, 0x03, 0xac, 0xa7, 0x03, 0x7a, 0x2b, 0x2a, 0x15, 0x05, 0x04, 0x60, 0x2e, 0x2d, 0xb8, 0x01, 0x00, 0x36, 0x06, 0x2c, 0x2a, 0x15, 0x05, 0x04, 0x60, 0x2e, 0xb6, 0x01, 0x02, 0x36, 0x07, 0x2c, 0xb6, 0x00, 0x91, 0x15, 0x06, 0x9f, 0x00, 0x05, 0x03, 0xac, 0x15, 0x06]⟩
theorem zh_1877 : SubC cL_law zp_1877 1877 := sub_of (n := 65) (by decide +kernel)
theorem zb_1877 : (zdC zp_1877 0 (.iload 6) 2 && zdC zp_1877 2 (.if_icmp .eq 5) 3 && zdC zp_1877 5 (.iconst 0) 1 && zdC zp_1877 6 (.ireturn) 1 && zdC zp_1877 7 (.iload 6) 2 && zdC zp_1877 9 (.ifCond .ne 15) 3 && zdC zp_1877 12 (.aload_n 3) 1 && zdC zp_1877 13 (.iconst 0) 1 && zdC zp_1877 14 (.laload) 1 && zdC zp_1877 15 (.iload 7) 2) = true := by decide +kernel
theorem eL_law_1877 : dx cL_law 1877 (.iload 6) 2 1879 := ⟨zd_c (o := 1877) (p := 0) zh_1877 (zc_1 (zc_1 (zc_1 (zc_1 (zc_1 (zc_1 (zc_1 (zc_1 (zc_1 zb_1877))))))))), rfl⟩
theorem eL_law_1879 : dx cL_law 1879 (.if_icmp .eq 5) 3 1882 := ⟨zd_c (o := 1877) (p := 2) zh_1877 (zc_2 (zc_1 (zc_1 (zc_1 (zc_1 (zc_1 (zc_1 (zc_1 (zc_1 zb_1877))))))))), rfl⟩
theorem eL_law_1882 : dx cL_law 1882 (.iconst 0) 1 1883 := ⟨zd_c (o := 1877) (p := 5) zh_1877 (zc_2 (zc_1 (zc_1 (zc_1 (zc_1 (zc_1 (zc_1 (zc_1 zb_1877)))))))), rfl⟩
theorem eL_law_1883 : dx cL_law 1883 (.ireturn) 1 1884 := ⟨zd_c (o := 1877) (p := 6) zh_1877 (zc_2 (zc_1 (zc_1 (zc_1 (zc_1 (zc_1 (zc_1 zb_1877))))))), rfl⟩
theorem eL_law_1884 : dx cL_law 1884 (.iload 6) 2 1886 := ⟨zd_c (o := 1877) (p := 7) zh_1877 (zc_2 (zc_1 (zc_1 (zc_1 (zc_1 (zc_1 zb_1877)))))), rfl⟩
theorem eL_law_1886 : dx cL_law 1886 (.ifCond .ne 15) 3 1889 := ⟨zd_c (o := 1877) (p := 9) zh_1877 (zc_2 (zc_1 (zc_1 (zc_1 (zc_1 zb_1877))))), rfl⟩
theorem eL_law_1889 : dx cL_law 1889 (.aload_n 3) 1 1890 := ⟨zd_c (o := 1877) (p := 12) zh_1877 (zc_2 (zc_1 (zc_1 (zc_1 zb_1877)))), rfl⟩
theorem eL_law_1890 : dx cL_law 1890 (.iconst 0) 1 1891 := ⟨zd_c (o := 1877) (p := 13) zh_1877 (zc_2 (zc_1 (zc_1 zb_1877))), rfl⟩
theorem eL_law_1891 : dx cL_law 1891 (.laload) 1 1892 := ⟨zd_c (o := 1877) (p := 14) zh_1877 (zc_2 (zc_1 zb_1877)), rfl⟩
theorem eL_law_1892 : dx cL_law 1892 (.iload 7) 2 1894 := ⟨zd_c (o := 1877) (p := 15) zh_1877 (zc_2 zb_1877), rfl⟩
theorem zb_1894 : (zdC zp_1877 17 (.i2l) 1 && zdC zp_1877 18 (.lcmp) 1 && zdC zp_1877 19 (.ifCond .eq 5) 3 && zdC zp_1877 22 (.iconst 0) 1 && zdC zp_1877 23 (.ireturn) 1 && zdC zp_1877 24 (.goto 890) 3 && zdC zp_1877 27 (.aload_n 1) 1 && zdC zp_1877 28 (.aload_n 0) 1 && zdC zp_1877 29 (.iload 5) 2 && zdC zp_1877 31 (.iconst 1) 1) = true := by decide +kernel
theorem eL_law_1894 : dx cL_law 1894 (.i2l) 1 1895 := ⟨zd_c (o := 1877) (p := 17) zh_1877 (zc_1 (zc_1 (zc_1 (zc_1 (zc_1 (zc_1 (zc_1 (zc_1 (zc_1 zb_1894))))))))), rfl⟩
theorem eL_law_1895 : dx cL_law 1895 (.lcmp) 1 1896 := ⟨zd_c (o := 1877) (p := 18) zh_1877 (zc_2 (zc_1 (zc_1 (zc_1 (zc_1 (zc_1 (zc_1 (zc_1 (zc_1 zb_1894))))))))), rfl⟩
theorem eL_law_1896 : dx cL_law 1896 (.ifCond .eq 5) 3 1899 := ⟨zd_c (o := 1877) (p := 19) zh_1877 (zc_2 (zc_1 (zc_1 (zc_1 (zc_1 (zc_1 (zc_1 (zc_1 zb_1894)))))))), rfl⟩
theorem eL_law_1899 : dx cL_law 1899 (.iconst 0) 1 1900 := ⟨zd_c (o := 1877) (p := 22) zh_1877 (zc_2 (zc_1 (zc_1 (zc_1 (zc_1 (zc_1 (zc_1 zb_1894))))))), rfl⟩
theorem eL_law_1900 : dx cL_law 1900 (.ireturn) 1 1901 := ⟨zd_c (o := 1877) (p := 23) zh_1877 (zc_2 (zc_1 (zc_1 (zc_1 (zc_1 (zc_1 zb_1894)))))), rfl⟩
theorem eL_law_1901 : dx cL_law 1901 (.goto 890) 3 1904 := ⟨zd_c (o := 1877) (p := 24) zh_1877 (zc_2 (zc_1 (zc_1 (zc_1 (zc_1 zb_1894))))), rfl⟩
theorem eL_law_1904 : dx cL_law 1904 (.aload_n 1) 1 1905 := ⟨zd_c (o := 1877) (p := 27) zh_1877 (zc_2 (zc_1 (zc_1 (zc_1 zb_1894)))), rfl⟩
theorem eL_law_1905 : dx cL_law 1905 (.aload_n 0) 1 1906 := ⟨zd_c (o := 1877) (p := 28) zh_1877 (zc_2 (zc_1 (zc_1 zb_1894))), rfl⟩
theorem eL_law_1906 : dx cL_law 1906 (.iload 5) 2 1908 := ⟨zd_c (o := 1877) (p := 29) zh_1877 (zc_2 (zc_1 zb_1894)), rfl⟩
theorem eL_law_1908 : dx cL_law 1908 (.iconst 1) 1 1909 := ⟨zd_c (o := 1877) (p := 31) zh_1877 (zc_2 zb_1894), rfl⟩
theorem zb_1909 : (zdC zp_1877 32 (.iadd) 1 && zdC zp_1877 33 (.iaload) 1 && zdC zp_1877 34 (.aload_n 3) 1 && zdC zp_1877 35 (.invokestatic 256) 3 && zdC zp_1877 38 (.istore 6) 2 && zdC zp_1877 40 (.aload_n 2) 1 && zdC zp_1877 41 (.aload_n 0) 1 && zdC zp_1877 42 (.iload 5) 2 && zdC zp_1877 44 (.iconst 1) 1 && zdC zp_1877 45 (.iadd) 1) = true := by decide +kernel
theorem eL_law_1909 : dx cL_law 1909 (.iadd) 1 1910 := ⟨zd_c (o := 1877) (p := 32) zh_1877 (zc_1 (zc_1 (zc_1 (zc_1 (zc_1 (zc_1 (zc_1 (zc_1 (zc_1 zb_1909))))))))), rfl⟩
theorem eL_law_1910 : dx cL_law 1910 (.iaload) 1 1911 := ⟨zd_c (o := 1877) (p := 33) zh_1877 (zc_2 (zc_1 (zc_1 (zc_1 (zc_1 (zc_1 (zc_1 (zc_1 (zc_1 zb_1909))))))))), rfl⟩
theorem eL_law_1911 : dx cL_law 1911 (.aload_n 3) 1 1912 := ⟨zd_c (o := 1877) (p := 34) zh_1877 (zc_2 (zc_1 (zc_1 (zc_1 (zc_1 (zc_1 (zc_1 (zc_1 zb_1909)))))))), rfl⟩
theorem eL_law_1912 : dx cL_law 1912 (.invokestatic 256) 3 1915 := ⟨zd_c (o := 1877) (p := 35) zh_1877 (zc_2 (zc_1 (zc_1 (zc_1 (zc_1 (zc_1 (zc_1 zb_1909))))))), rfl⟩
theorem eL_law_1915 : dx cL_law 1915 (.istore 6) 2 1917 := ⟨zd_c (o := 1877) (p := 38) zh_1877 (zc_2 (zc_1 (zc_1 (zc_1 (zc_1 (zc_1 zb_1909)))))), rfl⟩
theorem eL_law_1917 : dx cL_law 1917 (.aload_n 2) 1 1918 := ⟨zd_c (o := 1877) (p := 40) zh_1877 (zc_2 (zc_1 (zc_1 (zc_1 (zc_1 zb_1909))))), rfl⟩
theorem eL_law_1918 : dx cL_law 1918 (.aload_n 0) 1 1919 := ⟨zd_c (o := 1877) (p := 41) zh_1877 (zc_2 (zc_1 (zc_1 (zc_1 zb_1909)))), rfl⟩
theorem eL_law_1919 : dx cL_law 1919 (.iload 5) 2 1921 := ⟨zd_c (o := 1877) (p := 42) zh_1877 (zc_2 (zc_1 (zc_1 zb_1909))), rfl⟩
theorem eL_law_1921 : dx cL_law 1921 (.iconst 1) 1 1922 := ⟨zd_c (o := 1877) (p := 44) zh_1877 (zc_2 (zc_1 zb_1909)), rfl⟩
theorem eL_law_1922 : dx cL_law 1922 (.iadd) 1 1923 := ⟨zd_c (o := 1877) (p := 45) zh_1877 (zc_2 zb_1909), rfl⟩
theorem zb_1923 : (zdC zp_1877 46 (.iaload) 1 && zdC zp_1877 47 (.invokevirtual 258) 3 && zdC zp_1877 50 (.istore 7) 2 && zdC zp_1877 52 (.aload_n 2) 1 && zdC zp_1877 53 (.invokevirtual 145) 3 && zdC zp_1877 56 (.iload 6) 2 && zdC zp_1877 58 (.if_icmp .eq 5) 3 && zdC zp_1877 61 (.iconst 0) 1 && zdC zp_1877 62 (.ireturn) 1 && zdC zp_1877 63 (.iload 6) 2) = true := by decide +kernel
theorem eL_law_1923 : dx cL_law 1923 (.iaload) 1 1924 := ⟨zd_c (o := 1877) (p := 46) zh_1877 (zc_1 (zc_1 (zc_1 (zc_1 (zc_1 (zc_1 (zc_1 (zc_1 (zc_1 zb_1923))))))))), rfl⟩
theorem eL_law_1924 : dx cL_law 1924 (.invokevirtual 258) 3 1927 := ⟨zd_c (o := 1877) (p := 47) zh_1877 (zc_2 (zc_1 (zc_1 (zc_1 (zc_1 (zc_1 (zc_1 (zc_1 (zc_1 zb_1923))))))))), rfl⟩
theorem eL_law_1927 : dx cL_law 1927 (.istore 7) 2 1929 := ⟨zd_c (o := 1877) (p := 50) zh_1877 (zc_2 (zc_1 (zc_1 (zc_1 (zc_1 (zc_1 (zc_1 (zc_1 zb_1923)))))))), rfl⟩
theorem eL_law_1929 : dx cL_law 1929 (.aload_n 2) 1 1930 := ⟨zd_c (o := 1877) (p := 52) zh_1877 (zc_2 (zc_1 (zc_1 (zc_1 (zc_1 (zc_1 (zc_1 zb_1923))))))), rfl⟩
theorem eL_law_1930 : dx cL_law 1930 (.invokevirtual 145) 3 1933 := ⟨zd_c (o := 1877) (p := 53) zh_1877 (zc_2 (zc_1 (zc_1 (zc_1 (zc_1 (zc_1 zb_1923)))))), rfl⟩
theorem eL_law_1933 : dx cL_law 1933 (.iload 6) 2 1935 := ⟨zd_c (o := 1877) (p := 56) zh_1877 (zc_2 (zc_1 (zc_1 (zc_1 (zc_1 zb_1923))))), rfl⟩
theorem eL_law_1935 : dx cL_law 1935 (.if_icmp .eq 5) 3 1938 := ⟨zd_c (o := 1877) (p := 58) zh_1877 (zc_2 (zc_1 (zc_1 (zc_1 zb_1923)))), rfl⟩
theorem eL_law_1938 : dx cL_law 1938 (.iconst 0) 1 1939 := ⟨zd_c (o := 1877) (p := 61) zh_1877 (zc_2 (zc_1 (zc_1 zb_1923))), rfl⟩
theorem eL_law_1939 : dx cL_law 1939 (.ireturn) 1 1940 := ⟨zd_c (o := 1877) (p := 62) zh_1877 (zc_2 (zc_1 zb_1923)), rfl⟩
theorem eL_law_1940 : dx cL_law 1940 (.iload 6) 2 1942 := ⟨zd_c (o := 1877) (p := 63) zh_1877 (zc_2 zb_1923), rfl⟩
def zp_1942 : ByteArray := ⟨#[0x9a, 0x00, 0x0f, 0x2d, 0x03, 0x2f, 0x15, 0x07, 0x85, 0x94, 0x99, 0x00, 0x05, 0x03, 0xac, 0xa7, 0x03, 0x42, 0x2b, 0x2a, 0x15, 0x05, 0x04, 0x60, 0x2e, 0x2a, 0x15, 0x05, 0x05, 0x60, 0x2e, 0x2a, 0x15, 0x05, 0x06, 0x60, 0x2e, 0x2d, 0xb8, 0x01, 0x03, 0x36, 0x06, 0x2c, 0x2a, 0x15, 0x05, 0x04, 0x60, 0x2e, 0x2a, 0x15, 0x05, 0x05, 0x60]⟩
theorem zh_1942 : SubC cL_law zp_1942 1942 := sub_of (n := 55) (by decide +kernel)
theorem zb_1942 : (zdC zp_1942 0 (.ifCond .ne 15) 3 && zdC zp_1942 3 (.aload_n 3) 1 && zdC zp_1942 4 (.iconst 0) 1 && zdC zp_1942 5 (.laload) 1 && zdC zp_1942 6 (.iload 7) 2 && zdC zp_1942 8 (.i2l) 1 && zdC zp_1942 9 (.lcmp) 1 && zdC zp_1942 10 (.ifCond .eq 5) 3 && zdC zp_1942 13 (.iconst 0) 1 && zdC zp_1942 14 (.ireturn) 1) = true := by decide +kernel
theorem eL_law_1942 : dx cL_law 1942 (.ifCond .ne 15) 3 1945 := ⟨zd_c (o := 1942) (p := 0) zh_1942 (zc_1 (zc_1 (zc_1 (zc_1 (zc_1 (zc_1 (zc_1 (zc_1 (zc_1 zb_1942))))))))), rfl⟩
theorem eL_law_1945 : dx cL_law 1945 (.aload_n 3) 1 1946 := ⟨zd_c (o := 1942) (p := 3) zh_1942 (zc_2 (zc_1 (zc_1 (zc_1 (zc_1 (zc_1 (zc_1 (zc_1 (zc_1 zb_1942))))))))), rfl⟩
theorem eL_law_1946 : dx cL_law 1946 (.iconst 0) 1 1947 := ⟨zd_c (o := 1942) (p := 4) zh_1942 (zc_2 (zc_1 (zc_1 (zc_1 (zc_1 (zc_1 (zc_1 (zc_1 zb_1942)))))))), rfl⟩
theorem eL_law_1947 : dx cL_law 1947 (.laload) 1 1948 := ⟨zd_c (o := 1942) (p := 5) zh_1942 (zc_2 (zc_1 (zc_1 (zc_1 (zc_1 (zc_1 (zc_1 zb_1942))))))), rfl⟩
theorem eL_law_1948 : dx cL_law 1948 (.iload 7) 2 1950 := ⟨zd_c (o := 1942) (p := 6) zh_1942 (zc_2 (zc_1 (zc_1 (zc_1 (zc_1 (zc_1 zb_1942)))))), rfl⟩
theorem eL_law_1950 : dx cL_law 1950 (.i2l) 1 1951 := ⟨zd_c (o := 1942) (p := 8) zh_1942 (zc_2 (zc_1 (zc_1 (zc_1 (zc_1 zb_1942))))), rfl⟩
theorem eL_law_1951 : dx cL_law 1951 (.lcmp) 1 1952 := ⟨zd_c (o := 1942) (p := 9) zh_1942 (zc_2 (zc_1 (zc_1 (zc_1 zb_1942)))), rfl⟩
theorem eL_law_1952 : dx cL_law 1952 (.ifCond .eq 5) 3 1955 := ⟨zd_c (o := 1942) (p := 10) zh_1942 (zc_2 (zc_1 (zc_1 zb_1942))), rfl⟩
theorem eL_law_1955 : dx cL_law 1955 (.iconst 0) 1 1956 := ⟨zd_c (o := 1942) (p := 13) zh_1942 (zc_2 (zc_1 zb_1942)), rfl⟩
theorem eL_law_1956 : dx cL_law 1956 (.ireturn) 1 1957 := ⟨zd_c (o := 1942) (p := 14) zh_1942 (zc_2 zb_1942), rfl⟩
theorem zb_1957 : (zdC zp_1942 15 (.goto 834) 3 && zdC zp_1942 18 (.aload_n 1) 1 && zdC zp_1942 19 (.aload_n 0) 1 && zdC zp_1942 20 (.iload 5) 2 && zdC zp_1942 22 (.iconst 1) 1 && zdC zp_1942 23 (.iadd) 1 && zdC zp_1942 24 (.iaload) 1 && zdC zp_1942 25 (.aload_n 0) 1 && zdC zp_1942 26 (.iload 5) 2 && zdC zp_1942 28 (.iconst 2) 1) = true := by decide +kernel
theorem eL_law_1957 : dx cL_law 1957 (.goto 834) 3 1960 := ⟨zd_c (o := 1942) (p := 15) zh_1942 (zc_1 (zc_1 (zc_1 (zc_1 (zc_1 (zc_1 (zc_1 (zc_1 (zc_1 zb_1957))))))))), rfl⟩
theorem eL_law_1960 : dx cL_law 1960 (.aload_n 1) 1 1961 := ⟨zd_c (o := 1942) (p := 18) zh_1942 (zc_2 (zc_1 (zc_1 (zc_1 (zc_1 (zc_1 (zc_1 (zc_1 (zc_1 zb_1957))))))))), rfl⟩
theorem eL_law_1961 : dx cL_law 1961 (.aload_n 0) 1 1962 := ⟨zd_c (o := 1942) (p := 19) zh_1942 (zc_2 (zc_1 (zc_1 (zc_1 (zc_1 (zc_1 (zc_1 (zc_1 zb_1957)))))))), rfl⟩
theorem eL_law_1962 : dx cL_law 1962 (.iload 5) 2 1964 := ⟨zd_c (o := 1942) (p := 20) zh_1942 (zc_2 (zc_1 (zc_1 (zc_1 (zc_1 (zc_1 (zc_1 zb_1957))))))), rfl⟩
theorem eL_law_1964 : dx cL_law 1964 (.iconst 1) 1 1965 := ⟨zd_c (o := 1942) (p := 22) zh_1942 (zc_2 (zc_1 (zc_1 (zc_1 (zc_1 (zc_1 zb_1957)))))), rfl⟩
theorem eL_law_1965 : dx cL_law 1965 (.iadd) 1 1966 := ⟨zd_c (o := 1942) (p := 23) zh_1942 (zc_2 (zc_1 (zc_1 (zc_1 (zc_1 zb_1957))))), rfl⟩
theorem eL_law_1966 : dx cL_law 1966 (.iaload) 1 1967 := ⟨zd_c (o := 1942) (p := 24) zh_1942 (zc_2 (zc_1 (zc_1 (zc_1 zb_1957)))), rfl⟩
theorem eL_law_1967 : dx cL_law 1967 (.aload_n 0) 1 1968 := ⟨zd_c (o := 1942) (p := 25) zh_1942 (zc_2 (zc_1 (zc_1 zb_1957))), rfl⟩
theorem eL_law_1968 : dx cL_law 1968 (.iload 5) 2 1970 := ⟨zd_c (o := 1942) (p := 26) zh_1942 (zc_2 (zc_1 zb_1957)), rfl⟩
theorem eL_law_1970 : dx cL_law 1970 (.iconst 2) 1 1971 := ⟨zd_c (o := 1942) (p := 28) zh_1942 (zc_2 zb_1957), rfl⟩
theorem zb_1971 : (zdC zp_1942 29 (.iadd) 1 && zdC zp_1942 30 (.iaload) 1 && zdC zp_1942 31 (.aload_n 0) 1 && zdC zp_1942 32 (.iload 5) 2 && zdC zp_1942 34 (.iconst 3) 1 && zdC zp_1942 35 (.iadd) 1 && zdC zp_1942 36 (.iaload) 1 && zdC zp_1942 37 (.aload_n 3) 1 && zdC zp_1942 38 (.invokestatic 259) 3 && zdC zp_1942 41 (.istore 6) 2) = true := by decide +kernel
theorem eL_law_1971 : dx cL_law 1971 (.iadd) 1 1972 := ⟨zd_c (o := 1942) (p := 29) zh_1942 (zc_1 (zc_1 (zc_1 (zc_1 (zc_1 (zc_1 (zc_1 (zc_1 (zc_1 zb_1971))))))))), rfl⟩
theorem eL_law_1972 : dx cL_law 1972 (.iaload) 1 1973 := ⟨zd_c (o := 1942) (p := 30) zh_1942 (zc_2 (zc_1 (zc_1 (zc_1 (zc_1 (zc_1 (zc_1 (zc_1 (zc_1 zb_1971))))))))), rfl⟩
theorem eL_law_1973 : dx cL_law 1973 (.aload_n 0) 1 1974 := ⟨zd_c (o := 1942) (p := 31) zh_1942 (zc_2 (zc_1 (zc_1 (zc_1 (zc_1 (zc_1 (zc_1 (zc_1 zb_1971)))))))), rfl⟩
theorem eL_law_1974 : dx cL_law 1974 (.iload 5) 2 1976 := ⟨zd_c (o := 1942) (p := 32) zh_1942 (zc_2 (zc_1 (zc_1 (zc_1 (zc_1 (zc_1 (zc_1 zb_1971))))))), rfl⟩
theorem eL_law_1976 : dx cL_law 1976 (.iconst 3) 1 1977 := ⟨zd_c (o := 1942) (p := 34) zh_1942 (zc_2 (zc_1 (zc_1 (zc_1 (zc_1 (zc_1 zb_1971)))))), rfl⟩
theorem eL_law_1977 : dx cL_law 1977 (.iadd) 1 1978 := ⟨zd_c (o := 1942) (p := 35) zh_1942 (zc_2 (zc_1 (zc_1 (zc_1 (zc_1 zb_1971))))), rfl⟩
theorem eL_law_1978 : dx cL_law 1978 (.iaload) 1 1979 := ⟨zd_c (o := 1942) (p := 36) zh_1942 (zc_2 (zc_1 (zc_1 (zc_1 zb_1971)))), rfl⟩
theorem eL_law_1979 : dx cL_law 1979 (.aload_n 3) 1 1980 := ⟨zd_c (o := 1942) (p := 37) zh_1942 (zc_2 (zc_1 (zc_1 zb_1971))), rfl⟩
theorem eL_law_1980 : dx cL_law 1980 (.invokestatic 259) 3 1983 := ⟨zd_c (o := 1942) (p := 38) zh_1942 (zc_2 (zc_1 zb_1971)), rfl⟩
theorem eL_law_1983 : dx cL_law 1983 (.istore 6) 2 1985 := ⟨zd_c (o := 1942) (p := 41) zh_1942 (zc_2 zb_1971), rfl⟩
theorem zb_1985 : (zdC zp_1942 43 (.aload_n 2) 1 && zdC zp_1942 44 (.aload_n 0) 1 && zdC zp_1942 45 (.iload 5) 2 && zdC zp_1942 47 (.iconst 1) 1 && zdC zp_1942 48 (.iadd) 1 && zdC zp_1942 49 (.iaload) 1 && zdC zp_1942 50 (.aload_n 0) 1 && zdC zp_1942 51 (.iload 5) 2 && zdC zp_1942 53 (.iconst 2) 1 && zdC zp_1942 54 (.iadd) 1) = true := by decide +kernel
theorem eL_law_1985 : dx cL_law 1985 (.aload_n 2) 1 1986 := ⟨zd_c (o := 1942) (p := 43) zh_1942 (zc_1 (zc_1 (zc_1 (zc_1 (zc_1 (zc_1 (zc_1 (zc_1 (zc_1 zb_1985))))))))), rfl⟩
theorem eL_law_1986 : dx cL_law 1986 (.aload_n 0) 1 1987 := ⟨zd_c (o := 1942) (p := 44) zh_1942 (zc_2 (zc_1 (zc_1 (zc_1 (zc_1 (zc_1 (zc_1 (zc_1 (zc_1 zb_1985))))))))), rfl⟩
theorem eL_law_1987 : dx cL_law 1987 (.iload 5) 2 1989 := ⟨zd_c (o := 1942) (p := 45) zh_1942 (zc_2 (zc_1 (zc_1 (zc_1 (zc_1 (zc_1 (zc_1 (zc_1 zb_1985)))))))), rfl⟩
theorem eL_law_1989 : dx cL_law 1989 (.iconst 1) 1 1990 := ⟨zd_c (o := 1942) (p := 47) zh_1942 (zc_2 (zc_1 (zc_1 (zc_1 (zc_1 (zc_1 (zc_1 zb_1985))))))), rfl⟩
theorem eL_law_1990 : dx cL_law 1990 (.iadd) 1 1991 := ⟨zd_c (o := 1942) (p := 48) zh_1942 (zc_2 (zc_1 (zc_1 (zc_1 (zc_1 (zc_1 zb_1985)))))), rfl⟩
theorem eL_law_1991 : dx cL_law 1991 (.iaload) 1 1992 := ⟨zd_c (o := 1942) (p := 49) zh_1942 (zc_2 (zc_1 (zc_1 (zc_1 (zc_1 zb_1985))))), rfl⟩
theorem eL_law_1992 : dx cL_law 1992 (.aload_n 0) 1 1993 := ⟨zd_c (o := 1942) (p := 50) zh_1942 (zc_2 (zc_1 (zc_1 (zc_1 zb_1985)))), rfl⟩
theorem eL_law_1993 : dx cL_law 1993 (.iload 5) 2 1995 := ⟨zd_c (o := 1942) (p := 51) zh_1942 (zc_2 (zc_1 (zc_1 zb_1985))), rfl⟩
theorem eL_law_1995 : dx cL_law 1995 (.iconst 2) 1 1996 := ⟨zd_c (o := 1942) (p := 53) zh_1942 (zc_2 (zc_1 zb_1985)), rfl⟩
theorem eL_law_1996 : dx cL_law 1996 (.iadd) 1 1997 := ⟨zd_c (o := 1942) (p := 54) zh_1942 (zc_2 zb_1985), rfl⟩
def zp_1997 : ByteArray := ⟨#[0x2e, 0x2a, 0x15, 0x05, 0x06, 0x60, 0x2e, 0xb6, 0x01, 0x05, 0x36, 0x07, 0x2c, 0xb6, 0x00, 0x91, 0x15, 0x06, 0x9f, 0x00, 0x05, 0x03, 0xac, 0x15, 0x06, 0x9a, 0x00, 0x0f, 0x2d, 0x03, 0x2f, 0x15, 0x07, 0x85, 0x94, 0x99, 0x00, 0x05, 0x03, 0xac, 0xa7, 0x02, 0xf2, 0x2b, 0x2a, 0x15, 0x05, 0x04, 0x60, 0x2e, 0x2d, 0xb8, 0x01, 0x06, 0x36, 0x06, 0x2c, 0x2a, 0x15, 0x05, 0x04, 0x60]⟩
theorem zh_1997 : SubC cL_law zp_1997 1997 := sub_of (n := 62) (by decide +kernel)
theorem zb_1997 : (zdC zp_1997 0 (.iaload) 1 && zdC zp_1997 1 (.aload_n 0) 1 && zdC zp_1997 2 (.iload 5) 2 && zdC zp_1997 4 (.iconst 3) 1 && zdC zp_1997 5 (.iadd) 1 && zdC zp_1997 6 (.iaload) 1 && zdC zp_1997 7 (.invokevirtual 261) 3 && zdC zp_1997 10 (.istore 7) 2 && zdC zp_1997 12 (.aload_n 2) 1 && zdC zp_1997 13 (.invokevirtual 145) 3) = true := by decide +kernel
theorem eL_law_1997 : dx cL_law 1997 (.iaload) 1 1998 := ⟨zd_c (o := 1997) (p := 0) zh_1997 (zc_1 (zc_1 (zc_1 (zc_1 (zc_1 (zc_1 (zc_1 (zc_1 (zc_1 zb_1997))))))))), rfl⟩
theorem eL_law_1998 : dx cL_law 1998 (.aload_n 0) 1 1999 := ⟨zd_c (o := 1997) (p := 1) zh_1997 (zc_2 (zc_1 (zc_1 (zc_1 (zc_1 (zc_1 (zc_1 (zc_1 (zc_1 zb_1997))))))))), rfl⟩
theorem eL_law_1999 : dx cL_law 1999 (.iload 5) 2 2001 := ⟨zd_c (o := 1997) (p := 2) zh_1997 (zc_2 (zc_1 (zc_1 (zc_1 (zc_1 (zc_1 (zc_1 (zc_1 zb_1997)))))))), rfl⟩
theorem eL_law_2001 : dx cL_law 2001 (.iconst 3) 1 2002 := ⟨zd_c (o := 1997) (p := 4) zh_1997 (zc_2 (zc_1 (zc_1 (zc_1 (zc_1 (zc_1 (zc_1 zb_1997))))))), rfl⟩
theorem eL_law_2002 : dx cL_law 2002 (.iadd) 1 2003 := ⟨zd_c (o := 1997) (p := 5) zh_1997 (zc_2 (zc_1 (zc_1 (zc_1 (zc_1 (zc_1 zb_1997)))))), rfl⟩
theorem eL_law_2003 : dx cL_law 2003 (.iaload) 1 2004 := ⟨zd_c (o := 1997) (p := 6) zh_1997 (zc_2 (zc_1 (zc_1 (zc_1 (zc_1 zb_1997))))), rfl⟩
theorem eL_law_2004 : dx cL_law 2004 (.invokevirtual 261) 3 2007 := ⟨zd_c (o := 1997) (p := 7) zh_1997 (zc_2 (zc_1 (zc_1 (zc_1 zb_1997)))), rfl⟩
theorem eL_law_2007 : dx cL_law 2007 (.istore 7) 2 2009 := ⟨zd_c (o := 1997) (p := 10) zh_1997 (zc_2 (zc_1 (zc_1 zb_1997))), rfl⟩
theorem eL_law_2009 : dx cL_law 2009 (.aload_n 2) 1 2010 := ⟨zd_c (o := 1997) (p := 12) zh_1997 (zc_2 (zc_1 zb_1997)), rfl⟩
theorem eL_law_2010 : dx cL_law 2010 (.invokevirtual 145) 3 2013 := ⟨zd_c (o := 1997) (p := 13) zh_1997 (zc_2 zb_1997), rfl⟩
theorem zb_2013 : (zdC zp_1997 16 (.iload 6) 2 && zdC zp_1997 18 (.if_icmp .eq 5) 3 && zdC zp_1997 21 (.iconst 0) 1 && zdC zp_1997 22 (.ireturn) 1 && zdC zp_1997 23 (.iload 6) 2 && zdC zp_1997 25 (.ifCond .ne 15) 3 && zdC zp_1997 28 (.aload_n 3) 1 && zdC zp_1997 29 (.iconst 0) 1 && zdC zp_1997 30 (.laload) 1 && zdC zp_1997 31 (.iload 7) 2) = true := by decide +kernel
theorem eL_law_2013 : dx cL_law 2013 (.iload 6) 2 2015 := ⟨zd_c (o := 1997) (p := 16) zh_1997 (zc_1 (zc_1 (zc_1 (zc_1 (zc_1 (zc_1 (zc_1 (zc_1 (zc_1 zb_2013))))))))), rfl⟩
theorem eL_law_2015 : dx cL_law 2015 (.if_icmp .eq 5) 3 2018 := ⟨zd_c (o := 1997) (p := 18) zh_1997 (zc_2 (zc_1 (zc_1 (zc_1 (zc_1 (zc_1 (zc_1 (zc_1 (zc_1 zb_2013))))))))), rfl⟩
theorem eL_law_2018 : dx cL_law 2018 (.iconst 0) 1 2019 := ⟨zd_c (o := 1997) (p := 21) zh_1997 (zc_2 (zc_1 (zc_1 (zc_1 (zc_1 (zc_1 (zc_1 (zc_1 zb_2013)))))))), rfl⟩
theorem eL_law_2019 : dx cL_law 2019 (.ireturn) 1 2020 := ⟨zd_c (o := 1997) (p := 22) zh_1997 (zc_2 (zc_1 (zc_1 (zc_1 (zc_1 (zc_1 (zc_1 zb_2013))))))), rfl⟩
theorem eL_law_2020 : dx cL_law 2020 (.iload 6) 2 2022 := ⟨zd_c (o := 1997) (p := 23) zh_1997 (zc_2 (zc_1 (zc_1 (zc_1 (zc_1 (zc_1 zb_2013)))))), rfl⟩
theorem eL_law_2022 : dx cL_law 2022 (.ifCond .ne 15) 3 2025 := ⟨zd_c (o := 1997) (p := 25) zh_1997 (zc_2 (zc_1 (zc_1 (zc_1 (zc_1 zb_2013))))), rfl⟩
theorem eL_law_2025 : dx cL_law 2025 (.aload_n 3) 1 2026 := ⟨zd_c (o := 1997) (p := 28) zh_1997 (zc_2 (zc_1 (zc_1 (zc_1 zb_2013)))), rfl⟩
theorem eL_law_2026 : dx cL_law 2026 (.iconst 0) 1 2027 := ⟨zd_c (o := 1997) (p := 29) zh_1997 (zc_2 (zc_1 (zc_1 zb_2013))), rfl⟩
theorem eL_law_2027 : dx cL_law 2027 (.laload) 1 2028 := ⟨zd_c (o := 1997) (p := 30) zh_1997 (zc_2 (zc_1 zb_2013)), rfl⟩
theorem eL_law_2028 : dx cL_law 2028 (.iload 7) 2 2030 := ⟨zd_c (o := 1997) (p := 31) zh_1997 (zc_2 zb_2013), rfl⟩
theorem zb_2030 : (zdC zp_1997 33 (.i2l) 1 && zdC zp_1997 34 (.lcmp) 1 && zdC zp_1997 35 (.ifCond .eq 5) 3 && zdC zp_1997 38 (.iconst 0) 1 && zdC zp_1997 39 (.ireturn) 1 && zdC zp_1997 40 (.goto 754) 3 && zdC zp_1997 43 (.aload_n 1) 1 && zdC zp_1997 44 (.aload_n 0) 1 && zdC zp_1997 45 (.iload 5) 2 && zdC zp_1997 47 (.iconst 1) 1) = true := by decide +kernel
theorem eL_law_2030 : dx cL_law 2030 (.i2l) 1 2031 := ⟨zd_c (o := 1997) (p := 33) zh_1997 (zc_1 (zc_1 (zc_1 (zc_1 (zc_1 (zc_1 (zc_1 (zc_1 (zc_1 zb_2030))))))))), rfl⟩
theorem eL_law_2031 : dx cL_law 2031 (.lcmp) 1 2032 := ⟨zd_c (o := 1997) (p := 34) zh_1997 (zc_2 (zc_1 (zc_1 (zc_1 (zc_1 (zc_1 (zc_1 (zc_1 (zc_1 zb_2030))))))))), rfl⟩
theorem eL_law_2032 : dx cL_law 2032 (.ifCond .eq 5) 3 2035 := ⟨zd_c (o := 1997) (p := 35) zh_1997 (zc_2 (zc_1 (zc_1 (zc_1 (zc_1 (zc_1 (zc_1 (zc_1 zb_2030)))))))), rfl⟩
theorem eL_law_2035 : dx cL_law 2035 (.iconst 0) 1 2036 := ⟨zd_c (o := 1997) (p := 38) zh_1997 (zc_2 (zc_1 (zc_1 (zc_1 (zc_1 (zc_1 (zc_1 zb_2030))))))), rfl⟩
theorem eL_law_2036 : dx cL_law 2036 (.ireturn) 1 2037 := ⟨zd_c (o := 1997) (p := 39) zh_1997 (zc_2 (zc_1 (zc_1 (zc_1 (zc_1 (zc_1 zb_2030)))))), rfl⟩
theorem eL_law_2037 : dx cL_law 2037 (.goto 754) 3 2040 := ⟨zd_c (o := 1997) (p := 40) zh_1997 (zc_2 (zc_1 (zc_1 (zc_1 (zc_1 zb_2030))))), rfl⟩
theorem eL_law_2040 : dx cL_law 2040 (.aload_n 1) 1 2041 := ⟨zd_c (o := 1997) (p := 43) zh_1997 (zc_2 (zc_1 (zc_1 (zc_1 zb_2030)))), rfl⟩
theorem eL_law_2041 : dx cL_law 2041 (.aload_n 0) 1 2042 := ⟨zd_c (o := 1997) (p := 44) zh_1997 (zc_2 (zc_1 (zc_1 zb_2030))), rfl⟩
theorem eL_law_2042 : dx cL_law 2042 (.iload 5) 2 2044 := ⟨zd_c (o := 1997) (p := 45) zh_1997 (zc_2 (zc_1 zb_2030)), rfl⟩
theorem eL_law_2044 : dx cL_law 2044 (.iconst 1) 1 2045 := ⟨zd_c (o := 1997) (p := 47) zh_1997 (zc_2 zb_2030), rfl⟩
theorem zb_2045 : (zdC zp_1997 48 (.iadd) 1 && zdC zp_1997 49 (.iaload) 1 && zdC zp_1997 50 (.aload_n 3) 1 && zdC zp_1997 51 (.invokestatic 262) 3 && zdC zp_1997 54 (.istore 6) 2 && zdC zp_1997 56 (.aload_n 2) 1 && zdC zp_1997 57 (.aload_n 0) 1 && zdC zp_1997 58 (.iload 5) 2 && zdC zp_1997 60 (.iconst 1) 1 && zdC zp_1997 61 (.iadd) 1) = true := by decide +kernel
theorem eL_law_2045 : dx cL_law 2045 (.iadd) 1 2046 := ⟨zd_c (o := 1997) (p := 48) zh_1997 (zc_1 (zc_1 (zc_1 (zc_1 (zc_1 (zc_1 (zc_1 (zc_1 (zc_1 zb_2045))))))))), rfl⟩
theorem eL_law_2046 : dx cL_law 2046 (.iaload) 1 2047 := ⟨zd_c (o := 1997) (p := 49) zh_1997 (zc_2 (zc_1 (zc_1 (zc_1 (zc_1 (zc_1 (zc_1 (zc_1 (zc_1 zb_2045))))))))), rfl⟩
theorem eL_law_2047 : dx cL_law 2047 (.aload_n 3) 1 2048 := ⟨zd_c (o := 1997) (p := 50) zh_1997 (zc_2 (zc_1 (zc_1 (zc_1 (zc_1 (zc_1 (zc_1 (zc_1 zb_2045)))))))), rfl⟩
theorem eL_law_2048 : dx cL_law 2048 (.invokestatic 262) 3 2051 := ⟨zd_c (o := 1997) (p := 51) zh_1997 (zc_2 (zc_1 (zc_1 (zc_1 (zc_1 (zc_1 (zc_1 zb_2045))))))), rfl⟩
theorem eL_law_2051 : dx cL_law 2051 (.istore 6) 2 2053 := ⟨zd_c (o := 1997) (p := 54) zh_1997 (zc_2 (zc_1 (zc_1 (zc_1 (zc_1 (zc_1 zb_2045)))))), rfl⟩
theorem eL_law_2053 : dx cL_law 2053 (.aload_n 2) 1 2054 := ⟨zd_c (o := 1997) (p := 56) zh_1997 (zc_2 (zc_1 (zc_1 (zc_1 (zc_1 zb_2045))))), rfl⟩
theorem eL_law_2054 : dx cL_law 2054 (.aload_n 0) 1 2055 := ⟨zd_c (o := 1997) (p := 57) zh_1997 (zc_2 (zc_1 (zc_1 (zc_1 zb_2045)))), rfl⟩
theorem eL_law_2055 : dx cL_law 2055 (.iload 5) 2 2057 := ⟨zd_c (o := 1997) (p := 58) zh_1997 (zc_2 (zc_1 (zc_1 zb_2045))), rfl⟩
theorem eL_law_2057 : dx cL_law 2057 (.iconst 1) 1 2058 := ⟨zd_c (o := 1997) (p := 60) zh_1997 (zc_2 (zc_1 zb_2045)), rfl⟩
theorem eL_law_2058 : dx cL_law 2058 (.iadd) 1 2059 := ⟨zd_c (o := 1997) (p := 61) zh_1997 (zc_2 zb_2045), rfl⟩
def zp_2059 : ByteArray := ⟨#[0x2e, 0xb6, 0x01, 0x08, 0x36, 0x07, 0x2c, 0xb6, 0x00, 0x91, 0x15, 0x06, 0x9f, 0x00, 0x05, 0x03, 0xac, 0x15, 0x06, 0x9a, 0x00, 0x0f, 0x2d, 0x03, 0x2f, 0x15, 0x07, 0x85, 0x94, 0x99, 0x00, 0x05, 0x03, 0xac, 0xa7, 0x02, 0xba, 0x2b, 0x2a, 0x15, 0x05, 0x04, 0x60, 0x2e, 0x2a, 0x15, 0x05, 0x05, 0x60, 0x2e, 0x2d, 0xb8, 0x01, 0x09, 0x36, 0x06, 0x2c, 0x2a, 0x15, 0x05, 0x04, 0x60]⟩
theorem zh_2059 : SubC cL_law zp_2059 2059 := sub_of (n := 62) (by decide +kernel)
theorem zb_2059 : (zdC zp_2059 0 (.iaload) 1 && zdC zp_2059 1 (.invokevirtual 264) 3 && zdC zp_2059 4 (.istore 7) 2 && zdC zp_2059 6 (.aload_n 2) 1 && zdC zp_2059 7 (.invokevirtual 145) 3 && zdC zp_2059 10 (.iload 6) 2 && zdC zp_2059 12 (.if_icmp .eq 5) 3 && zdC zp_2059 15 (.iconst 0) 1 && zdC zp_2059 16 (.ireturn) 1 && zdC zp_2059 17 (.iload 6) 2) = true := by decide +kernel
theorem eL_law_2059 : dx cL_law 2059 (.iaload) 1 2060 := ⟨zd_c (o := 2059) (p := 0) zh_2059 (zc_1 (zc_1 (zc_1 (zc_1 (zc_1 (zc_1 (zc_1 (zc_1 (zc_1 zb_2059))))))))), rfl⟩
theorem eL_law_2060 : dx cL_law 2060 (.invokevirtual 264) 3 2063 := ⟨zd_c (o := 2059) (p := 1) zh_2059 (zc_2 (zc_1 (zc_1 (zc_1 (zc_1 (zc_1 (zc_1 (zc_1 (zc_1 zb_2059))))))))), rfl⟩
theorem eL_law_2063 : dx cL_law 2063 (.istore 7) 2 2065 := ⟨zd_c (o := 2059) (p := 4) zh_2059 (zc_2 (zc_1 (zc_1 (zc_1 (zc_1 (zc_1 (zc_1 (zc_1 zb_2059)))))))), rfl⟩
theorem eL_law_2065 : dx cL_law 2065 (.aload_n 2) 1 2066 := ⟨zd_c (o := 2059) (p := 6) zh_2059 (zc_2 (zc_1 (zc_1 (zc_1 (zc_1 (zc_1 (zc_1 zb_2059))))))), rfl⟩
theorem eL_law_2066 : dx cL_law 2066 (.invokevirtual 145) 3 2069 := ⟨zd_c (o := 2059) (p := 7) zh_2059 (zc_2 (zc_1 (zc_1 (zc_1 (zc_1 (zc_1 zb_2059)))))), rfl⟩
theorem eL_law_2069 : dx cL_law 2069 (.iload 6) 2 2071 := ⟨zd_c (o := 2059) (p := 10) zh_2059 (zc_2 (zc_1 (zc_1 (zc_1 (zc_1 zb_2059))))), rfl⟩
theorem eL_law_2071 : dx cL_law 2071 (.if_icmp .eq 5) 3 2074 := ⟨zd_c (o := 2059) (p := 12) zh_2059 (zc_2 (zc_1 (zc_1 (zc_1 zb_2059)))), rfl⟩
theorem eL_law_2074 : dx cL_law 2074 (.iconst 0) 1 2075 := ⟨zd_c (o := 2059) (p := 15) zh_2059 (zc_2 (zc_1 (zc_1 zb_2059))), rfl⟩
theorem eL_law_2075 : dx cL_law 2075 (.ireturn) 1 2076 := ⟨zd_c (o := 2059) (p := 16) zh_2059 (zc_2 (zc_1 zb_2059)), rfl⟩
theorem eL_law_2076 : dx cL_law 2076 (.iload 6) 2 2078 := ⟨zd_c (o := 2059) (p := 17) zh_2059 (zc_2 zb_2059), rfl⟩
theorem zb_2078 : (zdC zp_2059 19 (.ifCond .ne 15) 3 && zdC zp_2059 22 (.aload_n 3) 1 && zdC zp_2059 23 (.iconst 0) 1 && zdC zp_2059 24 (.laload) 1 && zdC zp_2059 25 (.iload 7) 2 && zdC zp_2059 27 (.i2l) 1 && zdC zp_2059 28 (.lcmp) 1 && zdC zp_2059 29 (.ifCond .eq 5) 3 && zdC zp_2059 32 (.iconst 0) 1 && zdC zp_2059 33 (.ireturn) 1) = true := by decide +kernel
theorem eL_law_2078 : dx cL_law 2078 (.ifCond .ne 15) 3 2081 := ⟨zd_c (o := 2059) (p := 19) zh_2059 (zc_1 (zc_1 (zc_1 (zc_1 (zc_1 (zc_1 (zc_1 (zc_1 (zc_1 zb_2078))))))))), rfl⟩
theorem eL_law_2081 : dx cL_law 2081 (.aload_n 3) 1 2082 := ⟨zd_c (o := 2059) (p := 22) zh_2059 (zc_2 (zc_1 (zc_1 (zc_1 (zc_1 (zc_1 (zc_1 (zc_1 (zc_1 zb_2078))))))))), rfl⟩
theorem eL_law_2082 : dx cL_law 2082 (.iconst 0) 1 2083 := ⟨zd_c (o := 2059) (p := 23) zh_2059 (zc_2 (zc_1 (zc_1 (zc_1 (zc_1 (zc_1 (zc_1 (zc_1 zb_2078)))))))), rfl⟩
theorem eL_law_2083 : dx cL_law 2083 (.laload) 1 2084 := ⟨zd_c (o := 2059) (p := 24) zh_2059 (zc_2 (zc_1 (zc_1 (zc_1 (zc_1 (zc_1 (zc_1 zb_2078))))))), rfl⟩
theorem eL_law_2084 : dx cL_law 2084 (.iload 7) 2 2086 := ⟨zd_c (o := 2059) (p := 25) zh_2059 (zc_2 (zc_1 (zc_1 (zc_1 (zc_1 (zc_1 zb_2078)))))), rfl⟩
theorem eL_law_2086 : dx cL_law 2086 (.i2l) 1 2087 := ⟨zd_c (o := 2059) (p := 27) zh_2059 (zc_2 (zc_1 (zc_1 (zc_1 (zc_1 zb_2078))))), rfl⟩
theorem eL_law_2087 : dx cL_law 2087 (.lcmp) 1 2088 := ⟨zd_c (o := 2059) (p := 28) zh_2059 (zc_2 (zc_1 (zc_1 (zc_1 zb_2078)))), rfl⟩
theorem eL_law_2088 : dx cL_law 2088 (.ifCond .eq 5) 3 2091 := ⟨zd_c (o := 2059) (p := 29) zh_2059 (zc_2 (zc_1 (zc_1 zb_2078))), rfl⟩
theorem eL_law_2091 : dx cL_law 2091 (.iconst 0) 1 2092 := ⟨zd_c (o := 2059) (p := 32) zh_2059 (zc_2 (zc_1 zb_2078)), rfl⟩
theorem eL_law_2092 : dx cL_law 2092 (.ireturn) 1 2093 := ⟨zd_c (o := 2059) (p := 33) zh_2059 (zc_2 zb_2078), rfl⟩
theorem zb_2093 : (zdC zp_2059 34 (.goto 698) 3 && zdC zp_2059 37 (.aload_n 1) 1 && zdC zp_2059 38 (.aload_n 0) 1 && zdC zp_2059 39 (.iload 5) 2 && zdC zp_2059 41 (.iconst 1) 1 && zdC zp_2059 42 (.iadd) 1 && zdC zp_2059 43 (.iaload) 1 && zdC zp_2059 44 (.aload_n 0) 1 && zdC zp_2059 45 (.iload 5) 2 && zdC zp_2059 47 (.iconst 2) 1) = true := by decide +kernel
theorem eL_law_2093 : dx cL_law 2093 (.goto 698) 3 2096 := ⟨zd_c (o := 2059) (p := 34) zh_2059 (zc_1 (zc_1 (zc_1 (zc_1 (zc_1 (zc_1 (zc_1 (zc_1 (zc_1 zb_2093))))))))), rfl⟩
theorem eL_law_2096 : dx cL_law 2096 (.aload_n 1) 1 2097 := ⟨zd_c (o := 2059) (p := 37) zh_2059 (zc_2 (zc_1 (zc_1 (zc_1 (zc_1 (zc_1 (zc_1 (zc_1 (zc_1 zb_2093))))))))), rfl⟩
theorem eL_law_2097 : dx cL_law 2097 (.aload_n 0) 1 2098 := ⟨zd_c (o := 2059) (p := 38) zh_2059 (zc_2 (zc_1 (zc_1 (zc_1 (zc_1 (zc_1 (zc_1 (zc_1 zb_2093)))))))), rfl⟩
theorem eL_law_2098 : dx cL_law 2098 (.iload 5) 2 2100 := ⟨zd_c (o := 2059) (p := 39) zh_2059 (zc_2 (zc_1 (zc_1 (zc_1 (zc_1 (zc_1 (zc_1 zb_2093))))))), rfl⟩
theorem eL_law_2100 : dx cL_law 2100 (.iconst 1) 1 2101 := ⟨zd_c (o := 2059) (p := 41) zh_2059 (zc_2 (zc_1 (zc_1 (zc_1 (zc_1 (zc_1 zb_2093)))))), rfl⟩
theorem eL_law_2101 : dx cL_law 2101 (.iadd) 1 2102 := ⟨zd_c (o := 2059) (p := 42) zh_2059 (zc_2 (zc_1 (zc_1 (zc_1 (zc_1 zb_2093))))), rfl⟩
theorem eL_law_2102 : dx cL_law 2102 (.iaload) 1 2103 := ⟨zd_c (o := 2059) (p := 43) zh_2059 (zc_2 (zc_1 (zc_1 (zc_1 zb_2093)))), rfl⟩
theorem eL_law_2103 : dx cL_law 2103 (.aload_n 0) 1 2104 := ⟨zd_c (o := 2059) (p := 44) zh_2059 (zc_2 (zc_1 (zc_1 zb_2093))), rfl⟩
theorem eL_law_2104 : dx cL_law 2104 (.iload 5) 2 2106 := ⟨zd_c (o := 2059) (p := 45) zh_2059 (zc_2 (zc_1 zb_2093)), rfl⟩
theorem eL_law_2106 : dx cL_law 2106 (.iconst 2) 1 2107 := ⟨zd_c (o := 2059) (p := 47) zh_2059 (zc_2 zb_2093), rfl⟩
theorem zb_2107 : (zdC zp_2059 48 (.iadd) 1 && zdC zp_2059 49 (.iaload) 1 && zdC zp_2059 50 (.aload_n 3) 1 && zdC zp_2059 51 (.invokestatic 265) 3 && zdC zp_2059 54 (.istore 6) 2 && zdC zp_2059 56 (.aload_n 2) 1 && zdC zp_2059 57 (.aload_n 0) 1 && zdC zp_2059 58 (.iload 5) 2 && zdC zp_2059 60 (.iconst 1) 1 && zdC zp_2059 61 (.iadd) 1) = true := by decide +kernel
theorem eL_law_2107 : dx cL_law 2107 (.iadd) 1 2108 := ⟨zd_c (o := 2059) (p := 48) zh_2059 (zc_1 (zc_1 (zc_1 (zc_1 (zc_1 (zc_1 (zc_1 (zc_1 (zc_1 zb_2107))))))))), rfl⟩
theorem eL_law_2108 : dx cL_law 2108 (.iaload) 1 2109 := ⟨zd_c (o := 2059) (p := 49) zh_2059 (zc_2 (zc_1 (zc_1 (zc_1 (zc_1 (zc_1 (zc_1 (zc_1 (zc_1 zb_2107))))))))), rfl⟩
theorem eL_law_2109 : dx cL_law 2109 (.aload_n 3) 1 2110 := ⟨zd_c (o := 2059) (p := 50) zh_2059 (zc_2 (zc_1 (zc_1 (zc_1 (zc_1 (zc_1 (zc_1 (zc_1 zb_2107)))))))), rfl⟩
theorem eL_law_2110 : dx cL_law 2110 (.invokestatic 265) 3 2113 := ⟨zd_c (o := 2059) (p := 51) zh_2059 (zc_2 (zc_1 (zc_1 (zc_1 (zc_1 (zc_1 (zc_1 zb_2107))))))), rfl⟩
theorem eL_law_2113 : dx cL_law 2113 (.istore 6) 2 2115 := ⟨zd_c (o := 2059) (p := 54) zh_2059 (zc_2 (zc_1 (zc_1 (zc_1 (zc_1 (zc_1 zb_2107)))))), rfl⟩
theorem eL_law_2115 : dx cL_law 2115 (.aload_n 2) 1 2116 := ⟨zd_c (o := 2059) (p := 56) zh_2059 (zc_2 (zc_1 (zc_1 (zc_1 (zc_1 zb_2107))))), rfl⟩
theorem eL_law_2116 : dx cL_law 2116 (.aload_n 0) 1 2117 := ⟨zd_c (o := 2059) (p := 57) zh_2059 (zc_2 (zc_1 (zc_1 (zc_1 zb_2107)))), rfl⟩
theorem eL_law_2117 : dx cL_law 2117 (.iload 5) 2 2119 := ⟨zd_c (o := 2059) (p := 58) zh_2059 (zc_2 (zc_1 (zc_1 zb_2107))), rfl⟩
theorem eL_law_2119 : dx cL_law 2119 (.iconst 1) 1 2120 := ⟨zd_c (o := 2059) (p := 60) zh_2059 (zc_2 (zc_1 zb_2107)), rfl⟩
theorem eL_law_2120 : dx cL_law 2120 (.iadd) 1 2121 := ⟨zd_c (o := 2059) (p := 61) zh_2059 (zc_2 zb_2107), rfl⟩
def zp_2121 : ByteArray := ⟨#[0x2e, 0x2a, 0x15, 0x05, 0x05, 0x60, 0x2e, 0xb6, 0x01, 0x0b, 0x36, 0x07, 0x2c, 0xb6, 0x00, 0x91, 0x15, 0x06, 0x9f, 0x00, 0x05, 0x03, 0xac, 0x15, 0x06, 0x9a, 0x00, 0x0f, 0x2d, 0x03, 0x2f, 0x15, 0x07, 0x85, 0x94, 0x99, 0x00, 0x05, 0x03, 0xac, 0xa7, 0x02, 0x76, 0x2b, 0x2a, 0x15, 0x05, 0x04, 0x60, 0x2e, 0x2a, 0x15, 0x05, 0x05, 0x60, 0x2e, 0x99, 0x00, 0x07, 0x04, 0xa7, 0x00, 0x04]⟩
theorem zh_2121 : SubC cL_law zp_2121 2121 := sub_of (n := 63) (by decide +kernel)
theorem zb_2121 : (zdC zp_2121 0 (.iaload) 1 && zdC zp_2121 1 (.aload_n 0) 1 && zdC zp_2121 2 (.iload 5) 2 && zdC zp_2121 4 (.iconst 2) 1 && zdC zp_2121 5 (.iadd) 1 && zdC zp_2121 6 (.iaload) 1 && zdC zp_2121 7 (.invokevirtual 267) 3 && zdC zp_2121 10 (.istore 7) 2 && zdC zp_2121 12 (.aload_n 2) 1 && zdC zp_2121 13 (.invokevirtual 145) 3) = true := by decide +kernel
theorem eL_law_2121 : dx cL_law 2121 (.iaload) 1 2122 := ⟨zd_c (o := 2121) (p := 0) zh_2121 (zc_1 (zc_1 (zc_1 (zc_1 (zc_1 (zc_1 (zc_1 (zc_1 (zc_1 zb_2121))))))))), rfl⟩
theorem eL_law_2122 : dx cL_law 2122 (.aload_n 0) 1 2123 := ⟨zd_c (o := 2121) (p := 1) zh_2121 (zc_2 (zc_1 (zc_1 (zc_1 (zc_1 (zc_1 (zc_1 (zc_1 (zc_1 zb_2121))))))))), rfl⟩
theorem eL_law_2123 : dx cL_law 2123 (.iload 5) 2 2125 := ⟨zd_c (o := 2121) (p := 2) zh_2121 (zc_2 (zc_1 (zc_1 (zc_1 (zc_1 (zc_1 (zc_1 (zc_1 zb_2121)))))))), rfl⟩
theorem eL_law_2125 : dx cL_law 2125 (.iconst 2) 1 2126 := ⟨zd_c (o := 2121) (p := 4) zh_2121 (zc_2 (zc_1 (zc_1 (zc_1 (zc_1 (zc_1 (zc_1 zb_2121))))))), rfl⟩
theorem eL_law_2126 : dx cL_law 2126 (.iadd) 1 2127 := ⟨zd_c (o := 2121) (p := 5) zh_2121 (zc_2 (zc_1 (zc_1 (zc_1 (zc_1 (zc_1 zb_2121)))))), rfl⟩
theorem eL_law_2127 : dx cL_law 2127 (.iaload) 1 2128 := ⟨zd_c (o := 2121) (p := 6) zh_2121 (zc_2 (zc_1 (zc_1 (zc_1 (zc_1 zb_2121))))), rfl⟩
theorem eL_law_2128 : dx cL_law 2128 (.invokevirtual 267) 3 2131 := ⟨zd_c (o := 2121) (p := 7) zh_2121 (zc_2 (zc_1 (zc_1 (zc_1 zb_2121)))), rfl⟩
theorem eL_law_2131 : dx cL_law 2131 (.istore 7) 2 2133 := ⟨zd_c (o := 2121) (p := 10) zh_2121 (zc_2 (zc_1 (zc_1 zb_2121))), rfl⟩
theorem eL_law_2133 : dx cL_law 2133 (.aload_n 2) 1 2134 := ⟨zd_c (o := 2121) (p := 12) zh_2121 (zc_2 (zc_1 zb_2121)), rfl⟩
theorem eL_law_2134 : dx cL_law 2134 (.invokevirtual 145) 3 2137 := ⟨zd_c (o := 2121) (p := 13) zh_2121 (zc_2 zb_2121), rfl⟩
theorem zb_2137 : (zdC zp_2121 16 (.iload 6) 2 && zdC zp_2121 18 (.if_icmp .eq 5) 3 && zdC zp_2121 21 (.iconst 0) 1 && zdC zp_2121 22 (.ireturn) 1 && zdC zp_2121 23 (.iload 6) 2 && zdC zp_2121 25 (.ifCond .ne 15) 3 && zdC zp_2121 28 (.aload_n 3) 1 && zdC zp_2121 29 (.iconst 0) 1 && zdC zp_2121 30 (.laload) 1 && zdC zp_2121 31 (.iload 7) 2) = true := by decide +kernel
theorem eL_law_2137 : dx cL_law 2137 (.iload 6) 2 2139 := ⟨zd_c (o := 2121) (p := 16) zh_2121 (zc_1 (zc_1 (zc_1 (zc_1 (zc_1 (zc_1 (zc_1 (zc_1 (zc_1 zb_2137))))))))), rfl⟩
theorem eL_law_2139 : dx cL_law 2139 (.if_icmp .eq 5) 3 2142 := ⟨zd_c (o := 2121) (p := 18) zh_2121 (zc_2 (zc_1 (zc_1 (zc_1 (zc_1 (zc_1 (zc_1 (zc_1 (zc_1 zb_2137))))))))), rfl⟩
theorem eL_law_2142 : dx cL_law 2142 (.iconst 0) 1 2143 := ⟨zd_c (o := 2121) (p := 21) zh_2121 (zc_2 (zc_1 (zc_1 (zc_1 (zc_1 (zc_1 (zc_1 (zc_1 zb_2137)))))))), rfl⟩
theorem eL_law_2143 : dx cL_law 2143 (.ireturn) 1 2144 := ⟨zd_c (o := 2121) (p := 22) zh_2121 (zc_2 (zc_1 (zc_1 (zc_1 (zc_1 (zc_1 (zc_1 zb_2137))))))), rfl⟩
theorem eL_law_2144 : dx cL_law 2144 (.iload 6) 2 2146 := ⟨zd_c (o := 2121) (p := 23) zh_2121 (zc_2 (zc_1 (zc_1 (zc_1 (zc_1 (zc_1 zb_2137)))))), rfl⟩
theorem eL_law_2146 : dx cL_law 2146 (.ifCond .ne 15) 3 2149 := ⟨zd_c (o := 2121) (p := 25) zh_2121 (zc_2 (zc_1 (zc_1 (zc_1 (zc_1 zb_2137))))), rfl⟩
theorem eL_law_2149 : dx cL_law 2149 (.aload_n 3) 1 2150 := ⟨zd_c (o := 2121) (p := 28) zh_2121 (zc_2 (zc_1 (zc_1 (zc_1 zb_2137)))), rfl⟩
theorem eL_law_2150 : dx cL_law 2150 (.iconst 0) 1 2151 := ⟨zd_c (o := 2121) (p := 29) zh_2121 (zc_2 (zc_1 (zc_1 zb_2137))), rfl⟩
theorem eL_law_2151 : dx cL_law 2151 (.laload) 1 2152 := ⟨zd_c (o := 2121) (p := 30) zh_2121 (zc_2 (zc_1 zb_2137)), rfl⟩
theorem eL_law_2152 : dx cL_law 2152 (.iload 7) 2 2154 := ⟨zd_c (o := 2121) (p := 31) zh_2121 (zc_2 zb_2137), rfl⟩
theorem zb_2154 : (zdC zp_2121 33 (.i2l) 1 && zdC zp_2121 34 (.lcmp) 1 && zdC zp_2121 35 (.ifCond .eq 5) 3 && zdC zp_2121 38 (.iconst 0) 1 && zdC zp_2121 39 (.ireturn) 1 && zdC zp_2121 40 (.goto 630) 3 && zdC zp_2121 43 (.aload_n 1) 1 && zdC zp_2121 44 (.aload_n 0) 1 && zdC zp_2121 45 (.iload 5) 2 && zdC zp_2121 47 (.iconst 1) 1) = true := by decide +kernel
theorem eL_law_2154 : dx cL_law 2154 (.i2l) 1 2155 := ⟨zd_c (o := 2121) (p := 33) zh_2121 (zc_1 (zc_1 (zc_1 (zc_1 (zc_1 (zc_1 (zc_1 (zc_1 (zc_1 zb_2154))))))))), rfl⟩
theorem eL_law_2155 : dx cL_law 2155 (.lcmp) 1 2156 := ⟨zd_c (o := 2121) (p := 34) zh_2121 (zc_2 (zc_1 (zc_1 (zc_1 (zc_1 (zc_1 (zc_1 (zc_1 (zc_1 zb_2154))))))))), rfl⟩
theorem eL_law_2156 : dx cL_law 2156 (.ifCond .eq 5) 3 2159 := ⟨zd_c (o := 2121) (p := 35) zh_2121 (zc_2 (zc_1 (zc_1 (zc_1 (zc_1 (zc_1 (zc_1 (zc_1 zb_2154)))))))), rfl⟩
theorem eL_law_2159 : dx cL_law 2159 (.iconst 0) 1 2160 := ⟨zd_c (o := 2121) (p := 38) zh_2121 (zc_2 (zc_1 (zc_1 (zc_1 (zc_1 (zc_1 (zc_1 zb_2154))))))), rfl⟩
theorem eL_law_2160 : dx cL_law 2160 (.ireturn) 1 2161 := ⟨zd_c (o := 2121) (p := 39) zh_2121 (zc_2 (zc_1 (zc_1 (zc_1 (zc_1 (zc_1 zb_2154)))))), rfl⟩
theorem eL_law_2161 : dx cL_law 2161 (.goto 630) 3 2164 := ⟨zd_c (o := 2121) (p := 40) zh_2121 (zc_2 (zc_1 (zc_1 (zc_1 (zc_1 zb_2154))))), rfl⟩
theorem eL_law_2164 : dx cL_law 2164 (.aload_n 1) 1 2165 := ⟨zd_c (o := 2121) (p := 43) zh_2121 (zc_2 (zc_1 (zc_1 (zc_1 zb_2154)))), rfl⟩
theorem eL_law_2165 : dx cL_law 2165 (.aload_n 0) 1 2166 := ⟨zd_c (o := 2121) (p := 44) zh_2121 (zc_2 (zc_1 (zc_1 zb_2154))), rfl⟩
theorem eL_law_2166 : dx cL_law 2166 (.iload 5) 2 2168 := ⟨zd_c (o := 2121) (p := 45) zh_2121 (zc_2 (zc_1 zb_2154)), rfl⟩
theorem eL_law_2168 : dx cL_law 2168 (.iconst 1) 1 2169 := ⟨zd_c (o := 2121) (p := 47) zh_2121 (zc_2 zb_2154), rfl⟩
theorem zb_2169 : (zdC zp_2121 48 (.iadd) 1 && zdC zp_2121 49 (.iaload) 1 && zdC zp_2121 50 (.aload_n 0) 1 && zdC zp_2121 51 (.iload 5) 2 && zdC zp_2121 53 (.iconst 2) 1 && zdC zp_2121 54 (.iadd) 1 && zdC zp_2121 55 (.iaload) 1 && zdC zp_2121 56 (.ifCond .eq 7) 3 && zdC zp_2121 59 (.iconst 1) 1 && zdC zp_2121 60 (.goto 4) 3) = true := by decide +kernel
theorem eL_law_2169 : dx cL_law 2169 (.iadd) 1 2170 := ⟨zd_c (o := 2121) (p := 48) zh_2121 (zc_1 (zc_1 (zc_1 (zc_1 (zc_1 (zc_1 (zc_1 (zc_1 (zc_1 zb_2169))))))))), rfl⟩
theorem eL_law_2170 : dx cL_law 2170 (.iaload) 1 2171 := ⟨zd_c (o := 2121) (p := 49) zh_2121 (zc_2 (zc_1 (zc_1 (zc_1 (zc_1 (zc_1 (zc_1 (zc_1 (zc_1 zb_2169))))))))), rfl⟩
theorem eL_law_2171 : dx cL_law 2171 (.aload_n 0) 1 2172 := ⟨zd_c (o := 2121) (p := 50) zh_2121 (zc_2 (zc_1 (zc_1 (zc_1 (zc_1 (zc_1 (zc_1 (zc_1 zb_2169)))))))), rfl⟩
theorem eL_law_2172 : dx cL_law 2172 (.iload 5) 2 2174 := ⟨zd_c (o := 2121) (p := 51) zh_2121 (zc_2 (zc_1 (zc_1 (zc_1 (zc_1 (zc_1 (zc_1 zb_2169))))))), rfl⟩
theorem eL_law_2174 : dx cL_law 2174 (.iconst 2) 1 2175 := ⟨zd_c (o := 2121) (p := 53) zh_2121 (zc_2 (zc_1 (zc_1 (zc_1 (zc_1 (zc_1 zb_2169)))))), rfl⟩
theorem eL_law_2175 : dx cL_law 2175 (.iadd) 1 2176 := ⟨zd_c (o := 2121) (p := 54) zh_2121 (zc_2 (zc_1 (zc_1 (zc_1 (zc_1 zb_2169))))), rfl⟩
theorem eL_law_2176 : dx cL_law 2176 (.iaload) 1 2177 := ⟨zd_c (o := 2121) (p := 55) zh_2121 (zc_2 (zc_1 (zc_1 (zc_1 zb_2169)))), rfl⟩
theorem eL_law_2177 : dx cL_law 2177 (.ifCond .eq 7) 3 2180 := ⟨zd_c (o := 2121) (p := 56) zh_2121 (zc_2 (zc_1 (zc_1 zb_2169))), rfl⟩
theorem eL_law_2180 : dx cL_law 2180 (.iconst 1) 1 2181 := ⟨zd_c (o := 2121) (p := 59) zh_2121 (zc_2 (zc_1 zb_2169)), rfl⟩
theorem eL_law_2181 : dx cL_law 2181 (.goto 4) 3 2184 := ⟨zd_c (o := 2121) (p := 60) zh_2121 (zc_2 zb_2169), rfl⟩
def zp_2184 : ByteArray := ⟨#[0x03, 0x2d, 0xb8, 0x01, 0x0c, 0x36, 0x06, 0x2c, 0x2a, 0x15, 0x05, 0x04, 0x60, 0x2e, 0x2a, 0x15, 0x05, 0x05, 0x60, 0x2e, 0x99, 0x00, 0x07, 0x04, 0xa7, 0x00, 0x04, 0x03, 0xb6, 0x01, 0x0f, 0x36, 0x07, 0x2c, 0xb6, 0x00, 0x91, 0x15, 0x06, 0x9f, 0x00, 0x05, 0x03, 0xac, 0x15, 0x06, 0x9a, 0x00, 0x16, 0x2d, 0x03, 0x2f, 0x15, 0x07, 0x99, 0x00, 0x07, 0x0a, 0xa7, 0x00, 0x04, 0x09, 0x94, 0x99, 0x00, 0x05, 0x03]⟩
theorem zh_2184 : SubC cL_law zp_2184 2184 := sub_of (n := 67) (by decide +kernel)
theorem zb_2184 : (zdC zp_2184 0 (.iconst 0) 1 && zdC zp_2184 1 (.aload_n 3) 1 && zdC zp_2184 2 (.invokestatic 268) 3 && zdC zp_2184 5 (.istore 6) 2 && zdC zp_2184 7 (.aload_n 2) 1 && zdC zp_2184 8 (.aload_n 0) 1 && zdC zp_2184 9 (.iload 5) 2 && zdC zp_2184 11 (.iconst 1) 1 && zdC zp_2184 12 (.iadd) 1 && zdC zp_2184 13 (.iaload) 1) = true := by decide +kernel
theorem eL_law_2184 : dx cL_law 2184 (.iconst 0) 1 2185 := ⟨zd_c (o := 2184) (p := 0) zh_2184 (zc_1 (zc_1 (zc_1 (zc_1 (zc_1 (zc_1 (zc_1 (zc_1 (zc_1 zb_2184))))))))), rfl⟩
theorem eL_law_2185 : dx cL_law 2185 (.aload_n 3) 1 2186 := ⟨zd_c (o := 2184) (p := 1) zh_2184 (zc_2 (zc_1 (zc_1 (zc_1 (zc_1 (zc_1 (zc_1 (zc_1 (zc_1 zb_2184))))))))), rfl⟩
theorem eL_law_2186 : dx cL_law 2186 (.invokestatic 268) 3 2189 := ⟨zd_c (o := 2184) (p := 2) zh_2184 (zc_2 (zc_1 (zc_1 (zc_1 (zc_1 (zc_1 (zc_1 (zc_1 zb_2184)))))))), rfl⟩
theorem eL_law_2189 : dx cL_law 2189 (.istore 6) 2 2191 := ⟨zd_c (o := 2184) (p := 5) zh_2184 (zc_2 (zc_1 (zc_1 (zc_1 (zc_1 (zc_1 (zc_1 zb_2184))))))), rfl⟩
theorem eL_law_2191 : dx cL_law 2191 (.aload_n 2) 1 2192 := ⟨zd_c (o := 2184) (p := 7) zh_2184 (zc_2 (zc_1 (zc_1 (zc_1 (zc_1 (zc_1 zb_2184)))))), rfl⟩
theorem eL_law_2192 : dx cL_law 2192 (.aload_n 0) 1 2193 := ⟨zd_c (o := 2184) (p := 8) zh_2184 (zc_2 (zc_1 (zc_1 (zc_1 (zc_1 zb_2184))))), rfl⟩
theorem eL_law_2193 : dx cL_law 2193 (.iload 5) 2 2195 := ⟨zd_c (o := 2184) (p := 9) zh_2184 (zc_2 (zc_1 (zc_1 (zc_1 zb_2184)))), rfl⟩
theorem eL_law_2195 : dx cL_law 2195 (.iconst 1) 1 2196 := ⟨zd_c (o := 2184) (p := 11) zh_2184 (zc_2 (zc_1 (zc_1 zb_2184))), rfl⟩
theorem eL_law_2196 : dx cL_law 2196 (.iadd) 1 2197 := ⟨zd_c (o := 2184) (p := 12) zh_2184 (zc_2 (zc_1 zb_2184)), rfl⟩
theorem eL_law_2197 : dx cL_law 2197 (.iaload) 1 2198 := ⟨zd_c (o := 2184) (p := 13) zh_2184 (zc_2 zb_2184), rfl⟩
theorem zb_2198 : (zdC zp_2184 14 (.aload_n 0) 1 && zdC zp_2184 15 (.iload 5) 2 && zdC zp_2184 17 (.iconst 2) 1 && zdC zp_2184 18 (.iadd) 1 && zdC zp_2184 19 (.iaload) 1 && zdC zp_2184 20 (.ifCond .eq 7) 3 && zdC zp_2184 23 (.iconst 1) 1 && zdC zp_2184 24 (.goto 4) 3 && zdC zp_2184 27 (.iconst 0) 1 && zdC zp_2184 28 (.invokevirtual 271) 3) = true := by decide +kernel
theorem eL_law_2198 : dx cL_law 2198 (.aload_n 0) 1 2199 := ⟨zd_c (o := 2184) (p := 14) zh_2184 (zc_1 (zc_1 (zc_1 (zc_1 (zc_1 (zc_1 (zc_1 (zc_1 (zc_1 zb_2198))))))))), rfl⟩
theorem eL_law_2199 : dx cL_law 2199 (.iload 5) 2 2201 := ⟨zd_c (o := 2184) (p := 15) zh_2184 (zc_2 (zc_1 (zc_1 (zc_1 (zc_1 (zc_1 (zc_1 (zc_1 (zc_1 zb_2198))))))))), rfl⟩
theorem eL_law_2201 : dx cL_law 2201 (.iconst 2) 1 2202 := ⟨zd_c (o := 2184) (p := 17) zh_2184 (zc_2 (zc_1 (zc_1 (zc_1 (zc_1 (zc_1 (zc_1 (zc_1 zb_2198)))))))), rfl⟩
theorem eL_law_2202 : dx cL_law 2202 (.iadd) 1 2203 := ⟨zd_c (o := 2184) (p := 18) zh_2184 (zc_2 (zc_1 (zc_1 (zc_1 (zc_1 (zc_1 (zc_1 zb_2198))))))), rfl⟩
theorem eL_law_2203 : dx cL_law 2203 (.iaload) 1 2204 := ⟨zd_c (o := 2184) (p := 19) zh_2184 (zc_2 (zc_1 (zc_1 (zc_1 (zc_1 (zc_1 zb_2198)))))), rfl⟩
theorem eL_law_2204 : dx cL_law 2204 (.ifCond .eq 7) 3 2207 := ⟨zd_c (o := 2184) (p := 20) zh_2184 (zc_2 (zc_1 (zc_1 (zc_1 (zc_1 zb_2198))))), rfl⟩
theorem eL_law_2207 : dx cL_law 2207 (.iconst 1) 1 2208 := ⟨zd_c (o := 2184) (p := 23) zh_2184 (zc_2 (zc_1 (zc_1 (zc_1 zb_2198)))), rfl⟩
theorem eL_law_2208 : dx cL_law 2208 (.goto 4) 3 2211 := ⟨zd_c (o := 2184) (p := 24) zh_2184 (zc_2 (zc_1 (zc_1 zb_2198))), rfl⟩
theorem eL_law_2211 : dx cL_law 2211 (.iconst 0) 1 2212 := ⟨zd_c (o := 2184) (p := 27) zh_2184 (zc_2 (zc_1 zb_2198)), rfl⟩
theorem eL_law_2212 : dx cL_law 2212 (.invokevirtual 271) 3 2215 := ⟨zd_c (o := 2184) (p := 28) zh_2184 (zc_2 zb_2198), rfl⟩
theorem zb_2215 : (zdC zp_2184 31 (.istore 7) 2 && zdC zp_2184 33 (.aload_n 2) 1 && zdC zp_2184 34 (.invokevirtual 145) 3 && zdC zp_2184 37 (.iload 6) 2 && zdC zp_2184 39 (.if_icmp .eq 5) 3 && zdC zp_2184 42 (.iconst 0) 1 && zdC zp_2184 43 (.ireturn) 1 && zdC zp_2184 44 (.iload 6) 2 && zdC zp_2184 46 (.ifCond .ne 22) 3 && zdC zp_2184 49 (.aload_n 3) 1) = true := by decide +kernel
theorem eL_law_2215 : dx cL_law 2215 (.istore 7) 2 2217 := ⟨zd_c (o := 2184) (p := 31) zh_2184 (zc_1 (zc_1 (zc_1 (zc_1 (zc_1 (zc_1 (zc_1 (zc_1 (zc_1 zb_2215))))))))), rfl⟩
theorem eL_law_2217 : dx cL_law 2217 (.aload_n 2) 1 2218 := ⟨zd_c (o := 2184) (p := 33) zh_2184 (zc_2 (zc_1 (zc_1 (zc_1 (zc_1 (zc_1 (zc_1 (zc_1 (zc_1 zb_2215))))))))), rfl⟩
theorem eL_law_2218 : dx cL_law 2218 (.invokevirtual 145) 3 2221 := ⟨zd_c (o := 2184) (p := 34) zh_2184 (zc_2 (zc_1 (zc_1 (zc_1 (zc_1 (zc_1 (zc_1 (zc_1 zb_2215)))))))), rfl⟩
theorem eL_law_2221 : dx cL_law 2221 (.iload 6) 2 2223 := ⟨zd_c (o := 2184) (p := 37) zh_2184 (zc_2 (zc_1 (zc_1 (zc_1 (zc_1 (zc_1 (zc_1 zb_2215))))))), rfl⟩
theorem eL_law_2223 : dx cL_law 2223 (.if_icmp .eq 5) 3 2226 := ⟨zd_c (o := 2184) (p := 39) zh_2184 (zc_2 (zc_1 (zc_1 (zc_1 (zc_1 (zc_1 zb_2215)))))), rfl⟩
theorem eL_law_2226 : dx cL_law 2226 (.iconst 0) 1 2227 := ⟨zd_c (o := 2184) (p := 42) zh_2184 (zc_2 (zc_1 (zc_1 (zc_1 (zc_1 zb_2215))))), rfl⟩
theorem eL_law_2227 : dx cL_law 2227 (.ireturn) 1 2228 := ⟨zd_c (o := 2184) (p := 43) zh_2184 (zc_2 (zc_1 (zc_1 (zc_1 zb_2215)))), rfl⟩
theorem eL_law_2228 : dx cL_law 2228 (.iload 6) 2 2230 := ⟨zd_c (o := 2184) (p := 44) zh_2184 (zc_2 (zc_1 (zc_1 zb_2215))), rfl⟩
theorem eL_law_2230 : dx cL_law 2230 (.ifCond .ne 22) 3 2233 := ⟨zd_c (o := 2184) (p := 46) zh_2184 (zc_2 (zc_1 zb_2215)), rfl⟩
theorem eL_law_2233 : dx cL_law 2233 (.aload_n 3) 1 2234 := ⟨zd_c (o := 2184) (p := 49) zh_2184 (zc_2 zb_2215), rfl⟩
theorem zb_2234 : (zdC zp_2184 50 (.iconst 0) 1 && zdC zp_2184 51 (.laload) 1 && zdC zp_2184 52 (.iload 7) 2 && zdC zp_2184 54 (.ifCond .eq 7) 3 && zdC zp_2184 57 (.lconst 1) 1 && zdC zp_2184 58 (.goto 4) 3 && zdC zp_2184 61 (.lconst 0) 1 && zdC zp_2184 62 (.lcmp) 1 && zdC zp_2184 63 (.ifCond .eq 5) 3 && zdC zp_2184 66 (.iconst 0) 1) = true := by decide +kernel
theorem eL_law_2234 : dx cL_law 2234 (.iconst 0) 1 2235 := ⟨zd_c (o := 2184) (p := 50) zh_2184 (zc_1 (zc_1 (zc_1 (zc_1 (zc_1 (zc_1 (zc_1 (zc_1 (zc_1 zb_2234))))))))), rfl⟩
theorem eL_law_2235 : dx cL_law 2235 (.laload) 1 2236 := ⟨zd_c (o := 2184) (p := 51) zh_2184 (zc_2 (zc_1 (zc_1 (zc_1 (zc_1 (zc_1 (zc_1 (zc_1 (zc_1 zb_2234))))))))), rfl⟩
theorem eL_law_2236 : dx cL_law 2236 (.iload 7) 2 2238 := ⟨zd_c (o := 2184) (p := 52) zh_2184 (zc_2 (zc_1 (zc_1 (zc_1 (zc_1 (zc_1 (zc_1 (zc_1 zb_2234)))))))), rfl⟩
theorem eL_law_2238 : dx cL_law 2238 (.ifCond .eq 7) 3 2241 := ⟨zd_c (o := 2184) (p := 54) zh_2184 (zc_2 (zc_1 (zc_1 (zc_1 (zc_1 (zc_1 (zc_1 zb_2234))))))), rfl⟩
theorem eL_law_2241 : dx cL_law 2241 (.lconst 1) 1 2242 := ⟨zd_c (o := 2184) (p := 57) zh_2184 (zc_2 (zc_1 (zc_1 (zc_1 (zc_1 (zc_1 zb_2234)))))), rfl⟩
theorem eL_law_2242 : dx cL_law 2242 (.goto 4) 3 2245 := ⟨zd_c (o := 2184) (p := 58) zh_2184 (zc_2 (zc_1 (zc_1 (zc_1 (zc_1 zb_2234))))), rfl⟩
theorem eL_law_2245 : dx cL_law 2245 (.lconst 0) 1 2246 := ⟨zd_c (o := 2184) (p := 61) zh_2184 (zc_2 (zc_1 (zc_1 (zc_1 zb_2234)))), rfl⟩
theorem eL_law_2246 : dx cL_law 2246 (.lcmp) 1 2247 := ⟨zd_c (o := 2184) (p := 62) zh_2184 (zc_2 (zc_1 (zc_1 zb_2234))), rfl⟩
theorem eL_law_2247 : dx cL_law 2247 (.ifCond .eq 5) 3 2250 := ⟨zd_c (o := 2184) (p := 63) zh_2184 (zc_2 (zc_1 zb_2234)), rfl⟩
theorem eL_law_2250 : dx cL_law 2250 (.iconst 0) 1 2251 := ⟨zd_c (o := 2184) (p := 66) zh_2184 (zc_2 zb_2234), rfl⟩
def zp_2251 : ByteArray := ⟨#[0xac, 0xa7, 0x02, 0x1b, 0x2b, 0x2a, 0x15, 0x05, 0x04, 0x60, 0x2e, 0x2a, 0x15, 0x05, 0x05, 0x60, 0x2e, 0x2d, 0xb8, 0x01, 0x10, 0x36, 0x06, 0x2c, 0x2a, 0x15, 0x05, 0x04, 0x60, 0x2e, 0x2a, 0x15, 0x05, 0x05, 0x60, 0x2e, 0xb6, 0x01, 0x12, 0x36, 0x07, 0x2c, 0xb6, 0x00, 0x91, 0x15, 0x06, 0x9f, 0x00, 0x05, 0x03, 0xac, 0x15, 0x06, 0x9a, 0x00, 0x0f, 0x2d, 0x03, 0x2f]⟩
theorem zh_2251 : SubC cL_law zp_2251 2251 := sub_of (n := 60) (by decide +kernel)
theorem zb_2251 : (zdC zp_2251 0 (.ireturn) 1 && zdC zp_2251 1 (.goto 539) 3 && zdC zp_2251 4 (.aload_n 1) 1 && zdC zp_2251 5 (.aload_n 0) 1 && zdC zp_2251 6 (.iload 5) 2 && zdC zp_2251 8 (.iconst 1) 1 && zdC zp_2251 9 (.iadd) 1 && zdC zp_2251 10 (.iaload) 1 && zdC zp_2251 11 (.aload_n 0) 1 && zdC zp_2251 12 (.iload 5) 2) = true := by decide +kernel
theorem eL_law_2251 : dx cL_law 2251 (.ireturn) 1 2252 := ⟨zd_c (o := 2251) (p := 0) zh_2251 (zc_1 (zc_1 (zc_1 (zc_1 (zc_1 (zc_1 (zc_1 (zc_1 (zc_1 zb_2251))))))))), rfl⟩
theorem eL_law_2252 : dx cL_law 2252 (.goto 539) 3 2255 := ⟨zd_c (o := 2251) (p := 1) zh_2251 (zc_2 (zc_1 (zc_1 (zc_1 (zc_1 (zc_1 (zc_1 (zc_1 (zc_1 zb_2251))))))))), rfl⟩
theorem eL_law_2255 : dx cL_law 2255 (.aload_n 1) 1 2256 := ⟨zd_c (o := 2251) (p := 4) zh_2251 (zc_2 (zc_1 (zc_1 (zc_1 (zc_1 (zc_1 (zc_1 (zc_1 zb_2251)))))))), rfl⟩
theorem eL_law_2256 : dx cL_law 2256 (.aload_n 0) 1 2257 := ⟨zd_c (o := 2251) (p := 5) zh_2251 (zc_2 (zc_1 (zc_1 (zc_1 (zc_1 (zc_1 (zc_1 zb_2251))))))), rfl⟩
theorem eL_law_2257 : dx cL_law 2257 (.iload 5) 2 2259 := ⟨zd_c (o := 2251) (p := 6) zh_2251 (zc_2 (zc_1 (zc_1 (zc_1 (zc_1 (zc_1 zb_2251)))))), rfl⟩
theorem eL_law_2259 : dx cL_law 2259 (.iconst 1) 1 2260 := ⟨zd_c (o := 2251) (p := 8) zh_2251 (zc_2 (zc_1 (zc_1 (zc_1 (zc_1 zb_2251))))), rfl⟩
theorem eL_law_2260 : dx cL_law 2260 (.iadd) 1 2261 := ⟨zd_c (o := 2251) (p := 9) zh_2251 (zc_2 (zc_1 (zc_1 (zc_1 zb_2251)))), rfl⟩
theorem eL_law_2261 : dx cL_law 2261 (.iaload) 1 2262 := ⟨zd_c (o := 2251) (p := 10) zh_2251 (zc_2 (zc_1 (zc_1 zb_2251))), rfl⟩
theorem eL_law_2262 : dx cL_law 2262 (.aload_n 0) 1 2263 := ⟨zd_c (o := 2251) (p := 11) zh_2251 (zc_2 (zc_1 zb_2251)), rfl⟩
theorem eL_law_2263 : dx cL_law 2263 (.iload 5) 2 2265 := ⟨zd_c (o := 2251) (p := 12) zh_2251 (zc_2 zb_2251), rfl⟩
theorem zb_2265 : (zdC zp_2251 14 (.iconst 2) 1 && zdC zp_2251 15 (.iadd) 1 && zdC zp_2251 16 (.iaload) 1 && zdC zp_2251 17 (.aload_n 3) 1 && zdC zp_2251 18 (.invokestatic 272) 3 && zdC zp_2251 21 (.istore 6) 2 && zdC zp_2251 23 (.aload_n 2) 1 && zdC zp_2251 24 (.aload_n 0) 1 && zdC zp_2251 25 (.iload 5) 2 && zdC zp_2251 27 (.iconst 1) 1) = true := by decide +kernel
theorem eL_law_2265 : dx cL_law 2265 (.iconst 2) 1 2266 := ⟨zd_c (o := 2251) (p := 14) zh_2251 (zc_1 (zc_1 (zc_1 (zc_1 (zc_1 (zc_1 (zc_1 (zc_1 (zc_1 zb_2265))))))))), rfl⟩
theorem eL_law_2266 : dx cL_law 2266 (.iadd) 1 2267 := ⟨zd_c (o := 2251) (p := 15) zh_2251 (zc_2 (zc_1 (zc_1 (zc_1 (zc_1 (zc_1 (zc_1 (zc_1 (zc_1 zb_2265))))))))), rfl⟩
theorem eL_law_2267 : dx cL_law 2267 (.iaload) 1 2268 := ⟨zd_c (o := 2251) (p := 16) zh_2251 (zc_2 (zc_1 (zc_1 (zc_1 (zc_1 (zc_1 (zc_1 (zc_1 zb_2265)))))))), rfl⟩
theorem eL_law_2268 : dx cL_law 2268 (.aload_n 3) 1 2269 := ⟨zd_c (o := 2251) (p := 17) zh_2251 (zc_2 (zc_1 (zc_1 (zc_1 (zc_1 (zc_1 (zc_1 zb_2265))))))), rfl⟩
theorem eL_law_2269 : dx cL_law 2269 (.invokestatic 272) 3 2272 := ⟨zd_c (o := 2251) (p := 18) zh_2251 (zc_2 (zc_1 (zc_1 (zc_1 (zc_1 (zc_1 zb_2265)))))), rfl⟩
theorem eL_law_2272 : dx cL_law 2272 (.istore 6) 2 2274 := ⟨zd_c (o := 2251) (p := 21) zh_2251 (zc_2 (zc_1 (zc_1 (zc_1 (zc_1 zb_2265))))), rfl⟩
theorem eL_law_2274 : dx cL_law 2274 (.aload_n 2) 1 2275 := ⟨zd_c (o := 2251) (p := 23) zh_2251 (zc_2 (zc_1 (zc_1 (zc_1 zb_2265)))), rfl⟩
theorem eL_law_2275 : dx cL_law 2275 (.aload_n 0) 1 2276 := ⟨zd_c (o := 2251) (p := 24) zh_2251 (zc_2 (zc_1 (zc_1 zb_2265))), rfl⟩
theorem eL_law_2276 : dx cL_law 2276 (.iload 5) 2 2278 := ⟨zd_c (o := 2251) (p := 25) zh_2251 (zc_2 (zc_1 zb_2265)), rfl⟩
theorem eL_law_2278 : dx cL_law 2278 (.iconst 1) 1 2279 := ⟨zd_c (o := 2251) (p := 27) zh_2251 (zc_2 zb_2265), rfl⟩
theorem zb_2279 : (zdC zp_2251 28 (.iadd) 1 && zdC zp_2251 29 (.iaload) 1 && zdC zp_2251 30 (.aload_n 0) 1 && zdC zp_2251 31 (.iload 5) 2 && zdC zp_2251 33 (.iconst 2) 1 && zdC zp_2251 34 (.iadd) 1 && zdC zp_2251 35 (.iaload) 1 && zdC zp_2251 36 (.invokevirtual 274) 3 && zdC zp_2251 39 (.istore 7) 2 && zdC zp_2251 41 (.aload_n 2) 1) = true := by decide +kernel
theorem eL_law_2279 : dx cL_law 2279 (.iadd) 1 2280 := ⟨zd_c (o := 2251) (p := 28) zh_2251 (zc_1 (zc_1 (zc_1 (zc_1 (zc_1 (zc_1 (zc_1 (zc_1 (zc_1 zb_2279))))))))), rfl⟩
theorem eL_law_2280 : dx cL_law 2280 (.iaload) 1 2281 := ⟨zd_c (o := 2251) (p := 29) zh_2251 (zc_2 (zc_1 (zc_1 (zc_1 (zc_1 (zc_1 (zc_1 (zc_1 (zc_1 zb_2279))))))))), rfl⟩
theorem eL_law_2281 : dx cL_law 2281 (.aload_n 0) 1 2282 := ⟨zd_c (o := 2251) (p := 30) zh_2251 (zc_2 (zc_1 (zc_1 (zc_1 (zc_1 (zc_1 (zc_1 (zc_1 zb_2279)))))))), rfl⟩
theorem eL_law_2282 : dx cL_law 2282 (.iload 5) 2 2284 := ⟨zd_c (o := 2251) (p := 31) zh_2251 (zc_2 (zc_1 (zc_1 (zc_1 (zc_1 (zc_1 (zc_1 zb_2279))))))), rfl⟩
theorem eL_law_2284 : dx cL_law 2284 (.iconst 2) 1 2285 := ⟨zd_c (o := 2251) (p := 33) zh_2251 (zc_2 (zc_1 (zc_1 (zc_1 (zc_1 (zc_1 zb_2279)))))), rfl⟩
theorem eL_law_2285 : dx cL_law 2285 (.iadd) 1 2286 := ⟨zd_c (o := 2251) (p := 34) zh_2251 (zc_2 (zc_1 (zc_1 (zc_1 (zc_1 zb_2279))))), rfl⟩
theorem eL_law_2286 : dx cL_law 2286 (.iaload) 1 2287 := ⟨zd_c (o := 2251) (p := 35) zh_2251 (zc_2 (zc_1 (zc_1 (zc_1 zb_2279)))), rfl⟩
theorem eL_law_2287 : dx cL_law 2287 (.invokevirtual 274) 3 2290 := ⟨zd_c (o := 2251) (p := 36) zh_2251 (zc_2 (zc_1 (zc_1 zb_2279))), rfl⟩
theorem eL_law_2290 : dx cL_law 2290 (.istore 7) 2 2292 := ⟨zd_c (o := 2251) (p := 39) zh_2251 (zc_2 (zc_1 zb_2279)), rfl⟩
theorem eL_law_2292 : dx cL_law 2292 (.aload_n 2) 1 2293 := ⟨zd_c (o := 2251) (p := 41) zh_2251 (zc_2 zb_2279), rfl⟩
theorem zb_2293 : (zdC zp_2251 42 (.invokevirtual 145) 3 && zdC zp_2251 45 (.iload 6) 2 && zdC zp_2251 47 (.if_icmp .eq 5) 3 && zdC zp_2251 50 (.iconst 0) 1 && zdC zp_2251 51 (.ireturn) 1 && zdC zp_2251 52 (.iload 6) 2 && zdC zp_2251 54 (.ifCond .ne 15) 3 && zdC zp_2251 57 (.aload_n 3) 1 && zdC zp_2251 58 (.iconst 0) 1 && zdC zp_2251 59 (.laload) 1) = true := by decide +kernel
theorem eL_law_2293 : dx cL_law 2293 (.invokevirtual 145) 3 2296 := ⟨zd_c (o := 2251) (p := 42) zh_2251 (zc_1 (zc_1 (zc_1 (zc_1 (zc_1 (zc_1 (zc_1 (zc_1 (zc_1 zb_2293))))))))), rfl⟩
theorem eL_law_2296 : dx cL_law 2296 (.iload 6) 2 2298 := ⟨zd_c (o := 2251) (p := 45) zh_2251 (zc_2 (zc_1 (zc_1 (zc_1 (zc_1 (zc_1 (zc_1 (zc_1 (zc_1 zb_2293))))))))), rfl⟩
theorem eL_law_2298 : dx cL_law 2298 (.if_icmp .eq 5) 3 2301 := ⟨zd_c (o := 2251) (p := 47) zh_2251 (zc_2 (zc_1 (zc_1 (zc_1 (zc_1 (zc_1 (zc_1 (zc_1 zb_2293)))))))), rfl⟩
theorem eL_law_2301 : dx cL_law 2301 (.iconst 0) 1 2302 := ⟨zd_c (o := 2251) (p := 50) zh_2251 (zc_2 (zc_1 (zc_1 (zc_1 (zc_1 (zc_1 (zc_1 zb_2293))))))), rfl⟩
theorem eL_law_2302 : dx cL_law 2302 (.ireturn) 1 2303 := ⟨zd_c (o := 2251) (p := 51) zh_2251 (zc_2 (zc_1 (zc_1 (zc_1 (zc_1 (zc_1 zb_2293)))))), rfl⟩
theorem eL_law_2303 : dx cL_law 2303 (.iload 6) 2 2305 := ⟨zd_c (o := 2251) (p := 52) zh_2251 (zc_2 (zc_1 (zc_1 (zc_1 (zc_1 zb_2293))))), rfl⟩
theorem eL_law_2305 : dx cL_law 2305 (.ifCond .ne 15) 3 2308 := ⟨zd_c (o := 2251) (p := 54) zh_2251 (zc_2 (zc_1 (zc_1 (zc_1 zb_2293)))), rfl⟩
theorem eL_law_2308 : dx cL_law 2308 (.aload_n 3) 1 2309 := ⟨zd_c (o := 2251) (p := 57) zh_2251 (zc_2 (zc_1 (zc_1 zb_2293))), rfl⟩
theorem eL_law_2309 : dx cL_law 2309 (.iconst 0) 1 2310 := ⟨zd_c (o := 2251) (p := 58) zh_2251 (zc_2 (zc_1 zb_2293)), rfl⟩
theorem eL_law_2310 : dx cL_law 2310 (.laload) 1 2311 := ⟨zd_c (o := 2251) (p := 59) zh_2251 (zc_2 zb_2293), rfl⟩
def zp_2311 : ByteArray := ⟨#[0x15, 0x07, 0x85, 0x94, 0x99, 0x00, 0x05, 0x03, 0xac, 0xa7, 0x01, 0xd7, 0x2b, 0x2a, 0x15, 0x05, 0x04, 0x60, 0x2e, 0x2a, 0x15, 0x05, 0x05, 0x60, 0x2e, 0x2a, 0x15, 0x05, 0x06, 0x60, 0x2e, 0x2d, 0xb8, 0x01, 0x13, 0x36, 0x06, 0x2c, 0x2a, 0x15, 0x05, 0x04, 0x60, 0x2e, 0x2a, 0x15, 0x05, 0x05, 0x60, 0x2e, 0x2a, 0x15, 0x05, 0x06]⟩
theorem zh_2311 : SubC cL_law zp_2311 2311 := sub_of (n := 54) (by decide +kernel)
theorem zb_2311 : (zdC zp_2311 0 (.iload 7) 2 && zdC zp_2311 2 (.i2l) 1 && zdC zp_2311 3 (.lcmp) 1 && zdC zp_2311 4 (.ifCond .eq 5) 3 && zdC zp_2311 7 (.iconst 0) 1 && zdC zp_2311 8 (.ireturn) 1 && zdC zp_2311 9 (.goto 471) 3 && zdC zp_2311 12 (.aload_n 1) 1 && zdC zp_2311 13 (.aload_n 0) 1 && zdC zp_2311 14 (.iload 5) 2) = true := by decide +kernel
theorem eL_law_2311 : dx cL_law 2311 (.iload 7) 2 2313 := ⟨zd_c (o := 2311) (p := 0) zh_2311 (zc_1 (zc_1 (zc_1 (zc_1 (zc_1 (zc_1 (zc_1 (zc_1 (zc_1 zb_2311))))))))), rfl⟩
theorem eL_law_2313 : dx cL_law 2313 (.i2l) 1 2314 := ⟨zd_c (o := 2311) (p := 2) zh_2311 (zc_2 (zc_1 (zc_1 (zc_1 (zc_1 (zc_1 (zc_1 (zc_1 (zc_1 zb_2311))))))))), rfl⟩
theorem eL_law_2314 : dx cL_law 2314 (.lcmp) 1 2315 := ⟨zd_c (o := 2311) (p := 3) zh_2311 (zc_2 (zc_1 (zc_1 (zc_1 (zc_1 (zc_1 (zc_1 (zc_1 zb_2311)))))))), rfl⟩
theorem eL_law_2315 : dx cL_law 2315 (.ifCond .eq 5) 3 2318 := ⟨zd_c (o := 2311) (p := 4) zh_2311 (zc_2 (zc_1 (zc_1 (zc_1 (zc_1 (zc_1 (zc_1 zb_2311))))))), rfl⟩
theorem eL_law_2318 : dx cL_law 2318 (.iconst 0) 1 2319 := ⟨zd_c (o := 2311) (p := 7) zh_2311 (zc_2 (zc_1 (zc_1 (zc_1 (zc_1 (zc_1 zb_2311)))))), rfl⟩
theorem eL_law_2319 : dx cL_law 2319 (.ireturn) 1 2320 := ⟨zd_c (o := 2311) (p := 8) zh_2311 (zc_2 (zc_1 (zc_1 (zc_1 (zc_1 zb_2311))))), rfl⟩
theorem eL_law_2320 : dx cL_law 2320 (.goto 471) 3 2323 := ⟨zd_c (o := 2311) (p := 9) zh_2311 (zc_2 (zc_1 (zc_1 (zc_1 zb_2311)))), rfl⟩
theorem eL_law_2323 : dx cL_law 2323 (.aload_n 1) 1 2324 := ⟨zd_c (o := 2311) (p := 12) zh_2311 (zc_2 (zc_1 (zc_1 zb_2311))), rfl⟩
theorem eL_law_2324 : dx cL_law 2324 (.aload_n 0) 1 2325 := ⟨zd_c (o := 2311) (p := 13) zh_2311 (zc_2 (zc_1 zb_2311)), rfl⟩
theorem eL_law_2325 : dx cL_law 2325 (.iload 5) 2 2327 := ⟨zd_c (o := 2311) (p := 14) zh_2311 (zc_2 zb_2311), rfl⟩
theorem zb_2327 : (zdC zp_2311 16 (.iconst 1) 1 && zdC zp_2311 17 (.iadd) 1 && zdC zp_2311 18 (.iaload) 1 && zdC zp_2311 19 (.aload_n 0) 1 && zdC zp_2311 20 (.iload 5) 2 && zdC zp_2311 22 (.iconst 2) 1 && zdC zp_2311 23 (.iadd) 1 && zdC zp_2311 24 (.iaload) 1 && zdC zp_2311 25 (.aload_n 0) 1 && zdC zp_2311 26 (.iload 5) 2) = true := by decide +kernel
theorem eL_law_2327 : dx cL_law 2327 (.iconst 1) 1 2328 := ⟨zd_c (o := 2311) (p := 16) zh_2311 (zc_1 (zc_1 (zc_1 (zc_1 (zc_1 (zc_1 (zc_1 (zc_1 (zc_1 zb_2327))))))))), rfl⟩
theorem eL_law_2328 : dx cL_law 2328 (.iadd) 1 2329 := ⟨zd_c (o := 2311) (p := 17) zh_2311 (zc_2 (zc_1 (zc_1 (zc_1 (zc_1 (zc_1 (zc_1 (zc_1 (zc_1 zb_2327))))))))), rfl⟩
theorem eL_law_2329 : dx cL_law 2329 (.iaload) 1 2330 := ⟨zd_c (o := 2311) (p := 18) zh_2311 (zc_2 (zc_1 (zc_1 (zc_1 (zc_1 (zc_1 (zc_1 (zc_1 zb_2327)))))))), rfl⟩
theorem eL_law_2330 : dx cL_law 2330 (.aload_n 0) 1 2331 := ⟨zd_c (o := 2311) (p := 19) zh_2311 (zc_2 (zc_1 (zc_1 (zc_1 (zc_1 (zc_1 (zc_1 zb_2327))))))), rfl⟩
theorem eL_law_2331 : dx cL_law 2331 (.iload 5) 2 2333 := ⟨zd_c (o := 2311) (p := 20) zh_2311 (zc_2 (zc_1 (zc_1 (zc_1 (zc_1 (zc_1 zb_2327)))))), rfl⟩
theorem eL_law_2333 : dx cL_law 2333 (.iconst 2) 1 2334 := ⟨zd_c (o := 2311) (p := 22) zh_2311 (zc_2 (zc_1 (zc_1 (zc_1 (zc_1 zb_2327))))), rfl⟩
theorem eL_law_2334 : dx cL_law 2334 (.iadd) 1 2335 := ⟨zd_c (o := 2311) (p := 23) zh_2311 (zc_2 (zc_1 (zc_1 (zc_1 zb_2327)))), rfl⟩
theorem eL_law_2335 : dx cL_law 2335 (.iaload) 1 2336 := ⟨zd_c (o := 2311) (p := 24) zh_2311 (zc_2 (zc_1 (zc_1 zb_2327))), rfl⟩
theorem eL_law_2336 : dx cL_law 2336 (.aload_n 0) 1 2337 := ⟨zd_c (o := 2311) (p := 25) zh_2311 (zc_2 (zc_1 zb_2327)), rfl⟩
theorem eL_law_2337 : dx cL_law 2337 (.iload 5) 2 2339 := ⟨zd_c (o := 2311) (p := 26) zh_2311 (zc_2 zb_2327), rfl⟩
theorem zb_2339 : (zdC zp_2311 28 (.iconst 3) 1 && zdC zp_2311 29 (.iadd) 1 && zdC zp_2311 30 (.iaload) 1 && zdC zp_2311 31 (.aload_n 3) 1 && zdC zp_2311 32 (.invokestatic 275) 3 && zdC zp_2311 35 (.istore 6) 2 && zdC zp_2311 37 (.aload_n 2) 1 && zdC zp_2311 38 (.aload_n 0) 1 && zdC zp_2311 39 (.iload 5) 2 && zdC zp_2311 41 (.iconst 1) 1) = true := by decide +kernel
theorem eL_law_2339 : dx cL_law 2339 (.iconst 3) 1 2340 := ⟨zd_c (o := 2311) (p := 28) zh_2311 (zc_1 (zc_1 (zc_1 (zc_1 (zc_1 (zc_1 (zc_1 (zc_1 (zc_1 zb_2339))))))))), rfl⟩
theorem eL_law_2340 : dx cL_law 2340 (.iadd) 1 2341 := ⟨zd_c (o := 2311) (p := 29) zh_2311 (zc_2 (zc_1 (zc_1 (zc_1 (zc_1 (zc_1 (zc_1 (zc_1 (zc_1 zb_2339))))))))), rfl⟩
theorem eL_law_2341 : dx cL_law 2341 (.iaload) 1 2342 := ⟨zd_c (o := 2311) (p := 30) zh_2311 (zc_2 (zc_1 (zc_1 (zc_1 (zc_1 (zc_1 (zc_1 (zc_1 zb_2339)))))))), rfl⟩
theorem eL_law_2342 : dx cL_law 2342 (.aload_n 3) 1 2343 := ⟨zd_c (o := 2311) (p := 31) zh_2311 (zc_2 (zc_1 (zc_1 (zc_1 (zc_1 (zc_1 (zc_1 zb_2339))))))), rfl⟩
theorem eL_law_2343 : dx cL_law 2343 (.invokestatic 275) 3 2346 := ⟨zd_c (o := 2311) (p := 32) zh_2311 (zc_2 (zc_1 (zc_1 (zc_1 (zc_1 (zc_1 zb_2339)))))), rfl⟩
theorem eL_law_2346 : dx cL_law 2346 (.istore 6) 2 2348 := ⟨zd_c (o := 2311) (p := 35) zh_2311 (zc_2 (zc_1 (zc_1 (zc_1 (zc_1 zb_2339))))), rfl⟩
theorem eL_law_2348 : dx cL_law 2348 (.aload_n 2) 1 2349 := ⟨zd_c (o := 2311) (p := 37) zh_2311 (zc_2 (zc_1 (zc_1 (zc_1 zb_2339)))), rfl⟩
theorem eL_law_2349 : dx cL_law 2349 (.aload_n 0) 1 2350 := ⟨zd_c (o := 2311) (p := 38) zh_2311 (zc_2 (zc_1 (zc_1 zb_2339))), rfl⟩
theorem eL_law_2350 : dx cL_law 2350 (.iload 5) 2 2352 := ⟨zd_c (o := 2311) (p := 39) zh_2311 (zc_2 (zc_1 zb_2339)), rfl⟩
theorem eL_law_2352 : dx cL_law 2352 (.iconst 1) 1 2353 := ⟨zd_c (o := 2311) (p := 41) zh_2311 (zc_2 zb_2339), rfl⟩
theorem zb_2353 : (zdC zp_2311 42 (.iadd) 1 && zdC zp_2311 43 (.iaload) 1 && zdC zp_2311 44 (.aload_n 0) 1 && zdC zp_2311 45 (.iload 5) 2 && zdC zp_2311 47 (.iconst 2) 1 && zdC zp_2311 48 (.iadd) 1 && zdC zp_2311 49 (.iaload) 1 && zdC zp_2311 50 (.aload_n 0) 1 && zdC zp_2311 51 (.iload 5) 2 && zdC zp_2311 53 (.iconst 3) 1) = true := by decide +kernel
theorem eL_law_2353 : dx cL_law 2353 (.iadd) 1 2354 := ⟨zd_c (o := 2311) (p := 42) zh_2311 (zc_1 (zc_1 (zc_1 (zc_1 (zc_1 (zc_1 (zc_1 (zc_1 (zc_1 zb_2353))))))))), rfl⟩
theorem eL_law_2354 : dx cL_law 2354 (.iaload) 1 2355 := ⟨zd_c (o := 2311) (p := 43) zh_2311 (zc_2 (zc_1 (zc_1 (zc_1 (zc_1 (zc_1 (zc_1 (zc_1 (zc_1 zb_2353))))))))), rfl⟩
theorem eL_law_2355 : dx cL_law 2355 (.aload_n 0) 1 2356 := ⟨zd_c (o := 2311) (p := 44) zh_2311 (zc_2 (zc_1 (zc_1 (zc_1 (zc_1 (zc_1 (zc_1 (zc_1 zb_2353)))))))), rfl⟩
theorem eL_law_2356 : dx cL_law 2356 (.iload 5) 2 2358 := ⟨zd_c (o := 2311) (p := 45) zh_2311 (zc_2 (zc_1 (zc_1 (zc_1 (zc_1 (zc_1 (zc_1 zb_2353))))))), rfl⟩
theorem eL_law_2358 : dx cL_law 2358 (.iconst 2) 1 2359 := ⟨zd_c (o := 2311) (p := 47) zh_2311 (zc_2 (zc_1 (zc_1 (zc_1 (zc_1 (zc_1 zb_2353)))))), rfl⟩
theorem eL_law_2359 : dx cL_law 2359 (.iadd) 1 2360 := ⟨zd_c (o := 2311) (p := 48) zh_2311 (zc_2 (zc_1 (zc_1 (zc_1 (zc_1 zb_2353))))), rfl⟩
theorem eL_law_2360 : dx cL_law 2360 (.iaload) 1 2361 := ⟨zd_c (o := 2311) (p := 49) zh_2311 (zc_2 (zc_1 (zc_1 (zc_1 zb_2353)))), rfl⟩
theorem eL_law_2361 : dx cL_law 2361 (.aload_n 0) 1 2362 := ⟨zd_c (o := 2311) (p := 50) zh_2311 (zc_2 (zc_1 (zc_1 zb_2353))), rfl⟩
theorem eL_law_2362 : dx cL_law 2362 (.iload 5) 2 2364 := ⟨zd_c (o := 2311) (p := 51) zh_2311 (zc_2 (zc_1 zb_2353)), rfl⟩
theorem eL_law_2364 : dx cL_law 2364 (.iconst 3) 1 2365 := ⟨zd_c (o := 2311) (p := 53) zh_2311 (zc_2 zb_2353), rfl⟩
def zp_2365 : ByteArray := ⟨#[0x60, 0x2e, 0xb6, 0x01, 0x15, 0x36, 0x07, 0x2c, 0xb6, 0x00, 0x91, 0x15, 0x06, 0x9f, 0x00, 0x05, 0x03, 0xac, 0x15, 0x06, 0x9a, 0x00, 0x0f, 0x2d, 0x03, 0x2f, 0x15, 0x07, 0x85, 0x94, 0x99, 0x00, 0x05, 0x03, 0xac, 0xa7, 0x01, 0x87, 0x2b, 0x2a, 0x15, 0x05, 0x04, 0x60, 0x2e, 0x2a, 0x15, 0x05, 0x05, 0x60, 0x2e, 0x2d, 0xb8, 0x01, 0x16, 0x36, 0x06, 0x2c, 0x2a, 0x15, 0x05, 0x04]⟩
theorem zh_2365 : SubC cL_law zp_2365 2365 := sub_of (n := 62) (by decide +kernel)
theorem zb_2365 : (zdC zp_2365 0 (.iadd) 1 && zdC zp_2365 1 (.iaload) 1 && zdC zp_2365 2 (.invokevirtual 277) 3 && zdC zp_2365 5 (.istore 7) 2 && zdC zp_2365 7 (.aload_n 2) 1 && zdC zp_2365 8 (.invokevirtual 145) 3 && zdC zp_2365 11 (.iload 6) 2 && zdC zp_2365 13 (.if_icmp .eq 5) 3 && zdC zp_2365 16 (.iconst 0) 1 && zdC zp_2365 17 (.ireturn) 1) = true := by decide +kernel
theorem eL_law_2365 : dx cL_law 2365 (.iadd) 1 2366 := ⟨zd_c (o := 2365) (p := 0) zh_2365 (zc_1 (zc_1 (zc_1 (zc_1 (zc_1 (zc_1 (zc_1 (zc_1 (zc_1 zb_2365))))))))), rfl⟩
theorem eL_law_2366 : dx cL_law 2366 (.iaload) 1 2367 := ⟨zd_c (o := 2365) (p := 1) zh_2365 (zc_2 (zc_1 (zc_1 (zc_1 (zc_1 (zc_1 (zc_1 (zc_1 (zc_1 zb_2365))))))))), rfl⟩
theorem eL_law_2367 : dx cL_law 2367 (.invokevirtual 277) 3 2370 := ⟨zd_c (o := 2365) (p := 2) zh_2365 (zc_2 (zc_1 (zc_1 (zc_1 (zc_1 (zc_1 (zc_1 (zc_1 zb_2365)))))))), rfl⟩
theorem eL_law_2370 : dx cL_law 2370 (.istore 7) 2 2372 := ⟨zd_c (o := 2365) (p := 5) zh_2365 (zc_2 (zc_1 (zc_1 (zc_1 (zc_1 (zc_1 (zc_1 zb_2365))))))), rfl⟩
theorem eL_law_2372 : dx cL_law 2372 (.aload_n 2) 1 2373 := ⟨zd_c (o := 2365) (p := 7) zh_2365 (zc_2 (zc_1 (zc_1 (zc_1 (zc_1 (zc_1 zb_2365)))))), rfl⟩
theorem eL_law_2373 : dx cL_law 2373 (.invokevirtual 145) 3 2376 := ⟨zd_c (o := 2365) (p := 8) zh_2365 (zc_2 (zc_1 (zc_1 (zc_1 (zc_1 zb_2365))))), rfl⟩
theorem eL_law_2376 : dx cL_law 2376 (.iload 6) 2 2378 := ⟨zd_c (o := 2365) (p := 11) zh_2365 (zc_2 (zc_1 (zc_1 (zc_1 zb_2365)))), rfl⟩
theorem eL_law_2378 : dx cL_law 2378 (.if_icmp .eq 5) 3 2381 := ⟨zd_c (o := 2365) (p := 13) zh_2365 (zc_2 (zc_1 (zc_1 zb_2365))), rfl⟩
theorem eL_law_2381 : dx cL_law 2381 (.iconst 0) 1 2382 := ⟨zd_c (o := 2365) (p := 16) zh_2365 (zc_2 (zc_1 zb_2365)), rfl⟩
theorem eL_law_2382 : dx cL_law 2382 (.ireturn) 1 2383 := ⟨zd_c (o := 2365) (p := 17) zh_2365 (zc_2 zb_2365), rfl⟩
theorem zb_2383 : (zdC zp_2365 18 (.iload 6) 2 && zdC zp_2365 20 (.ifCond .ne 15) 3 && zdC zp_2365 23 (.aload_n 3) 1 && zdC zp_2365 24 (.iconst 0) 1 && zdC zp_2365 25 (.laload) 1 && zdC zp_2365 26 (.iload 7) 2 && zdC zp_2365 28 (.i2l) 1 && zdC zp_2365 29 (.lcmp) 1 && zdC zp_2365 30 (.ifCond .eq 5) 3 && zdC zp_2365 33 (.iconst 0) 1) = true := by decide +kernel
theorem eL_law_2383 : dx cL_law 2383 (.iload 6) 2 2385 := ⟨zd_c (o := 2365) (p := 18) zh_2365 (zc_1 (zc_1 (zc_1 (zc_1 (zc_1 (zc_1 (zc_1 (zc_1 (zc_1 zb_2383))))))))), rfl⟩
theorem eL_law_2385 : dx cL_law 2385 (.ifCond .ne 15) 3 2388 := ⟨zd_c (o := 2365) (p := 20) zh_2365 (zc_2 (zc_1 (zc_1 (zc_1 (zc_1 (zc_1 (zc_1 (zc_1 (zc_1 zb_2383))))))))), rfl⟩
theorem eL_law_2388 : dx cL_law 2388 (.aload_n 3) 1 2389 := ⟨zd_c (o := 2365) (p := 23) zh_2365 (zc_2 (zc_1 (zc_1 (zc_1 (zc_1 (zc_1 (zc_1 (zc_1 zb_2383)))))))), rfl⟩
theorem eL_law_2389 : dx cL_law 2389 (.iconst 0) 1 2390 := ⟨zd_c (o := 2365) (p := 24) zh_2365 (zc_2 (zc_1 (zc_1 (zc_1 (zc_1 (zc_1 (zc_1 zb_2383))))))), rfl⟩
theorem eL_law_2390 : dx cL_law 2390 (.laload) 1 2391 := ⟨zd_c (o := 2365) (p := 25) zh_2365 (zc_2 (zc_1 (zc_1 (zc_1 (zc_1 (zc_1 zb_2383)))))), rfl⟩
theorem eL_law_2391 : dx cL_law 2391 (.iload 7) 2 2393 := ⟨zd_c (o := 2365) (p := 26) zh_2365 (zc_2 (zc_1 (zc_1 (zc_1 (zc_1 zb_2383))))), rfl⟩
theorem eL_law_2393 : dx cL_law 2393 (.i2l) 1 2394 := ⟨zd_c (o := 2365) (p := 28) zh_2365 (zc_2 (zc_1 (zc_1 (zc_1 zb_2383)))), rfl⟩
theorem eL_law_2394 : dx cL_law 2394 (.lcmp) 1 2395 := ⟨zd_c (o := 2365) (p := 29) zh_2365 (zc_2 (zc_1 (zc_1 zb_2383))), rfl⟩
theorem eL_law_2395 : dx cL_law 2395 (.ifCond .eq 5) 3 2398 := ⟨zd_c (o := 2365) (p := 30) zh_2365 (zc_2 (zc_1 zb_2383)), rfl⟩
theorem eL_law_2398 : dx cL_law 2398 (.iconst 0) 1 2399 := ⟨zd_c (o := 2365) (p := 33) zh_2365 (zc_2 zb_2383), rfl⟩
theorem zb_2399 : (zdC zp_2365 34 (.ireturn) 1 && zdC zp_2365 35 (.goto 391) 3 && zdC zp_2365 38 (.aload_n 1) 1 && zdC zp_2365 39 (.aload_n 0) 1 && zdC zp_2365 40 (.iload 5) 2 && zdC zp_2365 42 (.iconst 1) 1 && zdC zp_2365 43 (.iadd) 1 && zdC zp_2365 44 (.iaload) 1 && zdC zp_2365 45 (.aload_n 0) 1 && zdC zp_2365 46 (.iload 5) 2) = true := by decide +kernel
theorem eL_law_2399 : dx cL_law 2399 (.ireturn) 1 2400 := ⟨zd_c (o := 2365) (p := 34) zh_2365 (zc_1 (zc_1 (zc_1 (zc_1 (zc_1 (zc_1 (zc_1 (zc_1 (zc_1 zb_2399))))))))), rfl⟩
theorem eL_law_2400 : dx cL_law 2400 (.goto 391) 3 2403 := ⟨zd_c (o := 2365) (p := 35) zh_2365 (zc_2 (zc_1 (zc_1 (zc_1 (zc_1 (zc_1 (zc_1 (zc_1 (zc_1 zb_2399))))))))), rfl⟩
theorem eL_law_2403 : dx cL_law 2403 (.aload_n 1) 1 2404 := ⟨zd_c (o := 2365) (p := 38) zh_2365 (zc_2 (zc_1 (zc_1 (zc_1 (zc_1 (zc_1 (zc_1 (zc_1 zb_2399)))))))), rfl⟩
theorem eL_law_2404 : dx cL_law 2404 (.aload_n 0) 1 2405 := ⟨zd_c (o := 2365) (p := 39) zh_2365 (zc_2 (zc_1 (zc_1 (zc_1 (zc_1 (zc_1 (zc_1 zb_2399))))))), rfl⟩
theorem eL_law_2405 : dx cL_law 2405 (.iload 5) 2 2407 := ⟨zd_c (o := 2365) (p := 40) zh_2365 (zc_2 (zc_1 (zc_1 (zc_1 (zc_1 (zc_1 zb_2399)))))), rfl⟩
theorem eL_law_2407 : dx cL_law 2407 (.iconst 1) 1 2408 := ⟨zd_c (o := 2365) (p := 42) zh_2365 (zc_2 (zc_1 (zc_1 (zc_1 (zc_1 zb_2399))))), rfl⟩
theorem eL_law_2408 : dx cL_law 2408 (.iadd) 1 2409 := ⟨zd_c (o := 2365) (p := 43) zh_2365 (zc_2 (zc_1 (zc_1 (zc_1 zb_2399)))), rfl⟩
theorem eL_law_2409 : dx cL_law 2409 (.iaload) 1 2410 := ⟨zd_c (o := 2365) (p := 44) zh_2365 (zc_2 (zc_1 (zc_1 zb_2399))), rfl⟩
theorem eL_law_2410 : dx cL_law 2410 (.aload_n 0) 1 2411 := ⟨zd_c (o := 2365) (p := 45) zh_2365 (zc_2 (zc_1 zb_2399)), rfl⟩
theorem eL_law_2411 : dx cL_law 2411 (.iload 5) 2 2413 := ⟨zd_c (o := 2365) (p := 46) zh_2365 (zc_2 zb_2399), rfl⟩
theorem zb_2413 : (zdC zp_2365 48 (.iconst 2) 1 && zdC zp_2365 49 (.iadd) 1 && zdC zp_2365 50 (.iaload) 1 && zdC zp_2365 51 (.aload_n 3) 1 && zdC zp_2365 52 (.invokestatic 278) 3 && zdC zp_2365 55 (.istore 6) 2 && zdC zp_2365 57 (.aload_n 2) 1 && zdC zp_2365 58 (.aload_n 0) 1 && zdC zp_2365 59 (.iload 5) 2 && zdC zp_2365 61 (.iconst 1) 1) = true := by decide +kernel
theorem eL_law_2413 : dx cL_law 2413 (.iconst 2) 1 2414 := ⟨zd_c (o := 2365) (p := 48) zh_2365 (zc_1 (zc_1 (zc_1 (zc_1 (zc_1 (zc_1 (zc_1 (zc_1 (zc_1 zb_2413))))))))), rfl⟩
theorem eL_law_2414 : dx cL_law 2414 (.iadd) 1 2415 := ⟨zd_c (o := 2365) (p := 49) zh_2365 (zc_2 (zc_1 (zc_1 (zc_1 (zc_1 (zc_1 (zc_1 (zc_1 (zc_1 zb_2413))))))))), rfl⟩
theorem eL_law_2415 : dx cL_law 2415 (.iaload) 1 2416 := ⟨zd_c (o := 2365) (p := 50) zh_2365 (zc_2 (zc_1 (zc_1 (zc_1 (zc_1 (zc_1 (zc_1 (zc_1 zb_2413)))))))), rfl⟩
theorem eL_law_2416 : dx cL_law 2416 (.aload_n 3) 1 2417 := ⟨zd_c (o := 2365) (p := 51) zh_2365 (zc_2 (zc_1 (zc_1 (zc_1 (zc_1 (zc_1 (zc_1 zb_2413))))))), rfl⟩
theorem eL_law_2417 : dx cL_law 2417 (.invokestatic 278) 3 2420 := ⟨zd_c (o := 2365) (p := 52) zh_2365 (zc_2 (zc_1 (zc_1 (zc_1 (zc_1 (zc_1 zb_2413)))))), rfl⟩
theorem eL_law_2420 : dx cL_law 2420 (.istore 6) 2 2422 := ⟨zd_c (o := 2365) (p := 55) zh_2365 (zc_2 (zc_1 (zc_1 (zc_1 (zc_1 zb_2413))))), rfl⟩
theorem eL_law_2422 : dx cL_law 2422 (.aload_n 2) 1 2423 := ⟨zd_c (o := 2365) (p := 57) zh_2365 (zc_2 (zc_1 (zc_1 (zc_1 zb_2413)))), rfl⟩
theorem eL_law_2423 : dx cL_law 2423 (.aload_n 0) 1 2424 := ⟨zd_c (o := 2365) (p := 58) zh_2365 (zc_2 (zc_1 (zc_1 zb_2413))), rfl⟩
theorem eL_law_2424 : dx cL_law 2424 (.iload 5) 2 2426 := ⟨zd_c (o := 2365) (p := 59) zh_2365 (zc_2 (zc_1 zb_2413)), rfl⟩
theorem eL_law_2426 : dx cL_law 2426 (.iconst 1) 1 2427 := ⟨zd_c (o := 2365) (p := 61) zh_2365 (zc_2 zb_2413), rfl⟩
def zp_2427 : ByteArray := ⟨#[0x60, 0x2e, 0x2a, 0x15, 0x05, 0x05, 0x60, 0x2e, 0xb6, 0x01, 0x18, 0x36, 0x07, 0x2c, 0xb6, 0x00, 0x91, 0x15, 0x06, 0x9f, 0x00, 0x05, 0x03, 0xac, 0x15, 0x06, 0x9a, 0x00, 0x0f, 0x2d, 0x03, 0x2f, 0x15, 0x07, 0x85, 0x94, 0x99, 0x00, 0x05, 0x03, 0xac, 0xa7, 0x01, 0x43, 0x2b, 0xb6, 0x01, 0x19, 0x2c, 0xb6, 0x01, 0x1c, 0x9f, 0x01, 0x38, 0x03, 0xac, 0x2b, 0x2a, 0x15, 0x05, 0x04, 0x60, 0x2e]⟩
theorem zh_2427 : SubC cL_law zp_2427 2427 := sub_of (n := 64) (by decide +kernel)
theorem zb_2427 : (zdC zp_2427 0 (.iadd) 1 && zdC zp_2427 1 (.iaload) 1 && zdC zp_2427 2 (.aload_n 0) 1 && zdC zp_2427 3 (.iload 5) 2 && zdC zp_2427 5 (.iconst 2) 1 && zdC zp_2427 6 (.iadd) 1 && zdC zp_2427 7 (.iaload) 1 && zdC zp_2427 8 (.invokevirtual 280) 3 && zdC zp_2427 11 (.istore 7) 2 && zdC zp_2427 13 (.aload_n 2) 1) = true := by decide +kernel
theorem eL_law_2427 : dx cL_law 2427 (.iadd) 1 2428 := ⟨zd_c (o := 2427) (p := 0) zh_2427 (zc_1 (zc_1 (zc_1 (zc_1 (zc_1 (zc_1 (zc_1 (zc_1 (zc_1 zb_2427))))))))), rfl⟩
theorem eL_law_2428 : dx cL_law 2428 (.iaload) 1 2429 := ⟨zd_c (o := 2427) (p := 1) zh_2427 (zc_2 (zc_1 (zc_1 (zc_1 (zc_1 (zc_1 (zc_1 (zc_1 (zc_1 zb_2427))))))))), rfl⟩
theorem eL_law_2429 : dx cL_law 2429 (.aload_n 0) 1 2430 := ⟨zd_c (o := 2427) (p := 2) zh_2427 (zc_2 (zc_1 (zc_1 (zc_1 (zc_1 (zc_1 (zc_1 (zc_1 zb_2427)))))))), rfl⟩
theorem eL_law_2430 : dx cL_law 2430 (.iload 5) 2 2432 := ⟨zd_c (o := 2427) (p := 3) zh_2427 (zc_2 (zc_1 (zc_1 (zc_1 (zc_1 (zc_1 (zc_1 zb_2427))))))), rfl⟩
theorem eL_law_2432 : dx cL_law 2432 (.iconst 2) 1 2433 := ⟨zd_c (o := 2427) (p := 5) zh_2427 (zc_2 (zc_1 (zc_1 (zc_1 (zc_1 (zc_1 zb_2427)))))), rfl⟩
theorem eL_law_2433 : dx cL_law 2433 (.iadd) 1 2434 := ⟨zd_c (o := 2427) (p := 6) zh_2427 (zc_2 (zc_1 (zc_1 (zc_1 (zc_1 zb_2427))))), rfl⟩
theorem eL_law_2434 : dx cL_law 2434 (.iaload) 1 2435 := ⟨zd_c (o := 2427) (p := 7) zh_2427 (zc_2 (zc_1 (zc_1 (zc_1 zb_2427)))), rfl⟩
theorem eL_law_2435 : dx cL_law 2435 (.invokevirtual 280) 3 2438 := ⟨zd_c (o := 2427) (p := 8) zh_2427 (zc_2 (zc_1 (zc_1 zb_2427))), rfl⟩
theorem eL_law_2438 : dx cL_law 2438 (.istore 7) 2 2440 := ⟨zd_c (o := 2427) (p := 11) zh_2427 (zc_2 (zc_1 zb_2427)), rfl⟩
theorem eL_law_2440 : dx cL_law 2440 (.aload_n 2) 1 2441 := ⟨zd_c (o := 2427) (p := 13) zh_2427 (zc_2 zb_2427), rfl⟩
theorem zb_2441 : (zdC zp_2427 14 (.invokevirtual 145) 3 && zdC zp_2427 17 (.iload 6) 2 && zdC zp_2427 19 (.if_icmp .eq 5) 3 && zdC zp_2427 22 (.iconst 0) 1 && zdC zp_2427 23 (.ireturn) 1 && zdC zp_2427 24 (.iload 6) 2 && zdC zp_2427 26 (.ifCond .ne 15) 3 && zdC zp_2427 29 (.aload_n 3) 1 && zdC zp_2427 30 (.iconst 0) 1 && zdC zp_2427 31 (.laload) 1) = true := by decide +kernel
theorem eL_law_2441 : dx cL_law 2441 (.invokevirtual 145) 3 2444 := ⟨zd_c (o := 2427) (p := 14) zh_2427 (zc_1 (zc_1 (zc_1 (zc_1 (zc_1 (zc_1 (zc_1 (zc_1 (zc_1 zb_2441))))))))), rfl⟩
theorem eL_law_2444 : dx cL_law 2444 (.iload 6) 2 2446 := ⟨zd_c (o := 2427) (p := 17) zh_2427 (zc_2 (zc_1 (zc_1 (zc_1 (zc_1 (zc_1 (zc_1 (zc_1 (zc_1 zb_2441))))))))), rfl⟩
theorem eL_law_2446 : dx cL_law 2446 (.if_icmp .eq 5) 3 2449 := ⟨zd_c (o := 2427) (p := 19) zh_2427 (zc_2 (zc_1 (zc_1 (zc_1 (zc_1 (zc_1 (zc_1 (zc_1 zb_2441)))))))), rfl⟩
theorem eL_law_2449 : dx cL_law 2449 (.iconst 0) 1 2450 := ⟨zd_c (o := 2427) (p := 22) zh_2427 (zc_2 (zc_1 (zc_1 (zc_1 (zc_1 (zc_1 (zc_1 zb_2441))))))), rfl⟩
theorem eL_law_2450 : dx cL_law 2450 (.ireturn) 1 2451 := ⟨zd_c (o := 2427) (p := 23) zh_2427 (zc_2 (zc_1 (zc_1 (zc_1 (zc_1 (zc_1 zb_2441)))))), rfl⟩
theorem eL_law_2451 : dx cL_law 2451 (.iload 6) 2 2453 := ⟨zd_c (o := 2427) (p := 24) zh_2427 (zc_2 (zc_1 (zc_1 (zc_1 (zc_1 zb_2441))))), rfl⟩
theorem eL_law_2453 : dx cL_law 2453 (.ifCond .ne 15) 3 2456 := ⟨zd_c (o := 2427) (p := 26) zh_2427 (zc_2 (zc_1 (zc_1 (zc_1 zb_2441)))), rfl⟩
theorem eL_law_2456 : dx cL_law 2456 (.aload_n 3) 1 2457 := ⟨zd_c (o := 2427) (p := 29) zh_2427 (zc_2 (zc_1 (zc_1 zb_2441))), rfl⟩
theorem eL_law_2457 : dx cL_law 2457 (.iconst 0) 1 2458 := ⟨zd_c (o := 2427) (p := 30) zh_2427 (zc_2 (zc_1 zb_2441)), rfl⟩
theorem eL_law_2458 : dx cL_law 2458 (.laload) 1 2459 := ⟨zd_c (o := 2427) (p := 31) zh_2427 (zc_2 zb_2441), rfl⟩
theorem zb_2459 : (zdC zp_2427 32 (.iload 7) 2 && zdC zp_2427 34 (.i2l) 1 && zdC zp_2427 35 (.lcmp) 1 && zdC zp_2427 36 (.ifCond .eq 5) 3 && zdC zp_2427 39 (.iconst 0) 1 && zdC zp_2427 40 (.ireturn) 1 && zdC zp_2427 41 (.goto 323) 3 && zdC zp_2427 44 (.aload_n 1) 1 && zdC zp_2427 45 (.invokevirtual 281) 3 && zdC zp_2427 48 (.aload_n 2) 1) = true := by decide +kernel
theorem eL_law_2459 : dx cL_law 2459 (.iload 7) 2 2461 := ⟨zd_c (o := 2427) (p := 32) zh_2427 (zc_1 (zc_1 (zc_1 (zc_1 (zc_1 (zc_1 (zc_1 (zc_1 (zc_1 zb_2459))))))))), rfl⟩
theorem eL_law_2461 : dx cL_law 2461 (.i2l) 1 2462 := ⟨zd_c (o := 2427) (p := 34) zh_2427 (zc_2 (zc_1 (zc_1 (zc_1 (zc_1 (zc_1 (zc_1 (zc_1 (zc_1 zb_2459))))))))), rfl⟩
theorem eL_law_2462 : dx cL_law 2462 (.lcmp) 1 2463 := ⟨zd_c (o := 2427) (p := 35) zh_2427 (zc_2 (zc_1 (zc_1 (zc_1 (zc_1 (zc_1 (zc_1 (zc_1 zb_2459)))))))), rfl⟩
theorem eL_law_2463 : dx cL_law 2463 (.ifCond .eq 5) 3 2466 := ⟨zd_c (o := 2427) (p := 36) zh_2427 (zc_2 (zc_1 (zc_1 (zc_1 (zc_1 (zc_1 (zc_1 zb_2459))))))), rfl⟩
theorem eL_law_2466 : dx cL_law 2466 (.iconst 0) 1 2467 := ⟨zd_c (o := 2427) (p := 39) zh_2427 (zc_2 (zc_1 (zc_1 (zc_1 (zc_1 (zc_1 zb_2459)))))), rfl⟩
theorem eL_law_2467 : dx cL_law 2467 (.ireturn) 1 2468 := ⟨zd_c (o := 2427) (p := 40) zh_2427 (zc_2 (zc_1 (zc_1 (zc_1 (zc_1 zb_2459))))), rfl⟩
theorem eL_law_2468 : dx cL_law 2468 (.goto 323) 3 2471 := ⟨zd_c (o := 2427) (p := 41) zh_2427 (zc_2 (zc_1 (zc_1 (zc_1 zb_2459)))), rfl⟩
theorem eL_law_2471 : dx cL_law 2471 (.aload_n 1) 1 2472 := ⟨zd_c (o := 2427) (p := 44) zh_2427 (zc_2 (zc_1 (zc_1 zb_2459))), rfl⟩
theorem eL_law_2472 : dx cL_law 2472 (.invokevirtual 281) 3 2475 := ⟨zd_c (o := 2427) (p := 45) zh_2427 (zc_2 (zc_1 zb_2459)), rfl⟩
theorem eL_law_2475 : dx cL_law 2475 (.aload_n 2) 1 2476 := ⟨zd_c (o := 2427) (p := 48) zh_2427 (zc_2 zb_2459), rfl⟩
theorem zb_2476 : (zdC zp_2427 49 (.invokevirtual 284) 3 && zdC zp_2427 52 (.if_icmp .eq 312) 3 && zdC zp_2427 55 (.iconst 0) 1 && zdC zp_2427 56 (.ireturn) 1 && zdC zp_2427 57 (.aload_n 1) 1 && zdC zp_2427 58 (.aload_n 0) 1 && zdC zp_2427 59 (.iload 5) 2 && zdC zp_2427 61 (.iconst 1) 1 && zdC zp_2427 62 (.iadd) 1 && zdC zp_2427 63 (.iaload) 1) = true := by decide +kernel
theorem eL_law_2476 : dx cL_law 2476 (.invokevirtual 284) 3 2479 := ⟨zd_c (o := 2427) (p := 49) zh_2427 (zc_1 (zc_1 (zc_1 (zc_1 (zc_1 (zc_1 (zc_1 (zc_1 (zc_1 zb_2476))))))))), rfl⟩
theorem eL_law_2479 : dx cL_law 2479 (.if_icmp .eq 312) 3 2482 := ⟨zd_c (o := 2427) (p := 52) zh_2427 (zc_2 (zc_1 (zc_1 (zc_1 (zc_1 (zc_1 (zc_1 (zc_1 (zc_1 zb_2476))))))))), rfl⟩
theorem eL_law_2482 : dx cL_law 2482 (.iconst 0) 1 2483 := ⟨zd_c (o := 2427) (p := 55) zh_2427 (zc_2 (zc_1 (zc_1 (zc_1 (zc_1 (zc_1 (zc_1 (zc_1 zb_2476)))))))), rfl⟩
theorem eL_law_2483 : dx cL_law 2483 (.ireturn) 1 2484 := ⟨zd_c (o := 2427) (p := 56) zh_2427 (zc_2 (zc_1 (zc_1 (zc_1 (zc_1 (zc_1 (zc_1 zb_2476))))))), rfl⟩
theorem eL_law_2484 : dx cL_law 2484 (.aload_n 1) 1 2485 := ⟨zd_c (o := 2427) (p := 57) zh_2427 (zc_2 (zc_1 (zc_1 (zc_1 (zc_1 (zc_1 zb_2476)))))), rfl⟩
theorem eL_law_2485 : dx cL_law 2485 (.aload_n 0) 1 2486 := ⟨zd_c (o := 2427) (p := 58) zh_2427 (zc_2 (zc_1 (zc_1 (zc_1 (zc_1 zb_2476))))), rfl⟩
theorem eL_law_2486 : dx cL_law 2486 (.iload 5) 2 2488 := ⟨zd_c (o := 2427) (p := 59) zh_2427 (zc_2 (zc_1 (zc_1 (zc_1 zb_2476)))), rfl⟩
theorem eL_law_2488 : dx cL_law 2488 (.iconst 1) 1 2489 := ⟨zd_c (o := 2427) (p := 61) zh_2427 (zc_2 (zc_1 (zc_1 zb_2476))), rfl⟩
theorem eL_law_2489 : dx cL_law 2489 (.iadd) 1 2490 := ⟨zd_c (o := 2427) (p := 62) zh_2427 (zc_2 (zc_1 zb_2476)), rfl⟩
theorem eL_law_2490 : dx cL_law 2490 (.iaload) 1 2491 := ⟨zd_c (o := 2427) (p := 63) zh_2427 (zc_2 zb_2476), rfl⟩
def zp_2491 : ByteArray := ⟨#[0x2d, 0xb8, 0x01, 0x1d, 0x36, 0x06, 0x2c, 0x2a, 0x15, 0x05, 0x04, 0x60, 0x2e, 0xb6, 0x01, 0x1f, 0x36, 0x07, 0x2c, 0xb6, 0x00, 0x91, 0x15, 0x06, 0x9f, 0x00, 0x05, 0x03, 0xac, 0x15, 0x06, 0x9a, 0x00, 0x0f, 0x2d, 0x03, 0x2f, 0x15, 0x07, 0x85, 0x94, 0x99, 0x00, 0x05, 0x03, 0xac, 0xa7, 0x00, 0xfe, 0x2b, 0x2a, 0x15, 0x05, 0x04, 0x60, 0x2e, 0x2d, 0xb8, 0x01, 0x20, 0x36, 0x06, 0x2c, 0x2a]⟩
theorem zh_2491 : SubC cL_law zp_2491 2491 := sub_of (n := 64) (by decide +kernel)
theorem zb_2491 : (zdC zp_2491 0 (.aload_n 3) 1 && zdC zp_2491 1 (.invokestatic 285) 3 && zdC zp_2491 4 (.istore 6) 2 && zdC zp_2491 6 (.aload_n 2) 1 && zdC zp_2491 7 (.aload_n 0) 1 && zdC zp_2491 8 (.iload 5) 2 && zdC zp_2491 10 (.iconst 1) 1 && zdC zp_2491 11 (.iadd) 1 && zdC zp_2491 12 (.iaload) 1 && zdC zp_2491 13 (.invokevirtual 287) 3) = true := by decide +kernel
theorem eL_law_2491 : dx cL_law 2491 (.aload_n 3) 1 2492 := ⟨zd_c (o := 2491) (p := 0) zh_2491 (zc_1 (zc_1 (zc_1 (zc_1 (zc_1 (zc_1 (zc_1 (zc_1 (zc_1 zb_2491))))))))), rfl⟩
theorem eL_law_2492 : dx cL_law 2492 (.invokestatic 285) 3 2495 := ⟨zd_c (o := 2491) (p := 1) zh_2491 (zc_2 (zc_1 (zc_1 (zc_1 (zc_1 (zc_1 (zc_1 (zc_1 (zc_1 zb_2491))))))))), rfl⟩
theorem eL_law_2495 : dx cL_law 2495 (.istore 6) 2 2497 := ⟨zd_c (o := 2491) (p := 4) zh_2491 (zc_2 (zc_1 (zc_1 (zc_1 (zc_1 (zc_1 (zc_1 (zc_1 zb_2491)))))))), rfl⟩
theorem eL_law_2497 : dx cL_law 2497 (.aload_n 2) 1 2498 := ⟨zd_c (o := 2491) (p := 6) zh_2491 (zc_2 (zc_1 (zc_1 (zc_1 (zc_1 (zc_1 (zc_1 zb_2491))))))), rfl⟩
theorem eL_law_2498 : dx cL_law 2498 (.aload_n 0) 1 2499 := ⟨zd_c (o := 2491) (p := 7) zh_2491 (zc_2 (zc_1 (zc_1 (zc_1 (zc_1 (zc_1 zb_2491)))))), rfl⟩
theorem eL_law_2499 : dx cL_law 2499 (.iload 5) 2 2501 := ⟨zd_c (o := 2491) (p := 8) zh_2491 (zc_2 (zc_1 (zc_1 (zc_1 (zc_1 zb_2491))))), rfl⟩
theorem eL_law_2501 : dx cL_law 2501 (.iconst 1) 1 2502 := ⟨zd_c (o := 2491) (p := 10) zh_2491 (zc_2 (zc_1 (zc_1 (zc_1 zb_2491)))), rfl⟩
theorem eL_law_2502 : dx cL_law 2502 (.iadd) 1 2503 := ⟨zd_c (o := 2491) (p := 11) zh_2491 (zc_2 (zc_1 (zc_1 zb_2491))), rfl⟩
theorem eL_law_2503 : dx cL_law 2503 (.iaload) 1 2504 := ⟨zd_c (o := 2491) (p := 12) zh_2491 (zc_2 (zc_1 zb_2491)), rfl⟩
theorem eL_law_2504 : dx cL_law 2504 (.invokevirtual 287) 3 2507 := ⟨zd_c (o := 2491) (p := 13) zh_2491 (zc_2 zb_2491), rfl⟩
theorem zb_2507 : (zdC zp_2491 16 (.istore 7) 2 && zdC zp_2491 18 (.aload_n 2) 1 && zdC zp_2491 19 (.invokevirtual 145) 3 && zdC zp_2491 22 (.iload 6) 2 && zdC zp_2491 24 (.if_icmp .eq 5) 3 && zdC zp_2491 27 (.iconst 0) 1 && zdC zp_2491 28 (.ireturn) 1 && zdC zp_2491 29 (.iload 6) 2 && zdC zp_2491 31 (.ifCond .ne 15) 3 && zdC zp_2491 34 (.aload_n 3) 1) = true := by decide +kernel
theorem eL_law_2507 : dx cL_law 2507 (.istore 7) 2 2509 := ⟨zd_c (o := 2491) (p := 16) zh_2491 (zc_1 (zc_1 (zc_1 (zc_1 (zc_1 (zc_1 (zc_1 (zc_1 (zc_1 zb_2507))))))))), rfl⟩
theorem eL_law_2509 : dx cL_law 2509 (.aload_n 2) 1 2510 := ⟨zd_c (o := 2491) (p := 18) zh_2491 (zc_2 (zc_1 (zc_1 (zc_1 (zc_1 (zc_1 (zc_1 (zc_1 (zc_1 zb_2507))))))))), rfl⟩
theorem eL_law_2510 : dx cL_law 2510 (.invokevirtual 145) 3 2513 := ⟨zd_c (o := 2491) (p := 19) zh_2491 (zc_2 (zc_1 (zc_1 (zc_1 (zc_1 (zc_1 (zc_1 (zc_1 zb_2507)))))))), rfl⟩
theorem eL_law_2513 : dx cL_law 2513 (.iload 6) 2 2515 := ⟨zd_c (o := 2491) (p := 22) zh_2491 (zc_2 (zc_1 (zc_1 (zc_1 (zc_1 (zc_1 (zc_1 zb_2507))))))), rfl⟩
theorem eL_law_2515 : dx cL_law 2515 (.if_icmp .eq 5) 3 2518 := ⟨zd_c (o := 2491) (p := 24) zh_2491 (zc_2 (zc_1 (zc_1 (zc_1 (zc_1 (zc_1 zb_2507)))))), rfl⟩
theorem eL_law_2518 : dx cL_law 2518 (.iconst 0) 1 2519 := ⟨zd_c (o := 2491) (p := 27) zh_2491 (zc_2 (zc_1 (zc_1 (zc_1 (zc_1 zb_2507))))), rfl⟩
theorem eL_law_2519 : dx cL_law 2519 (.ireturn) 1 2520 := ⟨zd_c (o := 2491) (p := 28) zh_2491 (zc_2 (zc_1 (zc_1 (zc_1 zb_2507)))), rfl⟩
theorem eL_law_2520 : dx cL_law 2520 (.iload 6) 2 2522 := ⟨zd_c (o := 2491) (p := 29) zh_2491 (zc_2 (zc_1 (zc_1 zb_2507))), rfl⟩
theorem eL_law_2522 : dx cL_law 2522 (.ifCond .ne 15) 3 2525 := ⟨zd_c (o := 2491) (p := 31) zh_2491 (zc_2 (zc_1 zb_2507)), rfl⟩
theorem eL_law_2525 : dx cL_law 2525 (.aload_n 3) 1 2526 := ⟨zd_c (o := 2491) (p := 34) zh_2491 (zc_2 zb_2507), rfl⟩
theorem zb_2526 : (zdC zp_2491 35 (.iconst 0) 1 && zdC zp_2491 36 (.laload) 1 && zdC zp_2491 37 (.iload 7) 2 && zdC zp_2491 39 (.i2l) 1 && zdC zp_2491 40 (.lcmp) 1 && zdC zp_2491 41 (.ifCond .eq 5) 3 && zdC zp_2491 44 (.iconst 0) 1 && zdC zp_2491 45 (.ireturn) 1 && zdC zp_2491 46 (.goto 254) 3 && zdC zp_2491 49 (.aload_n 1) 1) = true := by decide +kernel
theorem eL_law_2526 : dx cL_law 2526 (.iconst 0) 1 2527 := ⟨zd_c (o := 2491) (p := 35) zh_2491 (zc_1 (zc_1 (zc_1 (zc_1 (zc_1 (zc_1 (zc_1 (zc_1 (zc_1 zb_2526))))))))), rfl⟩
theorem eL_law_2527 : dx cL_law 2527 (.laload) 1 2528 := ⟨zd_c (o := 2491) (p := 36) zh_2491 (zc_2 (zc_1 (zc_1 (zc_1 (zc_1 (zc_1 (zc_1 (zc_1 (zc_1 zb_2526))))))))), rfl⟩
theorem eL_law_2528 : dx cL_law 2528 (.iload 7) 2 2530 := ⟨zd_c (o := 2491) (p := 37) zh_2491 (zc_2 (zc_1 (zc_1 (zc_1 (zc_1 (zc_1 (zc_1 (zc_1 zb_2526)))))))), rfl⟩
theorem eL_law_2530 : dx cL_law 2530 (.i2l) 1 2531 := ⟨zd_c (o := 2491) (p := 39) zh_2491 (zc_2 (zc_1 (zc_1 (zc_1 (zc_1 (zc_1 (zc_1 zb_2526))))))), rfl⟩
theorem eL_law_2531 : dx cL_law 2531 (.lcmp) 1 2532 := ⟨zd_c (o := 2491) (p := 40) zh_2491 (zc_2 (zc_1 (zc_1 (zc_1 (zc_1 (zc_1 zb_2526)))))), rfl⟩
theorem eL_law_2532 : dx cL_law 2532 (.ifCond .eq 5) 3 2535 := ⟨zd_c (o := 2491) (p := 41) zh_2491 (zc_2 (zc_1 (zc_1 (zc_1 (zc_1 zb_2526))))), rfl⟩
theorem eL_law_2535 : dx cL_law 2535 (.iconst 0) 1 2536 := ⟨zd_c (o := 2491) (p := 44) zh_2491 (zc_2 (zc_1 (zc_1 (zc_1 zb_2526)))), rfl⟩
theorem eL_law_2536 : dx cL_law 2536 (.ireturn) 1 2537 := ⟨zd_c (o := 2491) (p := 45) zh_2491 (zc_2 (zc_1 (zc_1 zb_2526))), rfl⟩
theorem eL_law_2537 : dx cL_law 2537 (.goto 254) 3 2540 := ⟨zd_c (o := 2491) (p := 46) zh_2491 (zc_2 (zc_1 zb_2526)), rfl⟩
theorem eL_law_2540 : dx cL_law 2540 (.aload_n 1) 1 2541 := ⟨zd_c (o := 2491) (p := 49) zh_2491 (zc_2 zb_2526), rfl⟩
theorem zb_2541 : (zdC zp_2491 50 (.aload_n 0) 1 && zdC zp_2491 51 (.iload 5) 2 && zdC zp_2491 53 (.iconst 1) 1 && zdC zp_2491 54 (.iadd) 1 && zdC zp_2491 55 (.iaload) 1 && zdC zp_2491 56 (.aload_n 3) 1 && zdC zp_2491 57 (.invokestatic 288) 3 && zdC zp_2491 60 (.istore 6) 2 && zdC zp_2491 62 (.aload_n 2) 1 && zdC zp_2491 63 (.aload_n 0) 1) = true := by decide +kernel
theorem eL_law_2541 : dx cL_law 2541 (.aload_n 0) 1 2542 := ⟨zd_c (o := 2491) (p := 50) zh_2491 (zc_1 (zc_1 (zc_1 (zc_1 (zc_1 (zc_1 (zc_1 (zc_1 (zc_1 zb_2541))))))))), rfl⟩
theorem eL_law_2542 : dx cL_law 2542 (.iload 5) 2 2544 := ⟨zd_c (o := 2491) (p := 51) zh_2491 (zc_2 (zc_1 (zc_1 (zc_1 (zc_1 (zc_1 (zc_1 (zc_1 (zc_1 zb_2541))))))))), rfl⟩
theorem eL_law_2544 : dx cL_law 2544 (.iconst 1) 1 2545 := ⟨zd_c (o := 2491) (p := 53) zh_2491 (zc_2 (zc_1 (zc_1 (zc_1 (zc_1 (zc_1 (zc_1 (zc_1 zb_2541)))))))), rfl⟩
theorem eL_law_2545 : dx cL_law 2545 (.iadd) 1 2546 := ⟨zd_c (o := 2491) (p := 54) zh_2491 (zc_2 (zc_1 (zc_1 (zc_1 (zc_1 (zc_1 (zc_1 zb_2541))))))), rfl⟩
theorem eL_law_2546 : dx cL_law 2546 (.iaload) 1 2547 := ⟨zd_c (o := 2491) (p := 55) zh_2491 (zc_2 (zc_1 (zc_1 (zc_1 (zc_1 (zc_1 zb_2541)))))), rfl⟩
theorem eL_law_2547 : dx cL_law 2547 (.aload_n 3) 1 2548 := ⟨zd_c (o := 2491) (p := 56) zh_2491 (zc_2 (zc_1 (zc_1 (zc_1 (zc_1 zb_2541))))), rfl⟩
theorem eL_law_2548 : dx cL_law 2548 (.invokestatic 288) 3 2551 := ⟨zd_c (o := 2491) (p := 57) zh_2491 (zc_2 (zc_1 (zc_1 (zc_1 zb_2541)))), rfl⟩
theorem eL_law_2551 : dx cL_law 2551 (.istore 6) 2 2553 := ⟨zd_c (o := 2491) (p := 60) zh_2491 (zc_2 (zc_1 (zc_1 zb_2541))), rfl⟩
theorem eL_law_2553 : dx cL_law 2553 (.aload_n 2) 1 2554 := ⟨zd_c (o := 2491) (p := 62) zh_2491 (zc_2 (zc_1 zb_2541)), rfl⟩
theorem eL_law_2554 : dx cL_law 2554 (.aload_n 0) 1 2555 := ⟨zd_c (o := 2491) (p := 63) zh_2491 (zc_2 zb_2541), rfl⟩
def zp_2555 : ByteArray := ⟨#[0x15, 0x05, 0x04, 0x60, 0x2e, 0xb6, 0x01, 0x22, 0x36, 0x07, 0x2c, 0xb6, 0x00, 0x91, 0x15, 0x06, 0x9f, 0x00, 0x05, 0x03, 0xac, 0x15, 0x06, 0x9a, 0x00, 0x0f, 0x2d, 0x03, 0x2f, 0x15, 0x07, 0x85, 0x94, 0x99, 0x00, 0x05, 0x03, 0xac, 0xa7, 0x00, 0xc6, 0x2b, 0x2d, 0xb8, 0x01, 0x23, 0x36, 0x06, 0x2c, 0xb6, 0x01, 0x26, 0x36, 0x07, 0x2c, 0xb6, 0x00, 0x91, 0x15, 0x06, 0x9f, 0x00, 0x05, 0x03, 0xac, 0x15, 0x06, 0x9a, 0x00, 0x0f, 0x2d]⟩
theorem zh_2555 : SubC cL_law zp_2555 2555 := sub_of (n := 71) (by decide +kernel)
theorem zb_2555 : (zdC zp_2555 0 (.iload 5) 2 && zdC zp_2555 2 (.iconst 1) 1 && zdC zp_2555 3 (.iadd) 1 && zdC zp_2555 4 (.iaload) 1 && zdC zp_2555 5 (.invokevirtual 290) 3 && zdC zp_2555 8 (.istore 7) 2 && zdC zp_2555 10 (.aload_n 2) 1 && zdC zp_2555 11 (.invokevirtual 145) 3 && zdC zp_2555 14 (.iload 6) 2 && zdC zp_2555 16 (.if_icmp .eq 5) 3) = true := by decide +kernel
theorem eL_law_2555 : dx cL_law 2555 (.iload 5) 2 2557 := ⟨zd_c (o := 2555) (p := 0) zh_2555 (zc_1 (zc_1 (zc_1 (zc_1 (zc_1 (zc_1 (zc_1 (zc_1 (zc_1 zb_2555))))))))), rfl⟩
theorem eL_law_2557 : dx cL_law 2557 (.iconst 1) 1 2558 := ⟨zd_c (o := 2555) (p := 2) zh_2555 (zc_2 (zc_1 (zc_1 (zc_1 (zc_1 (zc_1 (zc_1 (zc_1 (zc_1 zb_2555))))))))), rfl⟩
theorem eL_law_2558 : dx cL_law 2558 (.iadd) 1 2559 := ⟨zd_c (o := 2555) (p := 3) zh_2555 (zc_2 (zc_1 (zc_1 (zc_1 (zc_1 (zc_1 (zc_1 (zc_1 zb_2555)))))))), rfl⟩
theorem eL_law_2559 : dx cL_law 2559 (.iaload) 1 2560 := ⟨zd_c (o := 2555) (p := 4) zh_2555 (zc_2 (zc_1 (zc_1 (zc_1 (zc_1 (zc_1 (zc_1 zb_2555))))))), rfl⟩
theorem eL_law_2560 : dx cL_law 2560 (.invokevirtual 290) 3 2563 := ⟨zd_c (o := 2555) (p := 5) zh_2555 (zc_2 (zc_1 (zc_1 (zc_1 (zc_1 (zc_1 zb_2555)))))), rfl⟩
theorem eL_law_2563 : dx cL_law 2563 (.istore 7) 2 2565 := ⟨zd_c (o := 2555) (p := 8) zh_2555 (zc_2 (zc_1 (zc_1 (zc_1 (zc_1 zb_2555))))), rfl⟩
theorem eL_law_2565 : dx cL_law 2565 (.aload_n 2) 1 2566 := ⟨zd_c (o := 2555) (p := 10) zh_2555 (zc_2 (zc_1 (zc_1 (zc_1 zb_2555)))), rfl⟩
theorem eL_law_2566 : dx cL_law 2566 (.invokevirtual 145) 3 2569 := ⟨zd_c (o := 2555) (p := 11) zh_2555 (zc_2 (zc_1 (zc_1 zb_2555))), rfl⟩
theorem eL_law_2569 : dx cL_law 2569 (.iload 6) 2 2571 := ⟨zd_c (o := 2555) (p := 14) zh_2555 (zc_2 (zc_1 zb_2555)), rfl⟩
theorem eL_law_2571 : dx cL_law 2571 (.if_icmp .eq 5) 3 2574 := ⟨zd_c (o := 2555) (p := 16) zh_2555 (zc_2 zb_2555), rfl⟩
theorem zb_2574 : (zdC zp_2555 19 (.iconst 0) 1 && zdC zp_2555 20 (.ireturn) 1 && zdC zp_2555 21 (.iload 6) 2 && zdC zp_2555 23 (.ifCond .ne 15) 3 && zdC zp_2555 26 (.aload_n 3) 1 && zdC zp_2555 27 (.iconst 0) 1 && zdC zp_2555 28 (.laload) 1 && zdC zp_2555 29 (.iload 7) 2 && zdC zp_2555 31 (.i2l) 1 && zdC zp_2555 32 (.lcmp) 1) = true := by decide +kernel
theorem eL_law_2574 : dx cL_law 2574 (.iconst 0) 1 2575 := ⟨zd_c (o := 2555) (p := 19) zh_2555 (zc_1 (zc_1 (zc_1 (zc_1 (zc_1 (zc_1 (zc_1 (zc_1 (zc_1 zb_2574))))))))), rfl⟩
theorem eL_law_2575 : dx cL_law 2575 (.ireturn) 1 2576 := ⟨zd_c (o := 2555) (p := 20) zh_2555 (zc_2 (zc_1 (zc_1 (zc_1 (zc_1 (zc_1 (zc_1 (zc_1 (zc_1 zb_2574))))))))), rfl⟩
theorem eL_law_2576 : dx cL_law 2576 (.iload 6) 2 2578 := ⟨zd_c (o := 2555) (p := 21) zh_2555 (zc_2 (zc_1 (zc_1 (zc_1 (zc_1 (zc_1 (zc_1 (zc_1 zb_2574)))))))), rfl⟩
theorem eL_law_2578 : dx cL_law 2578 (.ifCond .ne 15) 3 2581 := ⟨zd_c (o := 2555) (p := 23) zh_2555 (zc_2 (zc_1 (zc_1 (zc_1 (zc_1 (zc_1 (zc_1 zb_2574))))))), rfl⟩
theorem eL_law_2581 : dx cL_law 2581 (.aload_n 3) 1 2582 := ⟨zd_c (o := 2555) (p := 26) zh_2555 (zc_2 (zc_1 (zc_1 (zc_1 (zc_1 (zc_1 zb_2574)))))), rfl⟩
theorem eL_law_2582 : dx cL_law 2582 (.iconst 0) 1 2583 := ⟨zd_c (o := 2555) (p := 27) zh_2555 (zc_2 (zc_1 (zc_1 (zc_1 (zc_1 zb_2574))))), rfl⟩
theorem eL_law_2583 : dx cL_law 2583 (.laload) 1 2584 := ⟨zd_c (o := 2555) (p := 28) zh_2555 (zc_2 (zc_1 (zc_1 (zc_1 zb_2574)))), rfl⟩
theorem eL_law_2584 : dx cL_law 2584 (.iload 7) 2 2586 := ⟨zd_c (o := 2555) (p := 29) zh_2555 (zc_2 (zc_1 (zc_1 zb_2574))), rfl⟩
theorem eL_law_2586 : dx cL_law 2586 (.i2l) 1 2587 := ⟨zd_c (o := 2555) (p := 31) zh_2555 (zc_2 (zc_1 zb_2574)), rfl⟩
theorem eL_law_2587 : dx cL_law 2587 (.lcmp) 1 2588 := ⟨zd_c (o := 2555) (p := 32) zh_2555 (zc_2 zb_2574), rfl⟩
theorem zb_2588 : (zdC zp_2555 33 (.ifCond .eq 5) 3 && zdC zp_2555 36 (.iconst 0) 1 && zdC zp_2555 37 (.ireturn) 1 && zdC zp_2555 38 (.goto 198) 3 && zdC zp_2555 41 (.aload_n 1) 1 && zdC zp_2555 42 (.aload_n 3) 1 && zdC zp_2555 43 (.invokestatic 291) 3 && zdC zp_2555 46 (.istore 6) 2 && zdC zp_2555 48 (.aload_n 2) 1 && zdC zp_2555 49 (.invokevirtual 294) 3) = true := by decide +kernel
theorem eL_law_2588 : dx cL_law 2588 (.ifCond .eq 5) 3 2591 := ⟨zd_c (o := 2555) (p := 33) zh_2555 (zc_1 (zc_1 (zc_1 (zc_1 (zc_1 (zc_1 (zc_1 (zc_1 (zc_1 zb_2588))))))))), rfl⟩
theorem eL_law_2591 : dx cL_law 2591 (.iconst 0) 1 2592 := ⟨zd_c (o := 2555) (p := 36) zh_2555 (zc_2 (zc_1 (zc_1 (zc_1 (zc_1 (zc_1 (zc_1 (zc_1 (zc_1 zb_2588))))))))), rfl⟩
theorem eL_law_2592 : dx cL_law 2592 (.ireturn) 1 2593 := ⟨zd_c (o := 2555) (p := 37) zh_2555 (zc_2 (zc_1 (zc_1 (zc_1 (zc_1 (zc_1 (zc_1 (zc_1 zb_2588)))))))), rfl⟩
theorem eL_law_2593 : dx cL_law 2593 (.goto 198) 3 2596 := ⟨zd_c (o := 2555) (p := 38) zh_2555 (zc_2 (zc_1 (zc_1 (zc_1 (zc_1 (zc_1 (zc_1 zb_2588))))))), rfl⟩
theorem eL_law_2596 : dx cL_law 2596 (.aload_n 1) 1 2597 := ⟨zd_c (o := 2555) (p := 41) zh_2555 (zc_2 (zc_1 (zc_1 (zc_1 (zc_1 (zc_1 zb_2588)))))), rfl⟩
theorem eL_law_2597 : dx cL_law 2597 (.aload_n 3) 1 2598 := ⟨zd_c (o := 2555) (p := 42) zh_2555 (zc_2 (zc_1 (zc_1 (zc_1 (zc_1 zb_2588))))), rfl⟩
theorem eL_law_2598 : dx cL_law 2598 (.invokestatic 291) 3 2601 := ⟨zd_c (o := 2555) (p := 43) zh_2555 (zc_2 (zc_1 (zc_1 (zc_1 zb_2588)))), rfl⟩
theorem eL_law_2601 : dx cL_law 2601 (.istore 6) 2 2603 := ⟨zd_c (o := 2555) (p := 46) zh_2555 (zc_2 (zc_1 (zc_1 zb_2588))), rfl⟩
theorem eL_law_2603 : dx cL_law 2603 (.aload_n 2) 1 2604 := ⟨zd_c (o := 2555) (p := 48) zh_2555 (zc_2 (zc_1 zb_2588)), rfl⟩
theorem eL_law_2604 : dx cL_law 2604 (.invokevirtual 294) 3 2607 := ⟨zd_c (o := 2555) (p := 49) zh_2555 (zc_2 zb_2588), rfl⟩
theorem zb_2607 : (zdC zp_2555 52 (.istore 7) 2 && zdC zp_2555 54 (.aload_n 2) 1 && zdC zp_2555 55 (.invokevirtual 145) 3 && zdC zp_2555 58 (.iload 6) 2 && zdC zp_2555 60 (.if_icmp .eq 5) 3 && zdC zp_2555 63 (.iconst 0) 1 && zdC zp_2555 64 (.ireturn) 1 && zdC zp_2555 65 (.iload 6) 2 && zdC zp_2555 67 (.ifCond .ne 15) 3 && zdC zp_2555 70 (.aload_n 3) 1) = true := by decide +kernel
theorem eL_law_2607 : dx cL_law 2607 (.istore 7) 2 2609 := ⟨zd_c (o := 2555) (p := 52) zh_2555 (zc_1 (zc_1 (zc_1 (zc_1 (zc_1 (zc_1 (zc_1 (zc_1 (zc_1 zb_2607))))))))), rfl⟩
theorem eL_law_2609 : dx cL_law 2609 (.aload_n 2) 1 2610 := ⟨zd_c (o := 2555) (p := 54) zh_2555 (zc_2 (zc_1 (zc_1 (zc_1 (zc_1 (zc_1 (zc_1 (zc_1 (zc_1 zb_2607))))))))), rfl⟩
theorem eL_law_2610 : dx cL_law 2610 (.invokevirtual 145) 3 2613 := ⟨zd_c (o := 2555) (p := 55) zh_2555 (zc_2 (zc_1 (zc_1 (zc_1 (zc_1 (zc_1 (zc_1 (zc_1 zb_2607)))))))), rfl⟩
theorem eL_law_2613 : dx cL_law 2613 (.iload 6) 2 2615 := ⟨zd_c (o := 2555) (p := 58) zh_2555 (zc_2 (zc_1 (zc_1 (zc_1 (zc_1 (zc_1 (zc_1 zb_2607))))))), rfl⟩
theorem eL_law_2615 : dx cL_law 2615 (.if_icmp .eq 5) 3 2618 := ⟨zd_c (o := 2555) (p := 60) zh_2555 (zc_2 (zc_1 (zc_1 (zc_1 (zc_1 (zc_1 zb_2607)))))), rfl⟩
theorem eL_law_2618 : dx cL_law 2618 (.iconst 0) 1 2619 := ⟨zd_c (o := 2555) (p := 63) zh_2555 (zc_2 (zc_1 (zc_1 (zc_1 (zc_1 zb_2607))))), rfl⟩
theorem eL_law_2619 : dx cL_law 2619 (.ireturn) 1 2620 := ⟨zd_c (o := 2555) (p := 64) zh_2555 (zc_2 (zc_1 (zc_1 (zc_1 zb_2607)))), rfl⟩
theorem eL_law_2620 : dx cL_law 2620 (.iload 6) 2 2622 := ⟨zd_c (o := 2555) (p := 65) zh_2555 (zc_2 (zc_1 (zc_1 zb_2607))), rfl⟩
theorem eL_law_2622 : dx cL_law 2622 (.ifCond .ne 15) 3 2625 := ⟨zd_c (o := 2555) (p := 67) zh_2555 (zc_2 (zc_1 zb_2607)), rfl⟩
theorem eL_law_2625 : dx cL_law 2625 (.aload_n 3) 1 2626 := ⟨zd_c (o := 2555) (p := 70) zh_2555 (zc_2 zb_2607), rfl⟩
def zp_2626 : ByteArray := ⟨#[0x03, 0x2f, 0x15, 0x07, 0x85, 0x94, 0x99, 0x00, 0x05, 0x03, 0xac, 0xa7, 0x00, 0x9a, 0x2b, 0xb6, 0x01, 0x27, 0x2c, 0xb6, 0x01, 0x2a, 0x9f, 0x00, 0x8f, 0x03, 0xac, 0x2b, 0xb6, 0x01, 0x2b, 0x2c, 0xb6, 0x01, 0x2e, 0x9f, 0x00, 0x82, 0x03, 0xac, 0x2b, 0xb6, 0x01, 0x2f, 0x2c, 0xb6, 0x01, 0x32, 0x9f, 0x00, 0x75, 0x03, 0xac, 0x2b, 0x2a, 0x15, 0x05, 0x04, 0x60, 0x2e, 0x2d, 0xb8, 0x01, 0x33, 0x36, 0x06, 0x2c]⟩
theorem zh_2626 : SubC cL_law zp_2626 2626 := sub_of (n := 67) (by decide +kernel)
theorem zb_2626 : (zdC zp_2626 0 (.iconst 0) 1 && zdC zp_2626 1 (.laload) 1 && zdC zp_2626 2 (.iload 7) 2 && zdC zp_2626 4 (.i2l) 1 && zdC zp_2626 5 (.lcmp) 1 && zdC zp_2626 6 (.ifCond .eq 5) 3 && zdC zp_2626 9 (.iconst 0) 1 && zdC zp_2626 10 (.ireturn) 1 && zdC zp_2626 11 (.goto 154) 3 && zdC zp_2626 14 (.aload_n 1) 1) = true := by decide +kernel
theorem eL_law_2626 : dx cL_law 2626 (.iconst 0) 1 2627 := ⟨zd_c (o := 2626) (p := 0) zh_2626 (zc_1 (zc_1 (zc_1 (zc_1 (zc_1 (zc_1 (zc_1 (zc_1 (zc_1 zb_2626))))))))), rfl⟩
theorem eL_law_2627 : dx cL_law 2627 (.laload) 1 2628 := ⟨zd_c (o := 2626) (p := 1) zh_2626 (zc_2 (zc_1 (zc_1 (zc_1 (zc_1 (zc_1 (zc_1 (zc_1 (zc_1 zb_2626))))))))), rfl⟩
theorem eL_law_2628 : dx cL_law 2628 (.iload 7) 2 2630 := ⟨zd_c (o := 2626) (p := 2) zh_2626 (zc_2 (zc_1 (zc_1 (zc_1 (zc_1 (zc_1 (zc_1 (zc_1 zb_2626)))))))), rfl⟩
theorem eL_law_2630 : dx cL_law 2630 (.i2l) 1 2631 := ⟨zd_c (o := 2626) (p := 4) zh_2626 (zc_2 (zc_1 (zc_1 (zc_1 (zc_1 (zc_1 (zc_1 zb_2626))))))), rfl⟩
theorem eL_law_2631 : dx cL_law 2631 (.lcmp) 1 2632 := ⟨zd_c (o := 2626) (p := 5) zh_2626 (zc_2 (zc_1 (zc_1 (zc_1 (zc_1 (zc_1 zb_2626)))))), rfl⟩
theorem eL_law_2632 : dx cL_law 2632 (.ifCond .eq 5) 3 2635 := ⟨zd_c (o := 2626) (p := 6) zh_2626 (zc_2 (zc_1 (zc_1 (zc_1 (zc_1 zb_2626))))), rfl⟩
theorem eL_law_2635 : dx cL_law 2635 (.iconst 0) 1 2636 := ⟨zd_c (o := 2626) (p := 9) zh_2626 (zc_2 (zc_1 (zc_1 (zc_1 zb_2626)))), rfl⟩
theorem eL_law_2636 : dx cL_law 2636 (.ireturn) 1 2637 := ⟨zd_c (o := 2626) (p := 10) zh_2626 (zc_2 (zc_1 (zc_1 zb_2626))), rfl⟩
theorem eL_law_2637 : dx cL_law 2637 (.goto 154) 3 2640 := ⟨zd_c (o := 2626) (p := 11) zh_2626 (zc_2 (zc_1 zb_2626)), rfl⟩
theorem eL_law_2640 : dx cL_law 2640 (.aload_n 1) 1 2641 := ⟨zd_c (o := 2626) (p := 14) zh_2626 (zc_2 zb_2626), rfl⟩
theorem zb_2641 : (zdC zp_2626 15 (.invokevirtual 295) 3 && zdC zp_2626 18 (.aload_n 2) 1 && zdC zp_2626 19 (.invokevirtual 298) 3 && zdC zp_2626 22 (.if_icmp .eq 143) 3 && zdC zp_2626 25 (.iconst 0) 1 && zdC zp_2626 26 (.ireturn) 1 && zdC zp_2626 27 (.aload_n 1) 1 && zdC zp_2626 28 (.invokevirtual 299) 3 && zdC zp_2626 31 (.aload_n 2) 1 && zdC zp_2626 32 (.invokevirtual 302) 3) = true := by decide +kernel
theorem eL_law_2641 : dx cL_law 2641 (.invokevirtual 295) 3 2644 := ⟨zd_c (o := 2626) (p := 15) zh_2626 (zc_1 (zc_1 (zc_1 (zc_1 (zc_1 (zc_1 (zc_1 (zc_1 (zc_1 zb_2641))))))))), rfl⟩
theorem eL_law_2644 : dx cL_law 2644 (.aload_n 2) 1 2645 := ⟨zd_c (o := 2626) (p := 18) zh_2626 (zc_2 (zc_1 (zc_1 (zc_1 (zc_1 (zc_1 (zc_1 (zc_1 (zc_1 zb_2641))))))))), rfl⟩
theorem eL_law_2645 : dx cL_law 2645 (.invokevirtual 298) 3 2648 := ⟨zd_c (o := 2626) (p := 19) zh_2626 (zc_2 (zc_1 (zc_1 (zc_1 (zc_1 (zc_1 (zc_1 (zc_1 zb_2641)))))))), rfl⟩
theorem eL_law_2648 : dx cL_law 2648 (.if_icmp .eq 143) 3 2651 := ⟨zd_c (o := 2626) (p := 22) zh_2626 (zc_2 (zc_1 (zc_1 (zc_1 (zc_1 (zc_1 (zc_1 zb_2641))))))), rfl⟩
theorem eL_law_2651 : dx cL_law 2651 (.iconst 0) 1 2652 := ⟨zd_c (o := 2626) (p := 25) zh_2626 (zc_2 (zc_1 (zc_1 (zc_1 (zc_1 (zc_1 zb_2641)))))), rfl⟩
theorem eL_law_2652 : dx cL_law 2652 (.ireturn) 1 2653 := ⟨zd_c (o := 2626) (p := 26) zh_2626 (zc_2 (zc_1 (zc_1 (zc_1 (zc_1 zb_2641))))), rfl⟩
theorem eL_law_2653 : dx cL_law 2653 (.aload_n 1) 1 2654 := ⟨zd_c (o := 2626) (p := 27) zh_2626 (zc_2 (zc_1 (zc_1 (zc_1 zb_2641)))), rfl⟩
theorem eL_law_2654 : dx cL_law 2654 (.invokevirtual 299) 3 2657 := ⟨zd_c (o := 2626) (p := 28) zh_2626 (zc_2 (zc_1 (zc_1 zb_2641))), rfl⟩
theorem eL_law_2657 : dx cL_law 2657 (.aload_n 2) 1 2658 := ⟨zd_c (o := 2626) (p := 31) zh_2626 (zc_2 (zc_1 zb_2641)), rfl⟩
theorem eL_law_2658 : dx cL_law 2658 (.invokevirtual 302) 3 2661 := ⟨zd_c (o := 2626) (p := 32) zh_2626 (zc_2 zb_2641), rfl⟩
theorem zb_2661 : (zdC zp_2626 35 (.if_icmp .eq 130) 3 && zdC zp_2626 38 (.iconst 0) 1 && zdC zp_2626 39 (.ireturn) 1 && zdC zp_2626 40 (.aload_n 1) 1 && zdC zp_2626 41 (.invokevirtual 303) 3 && zdC zp_2626 44 (.aload_n 2) 1 && zdC zp_2626 45 (.invokevirtual 306) 3 && zdC zp_2626 48 (.if_icmp .eq 117) 3 && zdC zp_2626 51 (.iconst 0) 1 && zdC zp_2626 52 (.ireturn) 1) = true := by decide +kernel
theorem eL_law_2661 : dx cL_law 2661 (.if_icmp .eq 130) 3 2664 := ⟨zd_c (o := 2626) (p := 35) zh_2626 (zc_1 (zc_1 (zc_1 (zc_1 (zc_1 (zc_1 (zc_1 (zc_1 (zc_1 zb_2661))))))))), rfl⟩
theorem eL_law_2664 : dx cL_law 2664 (.iconst 0) 1 2665 := ⟨zd_c (o := 2626) (p := 38) zh_2626 (zc_2 (zc_1 (zc_1 (zc_1 (zc_1 (zc_1 (zc_1 (zc_1 (zc_1 zb_2661))))))))), rfl⟩
theorem eL_law_2665 : dx cL_law 2665 (.ireturn) 1 2666 := ⟨zd_c (o := 2626) (p := 39) zh_2626 (zc_2 (zc_1 (zc_1 (zc_1 (zc_1 (zc_1 (zc_1 (zc_1 zb_2661)))))))), rfl⟩
theorem eL_law_2666 : dx cL_law 2666 (.aload_n 1) 1 2667 := ⟨zd_c (o := 2626) (p := 40) zh_2626 (zc_2 (zc_1 (zc_1 (zc_1 (zc_1 (zc_1 (zc_1 zb_2661))))))), rfl⟩
theorem eL_law_2667 : dx cL_law 2667 (.invokevirtual 303) 3 2670 := ⟨zd_c (o := 2626) (p := 41) zh_2626 (zc_2 (zc_1 (zc_1 (zc_1 (zc_1 (zc_1 zb_2661)))))), rfl⟩
theorem eL_law_2670 : dx cL_law 2670 (.aload_n 2) 1 2671 := ⟨zd_c (o := 2626) (p := 44) zh_2626 (zc_2 (zc_1 (zc_1 (zc_1 (zc_1 zb_2661))))), rfl⟩
theorem eL_law_2671 : dx cL_law 2671 (.invokevirtual 306) 3 2674 := ⟨zd_c (o := 2626) (p := 45) zh_2626 (zc_2 (zc_1 (zc_1 (zc_1 zb_2661)))), rfl⟩
theorem eL_law_2674 : dx cL_law 2674 (.if_icmp .eq 117) 3 2677 := ⟨zd_c (o := 2626) (p := 48) zh_2626 (zc_2 (zc_1 (zc_1 zb_2661))), rfl⟩
theorem eL_law_2677 : dx cL_law 2677 (.iconst 0) 1 2678 := ⟨zd_c (o := 2626) (p := 51) zh_2626 (zc_2 (zc_1 zb_2661)), rfl⟩
theorem eL_law_2678 : dx cL_law 2678 (.ireturn) 1 2679 := ⟨zd_c (o := 2626) (p := 52) zh_2626 (zc_2 zb_2661), rfl⟩
theorem zb_2679 : (zdC zp_2626 53 (.aload_n 1) 1 && zdC zp_2626 54 (.aload_n 0) 1 && zdC zp_2626 55 (.iload 5) 2 && zdC zp_2626 57 (.iconst 1) 1 && zdC zp_2626 58 (.iadd) 1 && zdC zp_2626 59 (.iaload) 1 && zdC zp_2626 60 (.aload_n 3) 1 && zdC zp_2626 61 (.invokestatic 307) 3 && zdC zp_2626 64 (.istore 6) 2 && zdC zp_2626 66 (.aload_n 2) 1) = true := by decide +kernel
theorem eL_law_2679 : dx cL_law 2679 (.aload_n 1) 1 2680 := ⟨zd_c (o := 2626) (p := 53) zh_2626 (zc_1 (zc_1 (zc_1 (zc_1 (zc_1 (zc_1 (zc_1 (zc_1 (zc_1 zb_2679))))))))), rfl⟩
theorem eL_law_2680 : dx cL_law 2680 (.aload_n 0) 1 2681 := ⟨zd_c (o := 2626) (p := 54) zh_2626 (zc_2 (zc_1 (zc_1 (zc_1 (zc_1 (zc_1 (zc_1 (zc_1 (zc_1 zb_2679))))))))), rfl⟩
theorem eL_law_2681 : dx cL_law 2681 (.iload 5) 2 2683 := ⟨zd_c (o := 2626) (p := 55) zh_2626 (zc_2 (zc_1 (zc_1 (zc_1 (zc_1 (zc_1 (zc_1 (zc_1 zb_2679)))))))), rfl⟩
theorem eL_law_2683 : dx cL_law 2683 (.iconst 1) 1 2684 := ⟨zd_c (o := 2626) (p := 57) zh_2626 (zc_2 (zc_1 (zc_1 (zc_1 (zc_1 (zc_1 (zc_1 zb_2679))))))), rfl⟩
theorem eL_law_2684 : dx cL_law 2684 (.iadd) 1 2685 := ⟨zd_c (o := 2626) (p := 58) zh_2626 (zc_2 (zc_1 (zc_1 (zc_1 (zc_1 (zc_1 zb_2679)))))), rfl⟩
theorem eL_law_2685 : dx cL_law 2685 (.iaload) 1 2686 := ⟨zd_c (o := 2626) (p := 59) zh_2626 (zc_2 (zc_1 (zc_1 (zc_1 (zc_1 zb_2679))))), rfl⟩
theorem eL_law_2686 : dx cL_law 2686 (.aload_n 3) 1 2687 := ⟨zd_c (o := 2626) (p := 60) zh_2626 (zc_2 (zc_1 (zc_1 (zc_1 zb_2679)))), rfl⟩
theorem eL_law_2687 : dx cL_law 2687 (.invokestatic 307) 3 2690 := ⟨zd_c (o := 2626) (p := 61) zh_2626 (zc_2 (zc_1 (zc_1 zb_2679))), rfl⟩
theorem eL_law_2690 : dx cL_law 2690 (.istore 6) 2 2692 := ⟨zd_c (o := 2626) (p := 64) zh_2626 (zc_2 (zc_1 zb_2679)), rfl⟩
theorem eL_law_2692 : dx cL_law 2692 (.aload_n 2) 1 2693 := ⟨zd_c (o := 2626) (p := 66) zh_2626 (zc_2 zb_2679), rfl⟩
def zp_2693 : ByteArray := ⟨#[0x2a, 0x15, 0x05, 0x04, 0x60, 0x2e, 0xb6, 0x01, 0x35, 0x36, 0x07, 0x2c, 0xb6, 0x00, 0x91, 0x15, 0x06, 0x9f, 0x00, 0x05, 0x03, 0xac, 0x15, 0x06, 0x9a, 0x00, 0x0f, 0x2d, 0x03, 0x2f, 0x15, 0x07, 0x85, 0x94, 0x99, 0x00, 0x05, 0x03, 0xac, 0xa7, 0x00, 0x3b, 0x2b, 0x2a, 0x15, 0x05, 0x04, 0x60, 0x2e, 0x2d, 0xb8, 0x01, 0x36, 0x36, 0x06, 0x2c, 0x2a, 0x15, 0x05, 0x04, 0x60, 0x2e]⟩
theorem zh_2693 : SubC cL_law zp_2693 2693 := sub_of (n := 62) (by decide +kernel)
theorem zb_2693 : (zdC zp_2693 0 (.aload_n 0) 1 && zdC zp_2693 1 (.iload 5) 2 && zdC zp_2693 3 (.iconst 1) 1 && zdC zp_2693 4 (.iadd) 1 && zdC zp_2693 5 (.iaload) 1 && zdC zp_2693 6 (.invokevirtual 309) 3 && zdC zp_2693 9 (.istore 7) 2 && zdC zp_2693 11 (.aload_n 2) 1 && zdC zp_2693 12 (.invokevirtual 145) 3 && zdC zp_2693 15 (.iload 6) 2) = true := by decide +kernel
theorem eL_law_2693 : dx cL_law 2693 (.aload_n 0) 1 2694 := ⟨zd_c (o := 2693) (p := 0) zh_2693 (zc_1 (zc_1 (zc_1 (zc_1 (zc_1 (zc_1 (zc_1 (zc_1 (zc_1 zb_2693))))))))), rfl⟩
theorem eL_law_2694 : dx cL_law 2694 (.iload 5) 2 2696 := ⟨zd_c (o := 2693) (p := 1) zh_2693 (zc_2 (zc_1 (zc_1 (zc_1 (zc_1 (zc_1 (zc_1 (zc_1 (zc_1 zb_2693))))))))), rfl⟩
theorem eL_law_2696 : dx cL_law 2696 (.iconst 1) 1 2697 := ⟨zd_c (o := 2693) (p := 3) zh_2693 (zc_2 (zc_1 (zc_1 (zc_1 (zc_1 (zc_1 (zc_1 (zc_1 zb_2693)))))))), rfl⟩
theorem eL_law_2697 : dx cL_law 2697 (.iadd) 1 2698 := ⟨zd_c (o := 2693) (p := 4) zh_2693 (zc_2 (zc_1 (zc_1 (zc_1 (zc_1 (zc_1 (zc_1 zb_2693))))))), rfl⟩
theorem eL_law_2698 : dx cL_law 2698 (.iaload) 1 2699 := ⟨zd_c (o := 2693) (p := 5) zh_2693 (zc_2 (zc_1 (zc_1 (zc_1 (zc_1 (zc_1 zb_2693)))))), rfl⟩
theorem eL_law_2699 : dx cL_law 2699 (.invokevirtual 309) 3 2702 := ⟨zd_c (o := 2693) (p := 6) zh_2693 (zc_2 (zc_1 (zc_1 (zc_1 (zc_1 zb_2693))))), rfl⟩
theorem eL_law_2702 : dx cL_law 2702 (.istore 7) 2 2704 := ⟨zd_c (o := 2693) (p := 9) zh_2693 (zc_2 (zc_1 (zc_1 (zc_1 zb_2693)))), rfl⟩
theorem eL_law_2704 : dx cL_law 2704 (.aload_n 2) 1 2705 := ⟨zd_c (o := 2693) (p := 11) zh_2693 (zc_2 (zc_1 (zc_1 zb_2693))), rfl⟩
theorem eL_law_2705 : dx cL_law 2705 (.invokevirtual 145) 3 2708 := ⟨zd_c (o := 2693) (p := 12) zh_2693 (zc_2 (zc_1 zb_2693)), rfl⟩
theorem eL_law_2708 : dx cL_law 2708 (.iload 6) 2 2710 := ⟨zd_c (o := 2693) (p := 15) zh_2693 (zc_2 zb_2693), rfl⟩
theorem zb_2710 : (zdC zp_2693 17 (.if_icmp .eq 5) 3 && zdC zp_2693 20 (.iconst 0) 1 && zdC zp_2693 21 (.ireturn) 1 && zdC zp_2693 22 (.iload 6) 2 && zdC zp_2693 24 (.ifCond .ne 15) 3 && zdC zp_2693 27 (.aload_n 3) 1 && zdC zp_2693 28 (.iconst 0) 1 && zdC zp_2693 29 (.laload) 1 && zdC zp_2693 30 (.iload 7) 2 && zdC zp_2693 32 (.i2l) 1) = true := by decide +kernel
theorem eL_law_2710 : dx cL_law 2710 (.if_icmp .eq 5) 3 2713 := ⟨zd_c (o := 2693) (p := 17) zh_2693 (zc_1 (zc_1 (zc_1 (zc_1 (zc_1 (zc_1 (zc_1 (zc_1 (zc_1 zb_2710))))))))), rfl⟩
theorem eL_law_2713 : dx cL_law 2713 (.iconst 0) 1 2714 := ⟨zd_c (o := 2693) (p := 20) zh_2693 (zc_2 (zc_1 (zc_1 (zc_1 (zc_1 (zc_1 (zc_1 (zc_1 (zc_1 zb_2710))))))))), rfl⟩
theorem eL_law_2714 : dx cL_law 2714 (.ireturn) 1 2715 := ⟨zd_c (o := 2693) (p := 21) zh_2693 (zc_2 (zc_1 (zc_1 (zc_1 (zc_1 (zc_1 (zc_1 (zc_1 zb_2710)))))))), rfl⟩
theorem eL_law_2715 : dx cL_law 2715 (.iload 6) 2 2717 := ⟨zd_c (o := 2693) (p := 22) zh_2693 (zc_2 (zc_1 (zc_1 (zc_1 (zc_1 (zc_1 (zc_1 zb_2710))))))), rfl⟩
theorem eL_law_2717 : dx cL_law 2717 (.ifCond .ne 15) 3 2720 := ⟨zd_c (o := 2693) (p := 24) zh_2693 (zc_2 (zc_1 (zc_1 (zc_1 (zc_1 (zc_1 zb_2710)))))), rfl⟩
theorem eL_law_2720 : dx cL_law 2720 (.aload_n 3) 1 2721 := ⟨zd_c (o := 2693) (p := 27) zh_2693 (zc_2 (zc_1 (zc_1 (zc_1 (zc_1 zb_2710))))), rfl⟩
theorem eL_law_2721 : dx cL_law 2721 (.iconst 0) 1 2722 := ⟨zd_c (o := 2693) (p := 28) zh_2693 (zc_2 (zc_1 (zc_1 (zc_1 zb_2710)))), rfl⟩
theorem eL_law_2722 : dx cL_law 2722 (.laload) 1 2723 := ⟨zd_c (o := 2693) (p := 29) zh_2693 (zc_2 (zc_1 (zc_1 zb_2710))), rfl⟩
theorem eL_law_2723 : dx cL_law 2723 (.iload 7) 2 2725 := ⟨zd_c (o := 2693) (p := 30) zh_2693 (zc_2 (zc_1 zb_2710)), rfl⟩
theorem eL_law_2725 : dx cL_law 2725 (.i2l) 1 2726 := ⟨zd_c (o := 2693) (p := 32) zh_2693 (zc_2 zb_2710), rfl⟩
theorem zb_2726 : (zdC zp_2693 33 (.lcmp) 1 && zdC zp_2693 34 (.ifCond .eq 5) 3 && zdC zp_2693 37 (.iconst 0) 1 && zdC zp_2693 38 (.ireturn) 1 && zdC zp_2693 39 (.goto 59) 3 && zdC zp_2693 42 (.aload_n 1) 1 && zdC zp_2693 43 (.aload_n 0) 1 && zdC zp_2693 44 (.iload 5) 2 && zdC zp_2693 46 (.iconst 1) 1 && zdC zp_2693 47 (.iadd) 1) = true := by decide +kernel
theorem eL_law_2726 : dx cL_law 2726 (.lcmp) 1 2727 := ⟨zd_c (o := 2693) (p := 33) zh_2693 (zc_1 (zc_1 (zc_1 (zc_1 (zc_1 (zc_1 (zc_1 (zc_1 (zc_1 zb_2726))))))))), rfl⟩
theorem eL_law_2727 : dx cL_law 2727 (.ifCond .eq 5) 3 2730 := ⟨zd_c (o := 2693) (p := 34) zh_2693 (zc_2 (zc_1 (zc_1 (zc_1 (zc_1 (zc_1 (zc_1 (zc_1 (zc_1 zb_2726))))))))), rfl⟩
theorem eL_law_2730 : dx cL_law 2730 (.iconst 0) 1 2731 := ⟨zd_c (o := 2693) (p := 37) zh_2693 (zc_2 (zc_1 (zc_1 (zc_1 (zc_1 (zc_1 (zc_1 (zc_1 zb_2726)))))))), rfl⟩
theorem eL_law_2731 : dx cL_law 2731 (.ireturn) 1 2732 := ⟨zd_c (o := 2693) (p := 38) zh_2693 (zc_2 (zc_1 (zc_1 (zc_1 (zc_1 (zc_1 (zc_1 zb_2726))))))), rfl⟩
theorem eL_law_2732 : dx cL_law 2732 (.goto 59) 3 2735 := ⟨zd_c (o := 2693) (p := 39) zh_2693 (zc_2 (zc_1 (zc_1 (zc_1 (zc_1 (zc_1 zb_2726)))))), rfl⟩
theorem eL_law_2735 : dx cL_law 2735 (.aload_n 1) 1 2736 := ⟨zd_c (o := 2693) (p := 42) zh_2693 (zc_2 (zc_1 (zc_1 (zc_1 (zc_1 zb_2726))))), rfl⟩
theorem eL_law_2736 : dx cL_law 2736 (.aload_n 0) 1 2737 := ⟨zd_c (o := 2693) (p := 43) zh_2693 (zc_2 (zc_1 (zc_1 (zc_1 zb_2726)))), rfl⟩
theorem eL_law_2737 : dx cL_law 2737 (.iload 5) 2 2739 := ⟨zd_c (o := 2693) (p := 44) zh_2693 (zc_2 (zc_1 (zc_1 zb_2726))), rfl⟩
theorem eL_law_2739 : dx cL_law 2739 (.iconst 1) 1 2740 := ⟨zd_c (o := 2693) (p := 46) zh_2693 (zc_2 (zc_1 zb_2726)), rfl⟩
theorem eL_law_2740 : dx cL_law 2740 (.iadd) 1 2741 := ⟨zd_c (o := 2693) (p := 47) zh_2693 (zc_2 zb_2726), rfl⟩
theorem zb_2741 : (zdC zp_2693 48 (.iaload) 1 && zdC zp_2693 49 (.aload_n 3) 1 && zdC zp_2693 50 (.invokestatic 310) 3 && zdC zp_2693 53 (.istore 6) 2 && zdC zp_2693 55 (.aload_n 2) 1 && zdC zp_2693 56 (.aload_n 0) 1 && zdC zp_2693 57 (.iload 5) 2 && zdC zp_2693 59 (.iconst 1) 1 && zdC zp_2693 60 (.iadd) 1 && zdC zp_2693 61 (.iaload) 1) = true := by decide +kernel
theorem eL_law_2741 : dx cL_law 2741 (.iaload) 1 2742 := ⟨zd_c (o := 2693) (p := 48) zh_2693 (zc_1 (zc_1 (zc_1 (zc_1 (zc_1 (zc_1 (zc_1 (zc_1 (zc_1 zb_2741))))))))), rfl⟩
theorem eL_law_2742 : dx cL_law 2742 (.aload_n 3) 1 2743 := ⟨zd_c (o := 2693) (p := 49) zh_2693 (zc_2 (zc_1 (zc_1 (zc_1 (zc_1 (zc_1 (zc_1 (zc_1 (zc_1 zb_2741))))))))), rfl⟩
theorem eL_law_2743 : dx cL_law 2743 (.invokestatic 310) 3 2746 := ⟨zd_c (o := 2693) (p := 50) zh_2693 (zc_2 (zc_1 (zc_1 (zc_1 (zc_1 (zc_1 (zc_1 (zc_1 zb_2741)))))))), rfl⟩
theorem eL_law_2746 : dx cL_law 2746 (.istore 6) 2 2748 := ⟨zd_c (o := 2693) (p := 53) zh_2693 (zc_2 (zc_1 (zc_1 (zc_1 (zc_1 (zc_1 (zc_1 zb_2741))))))), rfl⟩
theorem eL_law_2748 : dx cL_law 2748 (.aload_n 2) 1 2749 := ⟨zd_c (o := 2693) (p := 55) zh_2693 (zc_2 (zc_1 (zc_1 (zc_1 (zc_1 (zc_1 zb_2741)))))), rfl⟩
theorem eL_law_2749 : dx cL_law 2749 (.aload_n 0) 1 2750 := ⟨zd_c (o := 2693) (p := 56) zh_2693 (zc_2 (zc_1 (zc_1 (zc_1 (zc_1 zb_2741))))), rfl⟩
theorem eL_law_2750 : dx cL_law 2750 (.iload 5) 2 2752 := ⟨zd_c (o := 2693) (p := 57) zh_2693 (zc_2 (zc_1 (zc_1 (zc_1 zb_2741)))), rfl⟩
theorem eL_law_2752 : dx cL_law 2752 (.iconst 1) 1 2753 := ⟨zd_c (o := 2693) (p := 59) zh_2693 (zc_2 (zc_1 (zc_1 zb_2741))), rfl⟩
theorem eL_law_2753 : dx cL_law 2753 (.iadd) 1 2754 := ⟨zd_c (o := 2693) (p := 60) zh_2693 (zc_2 (zc_1 zb_2741)), rfl⟩
theorem eL_law_2754 : dx cL_law 2754 (.iaload) 1 2755 := ⟨zd_c (o := 2693) (p := 61) zh_2693 (zc_2 zb_2741), rfl⟩
def zp_2755 : ByteArray := ⟨#[0xb6, 0x01, 0x38, 0x36, 0x07, 0x2c, 0xb6, 0x00, 0x91, 0x15, 0x06, 0x9f, 0x00, 0x05, 0x03, 0xac, 0x15, 0x06, 0x9a, 0x00, 0x0f, 0x2d, 0x03, 0x2f, 0x15, 0x07, 0x85, 0x94, 0x99, 0x00, 0x05, 0x03, 0xac, 0xa7, 0x00, 0x03, 0x84, 0x05, 0x06, 0xa7, 0xf5, 0x32, 0x04, 0xac]⟩
theorem zh_2755 : SubC cL_law zp_2755 2755 := sub_of (n := 44) (by decide +kernel)
theorem zb_2755 : (zdC zp_2755 0 (.invokevirtual 312) 3 && zdC zp_2755 3 (.istore 7) 2 && zdC zp_2755 5 (.aload_n 2) 1 && zdC zp_2755 6 (.invokevirtual 145) 3 && zdC zp_2755 9 (.iload 6) 2 && zdC zp_2755 11 (.if_icmp .eq 5) 3 && zdC zp_2755 14 (.iconst 0) 1 && zdC zp_2755 15 (.ireturn) 1 && zdC zp_2755 16 (.iload 6) 2 && zdC zp_2755 18 (.ifCond .ne 15) 3) = true := by decide +kernel
theorem eL_law_2755 : dx cL_law 2755 (.invokevirtual 312) 3 2758 := ⟨zd_c (o := 2755) (p := 0) zh_2755 (zc_1 (zc_1 (zc_1 (zc_1 (zc_1 (zc_1 (zc_1 (zc_1 (zc_1 zb_2755))))))))), rfl⟩
theorem eL_law_2758 : dx cL_law 2758 (.istore 7) 2 2760 := ⟨zd_c (o := 2755) (p := 3) zh_2755 (zc_2 (zc_1 (zc_1 (zc_1 (zc_1 (zc_1 (zc_1 (zc_1 (zc_1 zb_2755))))))))), rfl⟩
theorem eL_law_2760 : dx cL_law 2760 (.aload_n 2) 1 2761 := ⟨zd_c (o := 2755) (p := 5) zh_2755 (zc_2 (zc_1 (zc_1 (zc_1 (zc_1 (zc_1 (zc_1 (zc_1 zb_2755)))))))), rfl⟩
theorem eL_law_2761 : dx cL_law 2761 (.invokevirtual 145) 3 2764 := ⟨zd_c (o := 2755) (p := 6) zh_2755 (zc_2 (zc_1 (zc_1 (zc_1 (zc_1 (zc_1 (zc_1 zb_2755))))))), rfl⟩
theorem eL_law_2764 : dx cL_law 2764 (.iload 6) 2 2766 := ⟨zd_c (o := 2755) (p := 9) zh_2755 (zc_2 (zc_1 (zc_1 (zc_1 (zc_1 (zc_1 zb_2755)))))), rfl⟩
theorem eL_law_2766 : dx cL_law 2766 (.if_icmp .eq 5) 3 2769 := ⟨zd_c (o := 2755) (p := 11) zh_2755 (zc_2 (zc_1 (zc_1 (zc_1 (zc_1 zb_2755))))), rfl⟩
theorem eL_law_2769 : dx cL_law 2769 (.iconst 0) 1 2770 := ⟨zd_c (o := 2755) (p := 14) zh_2755 (zc_2 (zc_1 (zc_1 (zc_1 zb_2755)))), rfl⟩
theorem eL_law_2770 : dx cL_law 2770 (.ireturn) 1 2771 := ⟨zd_c (o := 2755) (p := 15) zh_2755 (zc_2 (zc_1 (zc_1 zb_2755))), rfl⟩
theorem eL_law_2771 : dx cL_law 2771 (.iload 6) 2 2773 := ⟨zd_c (o := 2755) (p := 16) zh_2755 (zc_2 (zc_1 zb_2755)), rfl⟩
theorem eL_law_2773 : dx cL_law 2773 (.ifCond .ne 15) 3 2776 := ⟨zd_c (o := 2755) (p := 18) zh_2755 (zc_2 zb_2755), rfl⟩
theorem zb_2776 : (zdC zp_2755 21 (.aload_n 3) 1 && zdC zp_2755 22 (.iconst 0) 1 && zdC zp_2755 23 (.laload) 1 && zdC zp_2755 24 (.iload 7) 2 && zdC zp_2755 26 (.i2l) 1 && zdC zp_2755 27 (.lcmp) 1 && zdC zp_2755 28 (.ifCond .eq 5) 3 && zdC zp_2755 31 (.iconst 0) 1 && zdC zp_2755 32 (.ireturn) 1 && zdC zp_2755 33 (.goto 3) 3) = true := by decide +kernel
theorem eL_law_2776 : dx cL_law 2776 (.aload_n 3) 1 2777 := ⟨zd_c (o := 2755) (p := 21) zh_2755 (zc_1 (zc_1 (zc_1 (zc_1 (zc_1 (zc_1 (zc_1 (zc_1 (zc_1 zb_2776))))))))), rfl⟩
theorem eL_law_2777 : dx cL_law 2777 (.iconst 0) 1 2778 := ⟨zd_c (o := 2755) (p := 22) zh_2755 (zc_2 (zc_1 (zc_1 (zc_1 (zc_1 (zc_1 (zc_1 (zc_1 (zc_1 zb_2776))))))))), rfl⟩
theorem eL_law_2778 : dx cL_law 2778 (.laload) 1 2779 := ⟨zd_c (o := 2755) (p := 23) zh_2755 (zc_2 (zc_1 (zc_1 (zc_1 (zc_1 (zc_1 (zc_1 (zc_1 zb_2776)))))))), rfl⟩
theorem eL_law_2779 : dx cL_law 2779 (.iload 7) 2 2781 := ⟨zd_c (o := 2755) (p := 24) zh_2755 (zc_2 (zc_1 (zc_1 (zc_1 (zc_1 (zc_1 (zc_1 zb_2776))))))), rfl⟩
theorem eL_law_2781 : dx cL_law 2781 (.i2l) 1 2782 := ⟨zd_c (o := 2755) (p := 26) zh_2755 (zc_2 (zc_1 (zc_1 (zc_1 (zc_1 (zc_1 zb_2776)))))), rfl⟩
theorem eL_law_2782 : dx cL_law 2782 (.lcmp) 1 2783 := ⟨zd_c (o := 2755) (p := 27) zh_2755 (zc_2 (zc_1 (zc_1 (zc_1 (zc_1 zb_2776))))), rfl⟩
theorem eL_law_2783 : dx cL_law 2783 (.ifCond .eq 5) 3 2786 := ⟨zd_c (o := 2755) (p := 28) zh_2755 (zc_2 (zc_1 (zc_1 (zc_1 zb_2776)))), rfl⟩
theorem eL_law_2786 : dx cL_law 2786 (.iconst 0) 1 2787 := ⟨zd_c (o := 2755) (p := 31) zh_2755 (zc_2 (zc_1 (zc_1 zb_2776))), rfl⟩
theorem eL_law_2787 : dx cL_law 2787 (.ireturn) 1 2788 := ⟨zd_c (o := 2755) (p := 32) zh_2755 (zc_2 (zc_1 zb_2776)), rfl⟩
theorem eL_law_2788 : dx cL_law 2788 (.goto 3) 3 2791 := ⟨zd_c (o := 2755) (p := 33) zh_2755 (zc_2 zb_2776), rfl⟩
theorem zb_2791 : (zdC zp_2755 36 (.iinc 5 6) 3 && zdC zp_2755 39 (.goto (-2766)) 3 && zdC zp_2755 42 (.iconst 1) 1 && zdC zp_2755 43 (.ireturn) 1) = true := by decide +kernel
theorem eL_law_2791 : dx cL_law 2791 (.iinc 5 6) 3 2794 := ⟨zd_c (o := 2755) (p := 36) zh_2755 (zc_1 (zc_1 (zc_1 zb_2791))), rfl⟩
theorem eL_law_2794 : dx cL_law 2794 (.goto (-2766)) 3 2797 := ⟨zd_c (o := 2755) (p := 39) zh_2755 (zc_2 (zc_1 (zc_1 zb_2791))), rfl⟩
theorem eL_law_2797 : dx cL_law 2797 (.iconst 1) 1 2798 := ⟨zd_c (o := 2755) (p := 42) zh_2755 (zc_2 (zc_1 zb_2791)), rfl⟩
theorem eL_law_2798 : dx cL_law 2798 (.ireturn) 1 2799 := ⟨zd_c (o := 2755) (p := 43) zh_2755 (zc_2 zb_2791), rfl⟩
