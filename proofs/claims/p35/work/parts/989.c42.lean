/-! The law. -/
def T281 : mT := (12, yL_law, code, 4, ret)
def SCR (base : Nat) (X : Nat → Option mC) (b L : Nat) (f : Nat → Value) : Prop := b < base ∧ X b = some (1000, L, f) ∧ L ≤ 3072 ∧ ∀ j, j < L → ∃ x : Int32, f j = .int x
/-- the number at a place of the script -/
def sv (f : Nat → Value) (e : Int) : Int := vi (f e.toNat)
section
variable {base : Nat} {X : Nat → Option mC} {G : Nat → Value} {d : Nat} {t : mT} {pc pc' : Nat} {lv : sL} {st : List mV} {M : mH} {Q : Option Value → mH → Prop}
theorem r_lenS {b L : Nat} {f : Nat → Value} (hd : decode t.2.2.1 pc = .ok (.arraylength, 1)) (hn : pc + 1 = pc') (hs : SCR base X b L f) (h : sRn base X G d t pc' lv (vI ((L : Nat) : Int) :: st) M Q) : sRn base X G d t pc lv (vA b :: st) M Q :=
  r_lenv (w := vA b) (x := (1000, L, f)) hd hn rfl (by unfold m_at; rw [if_pos hs.1, hs.2.1]) (Nat.le_refl 1000) h
theorem r_aldS {b L : Nat} {f : Nat → Value} {e : Int} (hd : decode t.2.2.1 pc = .ok (.iaload, 1)) (hn : pc + 1 = pc') (hs : SCR base X b L f) (he : 0 ≤ e ∧ e < ((L : Nat) : Int) ∧ e ≤ 2147483647) (h : ∀ w, w = sv f e → inR w → sRn base X G d t pc' lv (vI w :: st) M Q) : sRn base X G d t pc lv (vI e :: vA b :: st) M Q := by
  obtain ⟨x, hx⟩ := hs.2.2.2 e.toNat (by omega)
  exact r_ialdA (w := x.toInt) hd hn hs.2.1 hs.1 he (by rw [hx, Int32.ofInt_toInt]) (h _ (by unfold sv; rw [hx]; rfl) (inR_toInt x))
end
theorem INVl.up {base : Nat} {j : Int} {M : mH} (h : INVl base j M) : INVl base (j + 6) M := by
  obtain ⟨a, b, hK, hR, r1, r2⟩ := h
  exact ⟨a, b, hK, hR, by omega, by omega⟩
theorem INVl.room {base : Nat} {j : Int} {M : mH} (h : INVl base j M) (hj : j ≤ 3072) : M.1 ≤ 600000 ∧ M.2.1 ≤ 7302250 := by
  obtain ⟨a, b, hK, hR, r1, r2⟩ := h
  obtain ⟨-, -, -, -, -, -, -, -, ha, hb⟩ := hK
  omega
theorem B281_16_18 : s_dk T281.2.2.1 16 [.iconst 0, .istore_n 3] 18 = true := by decide +kernel
theorem B281_18_20 : s_dk T281.2.2.1 18 [.iload_n 3, .aload_n 0] 20 = true := by decide +kernel
theorem D281_20 : decode T281.2.2.1 20 = .ok (.arraylength, 1) := by decide +kernel
theorem B281_21_24 : s_dk T281.2.2.1 21 [.bipush 6, .isub] 24 = true := by decide +kernel
theorem D281_24 : decode T281.2.2.1 24 = .ok (.if_icmp .gt 1299, 3) := by decide +kernel
theorem B281_1323_1324 : s_dk T281.2.2.1 1323 [.iconst 1] 1324 = true := by decide +kernel
theorem D281_1324 : decode T281.2.2.1 1324 = .ok (.ireturn, 1) := by decide +kernel
theorem B281_27_29 : s_dk T281.2.2.1 27 [.aload_n 0, .iload_n 3] 29 = true := by decide +kernel
theorem D281_29 : decode T281.2.2.1 29 = .ok (.iaload, 1) := by decide +kernel
theorem B281_30_32 : s_dk T281.2.2.1 30 [.bipush 63] 32 = true := by decide +kernel
theorem D281_32 : decode T281.2.2.1 32 = .ok (.iand, 1) := by decide +kernel
theorem D281_33 : decode T281.2.2.1 33 = .ok (.tableswitch 1284 0 36 #[163, 206, 239, 262, 305, 328, 371, 414, 447, 480, 543, 586, 599, 642, 675, 738, 761, 774, 787, 820, 843, 866, 879, 902, 945, 958, 981, 1014, 1037, 1060, 1093, 1156, 1179, 1202, 1225, 1248, 1271], 163) := by decide +kernel
theorem B281_196_201 : s_dk T281.2.2.1 196 [.aload_n 1, .aload_n 0, .iload_n 3, .iconst 1, .iadd] 201 = true := by decide +kernel
theorem D281_201 : decode T281.2.2.1 201 = .ok (.iaload, 1) := by decide +kernel
theorem B281_202_206 : s_dk T281.2.2.1 202 [.aload_n 0, .iload_n 3, .iconst 2, .iadd] 206 = true := by decide +kernel
theorem D281_206 : decode T281.2.2.1 206 = .ok (.iaload, 1) := by decide +kernel
theorem B281_207_211 : s_dk T281.2.2.1 207 [.aload_n 0, .iload_n 3, .iconst 3, .iadd] 211 = true := by decide +kernel
theorem D281_211 : decode T281.2.2.1 211 = .ok (.iaload, 1) := by decide +kernel
theorem D281_212 : decode T281.2.2.1 212 = .ok (.invokevirtual 13, 3) := by decide +kernel
theorem ck_12_virtual_13 : m_call 12 (.invokevirtual 13) = some (0, 96, 3) := by decide +kernel
theorem B281_215_221 : s_dk T281.2.2.1 215 [.pop, .aload_n 2, .aload_n 0, .iload_n 3, .iconst 1, .iadd] 221 = true := by decide +kernel
theorem D281_221 : decode T281.2.2.1 221 = .ok (.iaload, 1) := by decide +kernel
theorem B281_222_226 : s_dk T281.2.2.1 222 [.aload_n 0, .iload_n 3, .iconst 2, .iadd] 226 = true := by decide +kernel
theorem D281_226 : decode T281.2.2.1 226 = .ok (.iaload, 1) := by decide +kernel
theorem B281_227_231 : s_dk T281.2.2.1 227 [.aload_n 0, .iload_n 3, .iconst 3, .iadd] 231 = true := by decide +kernel
theorem D281_231 : decode T281.2.2.1 231 = .ok (.iaload, 1) := by decide +kernel
theorem D281_232 : decode T281.2.2.1 232 = .ok (.invokevirtual 17, 3) := by decide +kernel
theorem ck_12_virtual_17 : m_call 12 (.invokevirtual 17) = some (0, 161, 3) := by decide +kernel
theorem B281_235_236 : s_dk T281.2.2.1 235 [.pop] 236 = true := by decide +kernel
theorem D281_236 : decode T281.2.2.1 236 = .ok (.goto 1081, 3) := by decide +kernel
theorem B281_1317_1320 : s_dk T281.2.2.1 1317 [.iinc 3 6] 1320 = true := by decide +kernel
theorem D281_1320 : decode T281.2.2.1 1320 = .ok (.goto (-1302), 3) := by decide +kernel
theorem B281_239_244 : s_dk T281.2.2.1 239 [.aload_n 1, .aload_n 0, .iload_n 3, .iconst 1, .iadd] 244 = true := by decide +kernel
theorem D281_244 : decode T281.2.2.1 244 = .ok (.iaload, 1) := by decide +kernel
theorem B281_245_249 : s_dk T281.2.2.1 245 [.aload_n 0, .iload_n 3, .iconst 2, .iadd] 249 = true := by decide +kernel
theorem D281_249 : decode T281.2.2.1 249 = .ok (.iaload, 1) := by decide +kernel
theorem D281_250 : decode T281.2.2.1 250 = .ok (.invokevirtual 18, 3) := by decide +kernel
theorem ck_12_virtual_18 : m_call 12 (.invokevirtual 18) = some (0, 97, 2) := by decide +kernel
theorem B281_253_259 : s_dk T281.2.2.1 253 [.pop, .aload_n 2, .aload_n 0, .iload_n 3, .iconst 1, .iadd] 259 = true := by decide +kernel
theorem D281_259 : decode T281.2.2.1 259 = .ok (.iaload, 1) := by decide +kernel
theorem B281_260_264 : s_dk T281.2.2.1 260 [.aload_n 0, .iload_n 3, .iconst 2, .iadd] 264 = true := by decide +kernel
theorem D281_264 : decode T281.2.2.1 264 = .ok (.iaload, 1) := by decide +kernel
theorem D281_265 : decode T281.2.2.1 265 = .ok (.invokevirtual 22, 3) := by decide +kernel
theorem ck_12_virtual_22 : m_call 12 (.invokevirtual 22) = some (0, 162, 2) := by decide +kernel
theorem B281_268_269 : s_dk T281.2.2.1 268 [.pop] 269 = true := by decide +kernel
theorem D281_269 : decode T281.2.2.1 269 = .ok (.goto 1048, 3) := by decide +kernel
theorem B281_272_277 : s_dk T281.2.2.1 272 [.aload_n 1, .aload_n 0, .iload_n 3, .iconst 1, .iadd] 277 = true := by decide +kernel
theorem D281_277 : decode T281.2.2.1 277 = .ok (.iaload, 1) := by decide +kernel
theorem D281_278 : decode T281.2.2.1 278 = .ok (.invokevirtual 23, 3) := by decide +kernel
theorem ck_12_virtual_23 : m_call 12 (.invokevirtual 23) = some (0, 98, 1) := by decide +kernel
theorem B281_281_287 : s_dk T281.2.2.1 281 [.pop, .aload_n 2, .aload_n 0, .iload_n 3, .iconst 1, .iadd] 287 = true := by decide +kernel
theorem D281_287 : decode T281.2.2.1 287 = .ok (.iaload, 1) := by decide +kernel
theorem D281_288 : decode T281.2.2.1 288 = .ok (.invokevirtual 27, 3) := by decide +kernel
theorem ck_12_virtual_27 : m_call 12 (.invokevirtual 27) = some (0, 163, 1) := by decide +kernel
theorem B281_291_292 : s_dk T281.2.2.1 291 [.pop] 292 = true := by decide +kernel
theorem D281_292 : decode T281.2.2.1 292 = .ok (.goto 1025, 3) := by decide +kernel
theorem B281_295_300 : s_dk T281.2.2.1 295 [.aload_n 1, .aload_n 0, .iload_n 3, .iconst 1, .iadd] 300 = true := by decide +kernel
theorem D281_300 : decode T281.2.2.1 300 = .ok (.iaload, 1) := by decide +kernel
theorem B281_301_305 : s_dk T281.2.2.1 301 [.aload_n 0, .iload_n 3, .iconst 2, .iadd] 305 = true := by decide +kernel
theorem D281_305 : decode T281.2.2.1 305 = .ok (.iaload, 1) := by decide +kernel
theorem B281_306_310 : s_dk T281.2.2.1 306 [.aload_n 0, .iload_n 3, .iconst 3, .iadd] 310 = true := by decide +kernel
theorem D281_310 : decode T281.2.2.1 310 = .ok (.iaload, 1) := by decide +kernel
theorem D281_311 : decode T281.2.2.1 311 = .ok (.invokevirtual 28, 3) := by decide +kernel
theorem ck_12_virtual_28 : m_call 12 (.invokevirtual 28) = some (0, 99, 3) := by decide +kernel
theorem B281_314_320 : s_dk T281.2.2.1 314 [.pop, .aload_n 2, .aload_n 0, .iload_n 3, .iconst 1, .iadd] 320 = true := by decide +kernel
theorem D281_320 : decode T281.2.2.1 320 = .ok (.iaload, 1) := by decide +kernel
theorem B281_321_325 : s_dk T281.2.2.1 321 [.aload_n 0, .iload_n 3, .iconst 2, .iadd] 325 = true := by decide +kernel
theorem D281_325 : decode T281.2.2.1 325 = .ok (.iaload, 1) := by decide +kernel
theorem B281_326_330 : s_dk T281.2.2.1 326 [.aload_n 0, .iload_n 3, .iconst 3, .iadd] 330 = true := by decide +kernel
theorem D281_330 : decode T281.2.2.1 330 = .ok (.iaload, 1) := by decide +kernel
theorem D281_331 : decode T281.2.2.1 331 = .ok (.invokevirtual 31, 3) := by decide +kernel
theorem ck_12_virtual_31 : m_call 12 (.invokevirtual 31) = some (0, 164, 3) := by decide +kernel
theorem B281_334_335 : s_dk T281.2.2.1 334 [.pop] 335 = true := by decide +kernel
theorem D281_335 : decode T281.2.2.1 335 = .ok (.goto 982, 3) := by decide +kernel
theorem B281_338_343 : s_dk T281.2.2.1 338 [.aload_n 1, .aload_n 0, .iload_n 3, .iconst 1, .iadd] 343 = true := by decide +kernel
theorem D281_343 : decode T281.2.2.1 343 = .ok (.iaload, 1) := by decide +kernel
theorem D281_344 : decode T281.2.2.1 344 = .ok (.invokevirtual 32, 3) := by decide +kernel
theorem ck_12_virtual_32 : m_call 12 (.invokevirtual 32) = some (0, 100, 1) := by decide +kernel
theorem B281_347_353 : s_dk T281.2.2.1 347 [.pop, .aload_n 2, .aload_n 0, .iload_n 3, .iconst 1, .iadd] 353 = true := by decide +kernel
theorem D281_353 : decode T281.2.2.1 353 = .ok (.iaload, 1) := by decide +kernel
theorem D281_354 : decode T281.2.2.1 354 = .ok (.invokevirtual 35, 3) := by decide +kernel
theorem ck_12_virtual_35 : m_call 12 (.invokevirtual 35) = some (0, 165, 1) := by decide +kernel
theorem B281_357_358 : s_dk T281.2.2.1 357 [.pop] 358 = true := by decide +kernel
theorem D281_358 : decode T281.2.2.1 358 = .ok (.goto 959, 3) := by decide +kernel
theorem B281_361_366 : s_dk T281.2.2.1 361 [.aload_n 1, .aload_n 0, .iload_n 3, .iconst 1, .iadd] 366 = true := by decide +kernel
theorem D281_366 : decode T281.2.2.1 366 = .ok (.iaload, 1) := by decide +kernel
theorem B281_367_371 : s_dk T281.2.2.1 367 [.aload_n 0, .iload_n 3, .iconst 2, .iadd] 371 = true := by decide +kernel
theorem D281_371 : decode T281.2.2.1 371 = .ok (.iaload, 1) := by decide +kernel
theorem B281_372_376 : s_dk T281.2.2.1 372 [.aload_n 0, .iload_n 3, .iconst 3, .iadd] 376 = true := by decide +kernel
theorem D281_376 : decode T281.2.2.1 376 = .ok (.iaload, 1) := by decide +kernel
theorem D281_377 : decode T281.2.2.1 377 = .ok (.invokevirtual 36, 3) := by decide +kernel
theorem ck_12_virtual_36 : m_call 12 (.invokevirtual 36) = some (0, 101, 3) := by decide +kernel
theorem B281_380_386 : s_dk T281.2.2.1 380 [.pop, .aload_n 2, .aload_n 0, .iload_n 3, .iconst 1, .iadd] 386 = true := by decide +kernel
theorem D281_386 : decode T281.2.2.1 386 = .ok (.iaload, 1) := by decide +kernel
theorem B281_387_391 : s_dk T281.2.2.1 387 [.aload_n 0, .iload_n 3, .iconst 2, .iadd] 391 = true := by decide +kernel
theorem D281_391 : decode T281.2.2.1 391 = .ok (.iaload, 1) := by decide +kernel
theorem B281_392_396 : s_dk T281.2.2.1 392 [.aload_n 0, .iload_n 3, .iconst 3, .iadd] 396 = true := by decide +kernel
theorem D281_396 : decode T281.2.2.1 396 = .ok (.iaload, 1) := by decide +kernel
theorem D281_397 : decode T281.2.2.1 397 = .ok (.invokevirtual 39, 3) := by decide +kernel
theorem ck_12_virtual_39 : m_call 12 (.invokevirtual 39) = some (0, 167, 3) := by decide +kernel
theorem B281_400_401 : s_dk T281.2.2.1 400 [.pop] 401 = true := by decide +kernel
theorem D281_401 : decode T281.2.2.1 401 = .ok (.goto 916, 3) := by decide +kernel
theorem B281_404_409 : s_dk T281.2.2.1 404 [.aload_n 1, .aload_n 0, .iload_n 3, .iconst 1, .iadd] 409 = true := by decide +kernel
theorem D281_409 : decode T281.2.2.1 409 = .ok (.iaload, 1) := by decide +kernel
theorem B281_410_414 : s_dk T281.2.2.1 410 [.aload_n 0, .iload_n 3, .iconst 2, .iadd] 414 = true := by decide +kernel
theorem D281_414 : decode T281.2.2.1 414 = .ok (.iaload, 1) := by decide +kernel
theorem B281_415_419 : s_dk T281.2.2.1 415 [.aload_n 0, .iload_n 3, .iconst 3, .iadd] 419 = true := by decide +kernel
theorem D281_419 : decode T281.2.2.1 419 = .ok (.iaload, 1) := by decide +kernel
theorem D281_420 : decode T281.2.2.1 420 = .ok (.invokevirtual 40, 3) := by decide +kernel
theorem ck_12_virtual_40 : m_call 12 (.invokevirtual 40) = some (0, 102, 3) := by decide +kernel
theorem B281_423_429 : s_dk T281.2.2.1 423 [.pop, .aload_n 2, .aload_n 0, .iload_n 3, .iconst 1, .iadd] 429 = true := by decide +kernel
theorem D281_429 : decode T281.2.2.1 429 = .ok (.iaload, 1) := by decide +kernel
theorem B281_430_434 : s_dk T281.2.2.1 430 [.aload_n 0, .iload_n 3, .iconst 2, .iadd] 434 = true := by decide +kernel
theorem D281_434 : decode T281.2.2.1 434 = .ok (.iaload, 1) := by decide +kernel
theorem B281_435_439 : s_dk T281.2.2.1 435 [.aload_n 0, .iload_n 3, .iconst 3, .iadd] 439 = true := by decide +kernel
theorem D281_439 : decode T281.2.2.1 439 = .ok (.iaload, 1) := by decide +kernel
theorem D281_440 : decode T281.2.2.1 440 = .ok (.invokevirtual 43, 3) := by decide +kernel
theorem ck_12_virtual_43 : m_call 12 (.invokevirtual 43) = some (0, 168, 3) := by decide +kernel
theorem B281_443_444 : s_dk T281.2.2.1 443 [.pop] 444 = true := by decide +kernel
theorem D281_444 : decode T281.2.2.1 444 = .ok (.goto 873, 3) := by decide +kernel
theorem B281_447_452 : s_dk T281.2.2.1 447 [.aload_n 1, .aload_n 0, .iload_n 3, .iconst 1, .iadd] 452 = true := by decide +kernel
theorem D281_452 : decode T281.2.2.1 452 = .ok (.iaload, 1) := by decide +kernel
theorem B281_453_457 : s_dk T281.2.2.1 453 [.aload_n 0, .iload_n 3, .iconst 2, .iadd] 457 = true := by decide +kernel
theorem D281_457 : decode T281.2.2.1 457 = .ok (.iaload, 1) := by decide +kernel
theorem D281_458 : decode T281.2.2.1 458 = .ok (.invokevirtual 44, 3) := by decide +kernel
theorem ck_12_virtual_44 : m_call 12 (.invokevirtual 44) = some (0, 103, 2) := by decide +kernel
theorem B281_461_467 : s_dk T281.2.2.1 461 [.pop, .aload_n 2, .aload_n 0, .iload_n 3, .iconst 1, .iadd] 467 = true := by decide +kernel
theorem D281_467 : decode T281.2.2.1 467 = .ok (.iaload, 1) := by decide +kernel
theorem B281_468_472 : s_dk T281.2.2.1 468 [.aload_n 0, .iload_n 3, .iconst 2, .iadd] 472 = true := by decide +kernel
theorem D281_472 : decode T281.2.2.1 472 = .ok (.iaload, 1) := by decide +kernel
theorem D281_473 : decode T281.2.2.1 473 = .ok (.invokevirtual 47, 3) := by decide +kernel
theorem ck_12_virtual_47 : m_call 12 (.invokevirtual 47) = some (0, 169, 2) := by decide +kernel
theorem B281_476_477 : s_dk T281.2.2.1 476 [.pop] 477 = true := by decide +kernel
theorem D281_477 : decode T281.2.2.1 477 = .ok (.goto 840, 3) := by decide +kernel
theorem B281_480_485 : s_dk T281.2.2.1 480 [.aload_n 1, .aload_n 0, .iload_n 3, .iconst 1, .iadd] 485 = true := by decide +kernel
theorem D281_485 : decode T281.2.2.1 485 = .ok (.iaload, 1) := by decide +kernel
theorem B281_486_490 : s_dk T281.2.2.1 486 [.aload_n 0, .iload_n 3, .iconst 2, .iadd] 490 = true := by decide +kernel
theorem D281_490 : decode T281.2.2.1 490 = .ok (.iaload, 1) := by decide +kernel
theorem D281_491 : decode T281.2.2.1 491 = .ok (.invokevirtual 48, 3) := by decide +kernel
theorem ck_12_virtual_48 : m_call 12 (.invokevirtual 48) = some (0, 104, 2) := by decide +kernel
theorem B281_494_500 : s_dk T281.2.2.1 494 [.pop, .aload_n 2, .aload_n 0, .iload_n 3, .iconst 1, .iadd] 500 = true := by decide +kernel
theorem D281_500 : decode T281.2.2.1 500 = .ok (.iaload, 1) := by decide +kernel
theorem B281_501_505 : s_dk T281.2.2.1 501 [.aload_n 0, .iload_n 3, .iconst 2, .iadd] 505 = true := by decide +kernel
theorem D281_505 : decode T281.2.2.1 505 = .ok (.iaload, 1) := by decide +kernel
theorem D281_506 : decode T281.2.2.1 506 = .ok (.invokevirtual 51, 3) := by decide +kernel
theorem ck_12_virtual_51 : m_call 12 (.invokevirtual 51) = some (0, 177, 2) := by decide +kernel
theorem B281_509_510 : s_dk T281.2.2.1 509 [.pop] 510 = true := by decide +kernel
theorem D281_510 : decode T281.2.2.1 510 = .ok (.goto 807, 3) := by decide +kernel
theorem B281_513_518 : s_dk T281.2.2.1 513 [.aload_n 1, .aload_n 0, .iload_n 3, .iconst 1, .iadd] 518 = true := by decide +kernel
theorem D281_518 : decode T281.2.2.1 518 = .ok (.iaload, 1) := by decide +kernel
theorem B281_519_523 : s_dk T281.2.2.1 519 [.aload_n 0, .iload_n 3, .iconst 2, .iadd] 523 = true := by decide +kernel
theorem D281_523 : decode T281.2.2.1 523 = .ok (.iaload, 1) := by decide +kernel
theorem B281_524_528 : s_dk T281.2.2.1 524 [.aload_n 0, .iload_n 3, .iconst 3, .iadd] 528 = true := by decide +kernel
theorem D281_528 : decode T281.2.2.1 528 = .ok (.iaload, 1) := by decide +kernel
theorem B281_529_533 : s_dk T281.2.2.1 529 [.aload_n 0, .iload_n 3, .iconst 4, .iadd] 533 = true := by decide +kernel
theorem D281_533 : decode T281.2.2.1 533 = .ok (.iaload, 1) := by decide +kernel
theorem B281_534_538 : s_dk T281.2.2.1 534 [.aload_n 0, .iload_n 3, .iconst 5, .iadd] 538 = true := by decide +kernel
theorem D281_538 : decode T281.2.2.1 538 = .ok (.iaload, 1) := by decide +kernel
theorem D281_539 : decode T281.2.2.1 539 = .ok (.invokevirtual 52, 3) := by decide +kernel
theorem ck_12_virtual_52 : m_call 12 (.invokevirtual 52) = some (0, 105, 5) := by decide +kernel
theorem B281_542_548 : s_dk T281.2.2.1 542 [.pop, .aload_n 2, .aload_n 0, .iload_n 3, .iconst 1, .iadd] 548 = true := by decide +kernel
theorem D281_548 : decode T281.2.2.1 548 = .ok (.iaload, 1) := by decide +kernel
theorem B281_549_553 : s_dk T281.2.2.1 549 [.aload_n 0, .iload_n 3, .iconst 2, .iadd] 553 = true := by decide +kernel
theorem D281_553 : decode T281.2.2.1 553 = .ok (.iaload, 1) := by decide +kernel
theorem B281_554_558 : s_dk T281.2.2.1 554 [.aload_n 0, .iload_n 3, .iconst 3, .iadd] 558 = true := by decide +kernel
theorem D281_558 : decode T281.2.2.1 558 = .ok (.iaload, 1) := by decide +kernel
theorem B281_559_563 : s_dk T281.2.2.1 559 [.aload_n 0, .iload_n 3, .iconst 4, .iadd] 563 = true := by decide +kernel
theorem D281_563 : decode T281.2.2.1 563 = .ok (.iaload, 1) := by decide +kernel
theorem B281_564_568 : s_dk T281.2.2.1 564 [.aload_n 0, .iload_n 3, .iconst 5, .iadd] 568 = true := by decide +kernel
theorem D281_568 : decode T281.2.2.1 568 = .ok (.iaload, 1) := by decide +kernel
theorem D281_569 : decode T281.2.2.1 569 = .ok (.invokevirtual 56, 3) := by decide +kernel
theorem ck_12_virtual_56 : m_call 12 (.invokevirtual 56) = some (0, 179, 5) := by decide +kernel
theorem B281_572_573 : s_dk T281.2.2.1 572 [.pop] 573 = true := by decide +kernel
theorem D281_573 : decode T281.2.2.1 573 = .ok (.goto 744, 3) := by decide +kernel
theorem B281_576_581 : s_dk T281.2.2.1 576 [.aload_n 1, .aload_n 0, .iload_n 3, .iconst 1, .iadd] 581 = true := by decide +kernel
theorem D281_581 : decode T281.2.2.1 581 = .ok (.iaload, 1) := by decide +kernel
theorem B281_582_586 : s_dk T281.2.2.1 582 [.aload_n 0, .iload_n 3, .iconst 2, .iadd] 586 = true := by decide +kernel
theorem D281_586 : decode T281.2.2.1 586 = .ok (.iaload, 1) := by decide +kernel
theorem B281_587_591 : s_dk T281.2.2.1 587 [.aload_n 0, .iload_n 3, .iconst 3, .iadd] 591 = true := by decide +kernel
theorem D281_591 : decode T281.2.2.1 591 = .ok (.iaload, 1) := by decide +kernel
theorem D281_592 : decode T281.2.2.1 592 = .ok (.invokevirtual 57, 3) := by decide +kernel
theorem ck_12_virtual_57 : m_call 12 (.invokevirtual 57) = some (0, 106, 3) := by decide +kernel
theorem B281_595_601 : s_dk T281.2.2.1 595 [.pop, .aload_n 2, .aload_n 0, .iload_n 3, .iconst 1, .iadd] 601 = true := by decide +kernel
theorem D281_601 : decode T281.2.2.1 601 = .ok (.iaload, 1) := by decide +kernel
theorem B281_602_606 : s_dk T281.2.2.1 602 [.aload_n 0, .iload_n 3, .iconst 2, .iadd] 606 = true := by decide +kernel
theorem D281_606 : decode T281.2.2.1 606 = .ok (.iaload, 1) := by decide +kernel
theorem B281_607_611 : s_dk T281.2.2.1 607 [.aload_n 0, .iload_n 3, .iconst 3, .iadd] 611 = true := by decide +kernel
theorem D281_611 : decode T281.2.2.1 611 = .ok (.iaload, 1) := by decide +kernel
theorem D281_612 : decode T281.2.2.1 612 = .ok (.invokevirtual 60, 3) := by decide +kernel
theorem ck_12_virtual_60 : m_call 12 (.invokevirtual 60) = some (0, 181, 3) := by decide +kernel
theorem B281_615_616 : s_dk T281.2.2.1 615 [.pop] 616 = true := by decide +kernel
theorem D281_616 : decode T281.2.2.1 616 = .ok (.goto 701, 3) := by decide +kernel
theorem B281_619_620 : s_dk T281.2.2.1 619 [.aload_n 1] 620 = true := by decide +kernel
theorem D281_620 : decode T281.2.2.1 620 = .ok (.invokevirtual 61, 3) := by decide +kernel
theorem ck_12_virtual_61 : m_call 12 (.invokevirtual 61) = some (0, 107, 0) := by decide +kernel
theorem B281_623_625 : s_dk T281.2.2.1 623 [.pop2, .aload_n 2] 625 = true := by decide +kernel
theorem D281_625 : decode T281.2.2.1 625 = .ok (.invokevirtual 65, 3) := by decide +kernel
theorem ck_12_virtual_65 : m_call 12 (.invokevirtual 65) = some (0, 202, 0) := by decide +kernel
theorem B281_628_629 : s_dk T281.2.2.1 628 [.pop2] 629 = true := by decide +kernel
theorem D281_629 : decode T281.2.2.1 629 = .ok (.goto 688, 3) := by decide +kernel
theorem B281_632_637 : s_dk T281.2.2.1 632 [.aload_n 1, .aload_n 0, .iload_n 3, .iconst 1, .iadd] 637 = true := by decide +kernel
theorem D281_637 : decode T281.2.2.1 637 = .ok (.iaload, 1) := by decide +kernel
theorem B281_638_642 : s_dk T281.2.2.1 638 [.aload_n 0, .iload_n 3, .iconst 2, .iadd] 642 = true := by decide +kernel
theorem D281_642 : decode T281.2.2.1 642 = .ok (.iaload, 1) := by decide +kernel
theorem B281_643_647 : s_dk T281.2.2.1 643 [.aload_n 0, .iload_n 3, .iconst 3, .iadd] 647 = true := by decide +kernel
theorem D281_647 : decode T281.2.2.1 647 = .ok (.iaload, 1) := by decide +kernel
theorem D281_648 : decode T281.2.2.1 648 = .ok (.invokevirtual 66, 3) := by decide +kernel
theorem ck_12_virtual_66 : m_call 12 (.invokevirtual 66) = some (0, 108, 3) := by decide +kernel
theorem B281_651_657 : s_dk T281.2.2.1 651 [.pop, .aload_n 2, .aload_n 0, .iload_n 3, .iconst 1, .iadd] 657 = true := by decide +kernel
theorem D281_657 : decode T281.2.2.1 657 = .ok (.iaload, 1) := by decide +kernel
theorem B281_658_662 : s_dk T281.2.2.1 658 [.aload_n 0, .iload_n 3, .iconst 2, .iadd] 662 = true := by decide +kernel
theorem D281_662 : decode T281.2.2.1 662 = .ok (.iaload, 1) := by decide +kernel
theorem B281_663_667 : s_dk T281.2.2.1 663 [.aload_n 0, .iload_n 3, .iconst 3, .iadd] 667 = true := by decide +kernel
theorem D281_667 : decode T281.2.2.1 667 = .ok (.iaload, 1) := by decide +kernel
theorem D281_668 : decode T281.2.2.1 668 = .ok (.invokevirtual 69, 3) := by decide +kernel
theorem ck_12_virtual_69 : m_call 12 (.invokevirtual 69) = some (0, 204, 3) := by decide +kernel
theorem B281_671_672 : s_dk T281.2.2.1 671 [.pop] 672 = true := by decide +kernel
theorem D281_672 : decode T281.2.2.1 672 = .ok (.goto 645, 3) := by decide +kernel
theorem B281_675_680 : s_dk T281.2.2.1 675 [.aload_n 1, .aload_n 0, .iload_n 3, .iconst 1, .iadd] 680 = true := by decide +kernel
theorem D281_680 : decode T281.2.2.1 680 = .ok (.iaload, 1) := by decide +kernel
theorem B281_681_685 : s_dk T281.2.2.1 681 [.aload_n 0, .iload_n 3, .iconst 2, .iadd] 685 = true := by decide +kernel
theorem D281_685 : decode T281.2.2.1 685 = .ok (.iaload, 1) := by decide +kernel
theorem D281_686 : decode T281.2.2.1 686 = .ok (.invokevirtual 70, 3) := by decide +kernel
theorem ck_12_virtual_70 : m_call 12 (.invokevirtual 70) = some (0, 109, 2) := by decide +kernel
theorem B281_689_695 : s_dk T281.2.2.1 689 [.pop, .aload_n 2, .aload_n 0, .iload_n 3, .iconst 1, .iadd] 695 = true := by decide +kernel
theorem D281_695 : decode T281.2.2.1 695 = .ok (.iaload, 1) := by decide +kernel
theorem B281_696_700 : s_dk T281.2.2.1 696 [.aload_n 0, .iload_n 3, .iconst 2, .iadd] 700 = true := by decide +kernel
theorem D281_700 : decode T281.2.2.1 700 = .ok (.iaload, 1) := by decide +kernel
theorem D281_701 : decode T281.2.2.1 701 = .ok (.invokevirtual 73, 3) := by decide +kernel
theorem ck_12_virtual_73 : m_call 12 (.invokevirtual 73) = some (0, 205, 2) := by decide +kernel
theorem B281_704_705 : s_dk T281.2.2.1 704 [.pop] 705 = true := by decide +kernel
theorem D281_705 : decode T281.2.2.1 705 = .ok (.goto 612, 3) := by decide +kernel
theorem B281_708_713 : s_dk T281.2.2.1 708 [.aload_n 1, .aload_n 0, .iload_n 3, .iconst 1, .iadd] 713 = true := by decide +kernel
theorem D281_713 : decode T281.2.2.1 713 = .ok (.iaload, 1) := by decide +kernel
theorem B281_714_718 : s_dk T281.2.2.1 714 [.aload_n 0, .iload_n 3, .iconst 2, .iadd] 718 = true := by decide +kernel
theorem D281_718 : decode T281.2.2.1 718 = .ok (.iaload, 1) := by decide +kernel
theorem B281_719_723 : s_dk T281.2.2.1 719 [.aload_n 0, .iload_n 3, .iconst 3, .iadd] 723 = true := by decide +kernel
theorem D281_723 : decode T281.2.2.1 723 = .ok (.iaload, 1) := by decide +kernel
theorem B281_724_728 : s_dk T281.2.2.1 724 [.aload_n 0, .iload_n 3, .iconst 4, .iadd] 728 = true := by decide +kernel
theorem D281_728 : decode T281.2.2.1 728 = .ok (.iaload, 1) := by decide +kernel
theorem B281_729_733 : s_dk T281.2.2.1 729 [.aload_n 0, .iload_n 3, .iconst 5, .iadd] 733 = true := by decide +kernel
theorem D281_733 : decode T281.2.2.1 733 = .ok (.iaload, 1) := by decide +kernel
theorem D281_734 : decode T281.2.2.1 734 = .ok (.invokevirtual 74, 3) := by decide +kernel
theorem ck_12_virtual_74 : m_call 12 (.invokevirtual 74) = some (0, 110, 5) := by decide +kernel
theorem B281_737_743 : s_dk T281.2.2.1 737 [.pop, .aload_n 2, .aload_n 0, .iload_n 3, .iconst 1, .iadd] 743 = true := by decide +kernel
theorem D281_743 : decode T281.2.2.1 743 = .ok (.iaload, 1) := by decide +kernel
theorem B281_744_748 : s_dk T281.2.2.1 744 [.aload_n 0, .iload_n 3, .iconst 2, .iadd] 748 = true := by decide +kernel
theorem D281_748 : decode T281.2.2.1 748 = .ok (.iaload, 1) := by decide +kernel
theorem B281_749_753 : s_dk T281.2.2.1 749 [.aload_n 0, .iload_n 3, .iconst 3, .iadd] 753 = true := by decide +kernel
theorem D281_753 : decode T281.2.2.1 753 = .ok (.iaload, 1) := by decide +kernel
theorem B281_754_758 : s_dk T281.2.2.1 754 [.aload_n 0, .iload_n 3, .iconst 4, .iadd] 758 = true := by decide +kernel
theorem D281_758 : decode T281.2.2.1 758 = .ok (.iaload, 1) := by decide +kernel
theorem B281_759_763 : s_dk T281.2.2.1 759 [.aload_n 0, .iload_n 3, .iconst 5, .iadd] 763 = true := by decide +kernel
theorem D281_763 : decode T281.2.2.1 763 = .ok (.iaload, 1) := by decide +kernel
theorem D281_764 : decode T281.2.2.1 764 = .ok (.invokevirtual 77, 3) := by decide +kernel
theorem ck_12_virtual_77 : m_call 12 (.invokevirtual 77) = some (0, 210, 5) := by decide +kernel
theorem B281_767_768 : s_dk T281.2.2.1 767 [.pop] 768 = true := by decide +kernel
theorem D281_768 : decode T281.2.2.1 768 = .ok (.goto 549, 3) := by decide +kernel
theorem B281_771_776 : s_dk T281.2.2.1 771 [.aload_n 1, .aload_n 0, .iload_n 3, .iconst 1, .iadd] 776 = true := by decide +kernel
theorem D281_776 : decode T281.2.2.1 776 = .ok (.iaload, 1) := by decide +kernel
theorem D281_777 : decode T281.2.2.1 777 = .ok (.invokevirtual 78, 3) := by decide +kernel
theorem ck_12_virtual_78 : m_call 12 (.invokevirtual 78) = some (0, 111, 1) := by decide +kernel
theorem B281_780_786 : s_dk T281.2.2.1 780 [.pop, .aload_n 2, .aload_n 0, .iload_n 3, .iconst 1, .iadd] 786 = true := by decide +kernel
theorem D281_786 : decode T281.2.2.1 786 = .ok (.iaload, 1) := by decide +kernel
theorem D281_787 : decode T281.2.2.1 787 = .ok (.invokevirtual 81, 3) := by decide +kernel
theorem ck_12_virtual_81 : m_call 12 (.invokevirtual 81) = some (0, 211, 1) := by decide +kernel
theorem B281_790_791 : s_dk T281.2.2.1 790 [.pop] 791 = true := by decide +kernel
theorem D281_791 : decode T281.2.2.1 791 = .ok (.goto 526, 3) := by decide +kernel
theorem B281_794_795 : s_dk T281.2.2.1 794 [.aload_n 1] 795 = true := by decide +kernel
theorem D281_795 : decode T281.2.2.1 795 = .ok (.invokevirtual 82, 3) := by decide +kernel
theorem ck_12_virtual_82 : m_call 12 (.invokevirtual 82) = some (0, 112, 0) := by decide +kernel
theorem B281_798_800 : s_dk T281.2.2.1 798 [.pop, .aload_n 2] 800 = true := by decide +kernel
theorem D281_800 : decode T281.2.2.1 800 = .ok (.invokevirtual 86, 3) := by decide +kernel
theorem ck_12_virtual_86 : m_call 12 (.invokevirtual 86) = some (0, 230, 0) := by decide +kernel
theorem B281_803_804 : s_dk T281.2.2.1 803 [.pop] 804 = true := by decide +kernel
theorem D281_804 : decode T281.2.2.1 804 = .ok (.goto 513, 3) := by decide +kernel
theorem B281_807_808 : s_dk T281.2.2.1 807 [.aload_n 1] 808 = true := by decide +kernel
theorem D281_808 : decode T281.2.2.1 808 = .ok (.invokevirtual 87, 3) := by decide +kernel
theorem ck_12_virtual_87 : m_call 12 (.invokevirtual 87) = some (0, 113, 0) := by decide +kernel
theorem B281_811_813 : s_dk T281.2.2.1 811 [.pop, .aload_n 2] 813 = true := by decide +kernel
theorem D281_813 : decode T281.2.2.1 813 = .ok (.invokevirtual 90, 3) := by decide +kernel
theorem ck_12_virtual_90 : m_call 12 (.invokevirtual 90) = some (0, 231, 0) := by decide +kernel
theorem B281_816_817 : s_dk T281.2.2.1 816 [.pop] 817 = true := by decide +kernel
theorem D281_817 : decode T281.2.2.1 817 = .ok (.goto 500, 3) := by decide +kernel
theorem B281_820_825 : s_dk T281.2.2.1 820 [.aload_n 1, .aload_n 0, .iload_n 3, .iconst 1, .iadd] 825 = true := by decide +kernel
theorem D281_825 : decode T281.2.2.1 825 = .ok (.iaload, 1) := by decide +kernel
theorem B281_826_830 : s_dk T281.2.2.1 826 [.aload_n 0, .iload_n 3, .iconst 2, .iadd] 830 = true := by decide +kernel
theorem D281_830 : decode T281.2.2.1 830 = .ok (.iaload, 1) := by decide +kernel
theorem D281_831 : decode T281.2.2.1 831 = .ok (.invokevirtual 91, 3) := by decide +kernel
theorem ck_12_virtual_91 : m_call 12 (.invokevirtual 91) = some (0, 114, 2) := by decide +kernel
theorem B281_834_840 : s_dk T281.2.2.1 834 [.pop, .aload_n 2, .aload_n 0, .iload_n 3, .iconst 1, .iadd] 840 = true := by decide +kernel
theorem D281_840 : decode T281.2.2.1 840 = .ok (.iaload, 1) := by decide +kernel
theorem B281_841_845 : s_dk T281.2.2.1 841 [.aload_n 0, .iload_n 3, .iconst 2, .iadd] 845 = true := by decide +kernel
theorem D281_845 : decode T281.2.2.1 845 = .ok (.iaload, 1) := by decide +kernel
theorem D281_846 : decode T281.2.2.1 846 = .ok (.invokevirtual 94, 3) := by decide +kernel
theorem ck_12_virtual_94 : m_call 12 (.invokevirtual 94) = some (0, 248, 2) := by decide +kernel
theorem B281_849_850 : s_dk T281.2.2.1 849 [.pop] 850 = true := by decide +kernel
theorem D281_850 : decode T281.2.2.1 850 = .ok (.goto 467, 3) := by decide +kernel
theorem B281_853_858 : s_dk T281.2.2.1 853 [.aload_n 1, .aload_n 0, .iload_n 3, .iconst 1, .iadd] 858 = true := by decide +kernel
theorem D281_858 : decode T281.2.2.1 858 = .ok (.iaload, 1) := by decide +kernel
theorem D281_859 : decode T281.2.2.1 859 = .ok (.invokevirtual 95, 3) := by decide +kernel
theorem ck_12_virtual_95 : m_call 12 (.invokevirtual 95) = some (0, 115, 1) := by decide +kernel
theorem B281_862_868 : s_dk T281.2.2.1 862 [.pop, .aload_n 2, .aload_n 0, .iload_n 3, .iconst 1, .iadd] 868 = true := by decide +kernel
theorem D281_868 : decode T281.2.2.1 868 = .ok (.iaload, 1) := by decide +kernel
theorem D281_869 : decode T281.2.2.1 869 = .ok (.invokevirtual 98, 3) := by decide +kernel
theorem ck_12_virtual_98 : m_call 12 (.invokevirtual 98) = some (0, 249, 1) := by decide +kernel
theorem B281_872_873 : s_dk T281.2.2.1 872 [.pop] 873 = true := by decide +kernel
theorem D281_873 : decode T281.2.2.1 873 = .ok (.goto 444, 3) := by decide +kernel
theorem B281_876_881 : s_dk T281.2.2.1 876 [.aload_n 1, .aload_n 0, .iload_n 3, .iconst 1, .iadd] 881 = true := by decide +kernel
theorem D281_881 : decode T281.2.2.1 881 = .ok (.iaload, 1) := by decide +kernel
theorem D281_882 : decode T281.2.2.1 882 = .ok (.invokevirtual 99, 3) := by decide +kernel
theorem ck_12_virtual_99 : m_call 12 (.invokevirtual 99) = some (0, 116, 1) := by decide +kernel
theorem B281_885_891 : s_dk T281.2.2.1 885 [.pop2, .aload_n 2, .aload_n 0, .iload_n 3, .iconst 1, .iadd] 891 = true := by decide +kernel
theorem D281_891 : decode T281.2.2.1 891 = .ok (.iaload, 1) := by decide +kernel
theorem D281_892 : decode T281.2.2.1 892 = .ok (.invokevirtual 103, 3) := by decide +kernel
theorem ck_12_virtual_103 : m_call 12 (.invokevirtual 103) = some (0, 250, 1) := by decide +kernel
theorem B281_895_896 : s_dk T281.2.2.1 895 [.pop2] 896 = true := by decide +kernel
theorem D281_896 : decode T281.2.2.1 896 = .ok (.goto 421, 3) := by decide +kernel
theorem B281_899_900 : s_dk T281.2.2.1 899 [.aload_n 1] 900 = true := by decide +kernel
theorem D281_900 : decode T281.2.2.1 900 = .ok (.invokevirtual 104, 3) := by decide +kernel
theorem ck_12_virtual_104 : m_call 12 (.invokevirtual 104) = some (0, 117, 0) := by decide +kernel
theorem B281_903_905 : s_dk T281.2.2.1 903 [.pop2, .aload_n 2] 905 = true := by decide +kernel
theorem D281_905 : decode T281.2.2.1 905 = .ok (.invokevirtual 107, 3) := by decide +kernel
theorem ck_12_virtual_107 : m_call 12 (.invokevirtual 107) = some (0, 206, 0) := by decide +kernel
theorem B281_908_909 : s_dk T281.2.2.1 908 [.pop2] 909 = true := by decide +kernel
theorem D281_909 : decode T281.2.2.1 909 = .ok (.goto 408, 3) := by decide +kernel
theorem B281_912_917 : s_dk T281.2.2.1 912 [.aload_n 1, .aload_n 0, .iload_n 3, .iconst 1, .iadd] 917 = true := by decide +kernel
theorem D281_917 : decode T281.2.2.1 917 = .ok (.iaload, 1) := by decide +kernel
theorem D281_918 : decode T281.2.2.1 918 = .ok (.invokevirtual 108, 3) := by decide +kernel
theorem ck_12_virtual_108 : m_call 12 (.invokevirtual 108) = some (0, 118, 1) := by decide +kernel
theorem B281_921_927 : s_dk T281.2.2.1 921 [.pop2, .aload_n 2, .aload_n 0, .iload_n 3, .iconst 1, .iadd] 927 = true := by decide +kernel
theorem D281_927 : decode T281.2.2.1 927 = .ok (.iaload, 1) := by decide +kernel
theorem D281_928 : decode T281.2.2.1 928 = .ok (.invokevirtual 111, 3) := by decide +kernel
theorem ck_12_virtual_111 : m_call 12 (.invokevirtual 111) = some (0, 209, 1) := by decide +kernel
theorem B281_931_932 : s_dk T281.2.2.1 931 [.pop2] 932 = true := by decide +kernel
theorem D281_932 : decode T281.2.2.1 932 = .ok (.goto 385, 3) := by decide +kernel
theorem B281_935_940 : s_dk T281.2.2.1 935 [.aload_n 1, .aload_n 0, .iload_n 3, .iconst 1, .iadd] 940 = true := by decide +kernel
theorem D281_940 : decode T281.2.2.1 940 = .ok (.iaload, 1) := by decide +kernel
theorem B281_941_945 : s_dk T281.2.2.1 941 [.aload_n 0, .iload_n 3, .iconst 2, .iadd] 945 = true := by decide +kernel
theorem D281_945 : decode T281.2.2.1 945 = .ok (.iaload, 1) := by decide +kernel
theorem B281_946_950 : s_dk T281.2.2.1 946 [.aload_n 0, .iload_n 3, .iconst 3, .iadd] 950 = true := by decide +kernel
theorem D281_950 : decode T281.2.2.1 950 = .ok (.iaload, 1) := by decide +kernel
theorem D281_951 : decode T281.2.2.1 951 = .ok (.invokevirtual 112, 3) := by decide +kernel
theorem ck_12_virtual_112 : m_call 12 (.invokevirtual 112) = some (0, 119, 3) := by decide +kernel
theorem B281_954_960 : s_dk T281.2.2.1 954 [.pop, .aload_n 2, .aload_n 0, .iload_n 3, .iconst 1, .iadd] 960 = true := by decide +kernel
theorem D281_960 : decode T281.2.2.1 960 = .ok (.iaload, 1) := by decide +kernel
theorem B281_961_965 : s_dk T281.2.2.1 961 [.aload_n 0, .iload_n 3, .iconst 2, .iadd] 965 = true := by decide +kernel
theorem D281_965 : decode T281.2.2.1 965 = .ok (.iaload, 1) := by decide +kernel
theorem B281_966_970 : s_dk T281.2.2.1 966 [.aload_n 0, .iload_n 3, .iconst 3, .iadd] 970 = true := by decide +kernel
theorem D281_970 : decode T281.2.2.1 970 = .ok (.iaload, 1) := by decide +kernel
theorem D281_971 : decode T281.2.2.1 971 = .ok (.invokevirtual 115, 3) := by decide +kernel
theorem ck_12_virtual_115 : m_call 12 (.invokevirtual 115) = some (0, 251, 3) := by decide +kernel
theorem B281_974_975 : s_dk T281.2.2.1 974 [.pop] 975 = true := by decide +kernel
theorem D281_975 : decode T281.2.2.1 975 = .ok (.goto 342, 3) := by decide +kernel
theorem B281_978_979 : s_dk T281.2.2.1 978 [.aload_n 1] 979 = true := by decide +kernel
theorem D281_979 : decode T281.2.2.1 979 = .ok (.invokevirtual 116, 3) := by decide +kernel
theorem ck_12_virtual_116 : m_call 12 (.invokevirtual 116) = some (0, 120, 0) := by decide +kernel
theorem B281_982_984 : s_dk T281.2.2.1 982 [.pop, .aload_n 2] 984 = true := by decide +kernel
theorem D281_984 : decode T281.2.2.1 984 = .ok (.invokevirtual 119, 3) := by decide +kernel
theorem ck_12_virtual_119 : m_call 12 (.invokevirtual 119) = some (0, 254, 0) := by decide +kernel
theorem B281_987_988 : s_dk T281.2.2.1 987 [.pop] 988 = true := by decide +kernel
theorem D281_988 : decode T281.2.2.1 988 = .ok (.goto 329, 3) := by decide +kernel
theorem B281_991_996 : s_dk T281.2.2.1 991 [.aload_n 1, .aload_n 0, .iload_n 3, .iconst 1, .iadd] 996 = true := by decide +kernel
theorem D281_996 : decode T281.2.2.1 996 = .ok (.iaload, 1) := by decide +kernel
theorem D281_997 : decode T281.2.2.1 997 = .ok (.invokevirtual 120, 3) := by decide +kernel
theorem ck_12_virtual_120 : m_call 12 (.invokevirtual 120) = some (0, 121, 1) := by decide +kernel
theorem B281_1000_1006 : s_dk T281.2.2.1 1000 [.pop, .aload_n 2, .aload_n 0, .iload_n 3, .iconst 1, .iadd] 1006 = true := by decide +kernel
theorem D281_1006 : decode T281.2.2.1 1006 = .ok (.iaload, 1) := by decide +kernel
theorem D281_1007 : decode T281.2.2.1 1007 = .ok (.invokevirtual 123, 3) := by decide +kernel
theorem ck_12_virtual_123 : m_call 12 (.invokevirtual 123) = some (0, 255, 1) := by decide +kernel
theorem B281_1010_1011 : s_dk T281.2.2.1 1010 [.pop] 1011 = true := by decide +kernel
theorem D281_1011 : decode T281.2.2.1 1011 = .ok (.goto 306, 3) := by decide +kernel
theorem B281_1014_1019 : s_dk T281.2.2.1 1014 [.aload_n 1, .aload_n 0, .iload_n 3, .iconst 1, .iadd] 1019 = true := by decide +kernel
theorem D281_1019 : decode T281.2.2.1 1019 = .ok (.iaload, 1) := by decide +kernel
theorem B281_1020_1024 : s_dk T281.2.2.1 1020 [.aload_n 0, .iload_n 3, .iconst 2, .iadd] 1024 = true := by decide +kernel
theorem D281_1024 : decode T281.2.2.1 1024 = .ok (.iaload, 1) := by decide +kernel
theorem D281_1025 : decode T281.2.2.1 1025 = .ok (.invokevirtual 124, 3) := by decide +kernel
theorem ck_12_virtual_124 : m_call 12 (.invokevirtual 124) = some (0, 122, 2) := by decide +kernel
theorem B281_1028_1034 : s_dk T281.2.2.1 1028 [.pop, .aload_n 2, .aload_n 0, .iload_n 3, .iconst 1, .iadd] 1034 = true := by decide +kernel
theorem D281_1034 : decode T281.2.2.1 1034 = .ok (.iaload, 1) := by decide +kernel
theorem B281_1035_1039 : s_dk T281.2.2.1 1035 [.aload_n 0, .iload_n 3, .iconst 2, .iadd] 1039 = true := by decide +kernel
theorem D281_1039 : decode T281.2.2.1 1039 = .ok (.iaload, 1) := by decide +kernel
theorem D281_1040 : decode T281.2.2.1 1040 = .ok (.invokevirtual 127, 3) := by decide +kernel
theorem ck_12_virtual_127 : m_call 12 (.invokevirtual 127) = some (0, 256, 2) := by decide +kernel
theorem B281_1043_1044 : s_dk T281.2.2.1 1043 [.pop] 1044 = true := by decide +kernel
theorem D281_1044 : decode T281.2.2.1 1044 = .ok (.goto 273, 3) := by decide +kernel
theorem B281_1047_1052 : s_dk T281.2.2.1 1047 [.aload_n 1, .aload_n 0, .iload_n 3, .iconst 1, .iadd] 1052 = true := by decide +kernel
theorem D281_1052 : decode T281.2.2.1 1052 = .ok (.iaload, 1) := by decide +kernel
theorem D281_1053 : decode T281.2.2.1 1053 = .ok (.invokevirtual 128, 3) := by decide +kernel
theorem ck_12_virtual_128 : m_call 12 (.invokevirtual 128) = some (0, 123, 1) := by decide +kernel
theorem B281_1056_1062 : s_dk T281.2.2.1 1056 [.pop, .aload_n 2, .aload_n 0, .iload_n 3, .iconst 1, .iadd] 1062 = true := by decide +kernel
theorem D281_1062 : decode T281.2.2.1 1062 = .ok (.iaload, 1) := by decide +kernel
theorem D281_1063 : decode T281.2.2.1 1063 = .ok (.invokevirtual 131, 3) := by decide +kernel
theorem ck_12_virtual_131 : m_call 12 (.invokevirtual 131) = some (0, 257, 1) := by decide +kernel
theorem B281_1066_1067 : s_dk T281.2.2.1 1066 [.pop] 1067 = true := by decide +kernel
theorem D281_1067 : decode T281.2.2.1 1067 = .ok (.goto 250, 3) := by decide +kernel
theorem B281_1070_1075 : s_dk T281.2.2.1 1070 [.aload_n 1, .aload_n 0, .iload_n 3, .iconst 1, .iadd] 1075 = true := by decide +kernel
theorem D281_1075 : decode T281.2.2.1 1075 = .ok (.iaload, 1) := by decide +kernel
theorem D281_1076 : decode T281.2.2.1 1076 = .ok (.invokevirtual 132, 3) := by decide +kernel
theorem ck_12_virtual_132 : m_call 12 (.invokevirtual 132) = some (0, 124, 1) := by decide +kernel
theorem B281_1079_1085 : s_dk T281.2.2.1 1079 [.pop, .aload_n 2, .aload_n 0, .iload_n 3, .iconst 1, .iadd] 1085 = true := by decide +kernel
theorem D281_1085 : decode T281.2.2.1 1085 = .ok (.iaload, 1) := by decide +kernel
theorem D281_1086 : decode T281.2.2.1 1086 = .ok (.invokevirtual 135, 3) := by decide +kernel
theorem ck_12_virtual_135 : m_call 12 (.invokevirtual 135) = some (0, 258, 1) := by decide +kernel
theorem B281_1089_1090 : s_dk T281.2.2.1 1089 [.pop] 1090 = true := by decide +kernel
theorem D281_1090 : decode T281.2.2.1 1090 = .ok (.goto 227, 3) := by decide +kernel
theorem B281_1093_1098 : s_dk T281.2.2.1 1093 [.aload_n 1, .aload_n 0, .iload_n 3, .iconst 1, .iadd] 1098 = true := by decide +kernel
theorem D281_1098 : decode T281.2.2.1 1098 = .ok (.iaload, 1) := by decide +kernel
theorem B281_1099_1103 : s_dk T281.2.2.1 1099 [.aload_n 0, .iload_n 3, .iconst 2, .iadd] 1103 = true := by decide +kernel
theorem D281_1103 : decode T281.2.2.1 1103 = .ok (.iaload, 1) := by decide +kernel
theorem D281_1104 : decode T281.2.2.1 1104 = .ok (.invokevirtual 136, 3) := by decide +kernel
theorem ck_12_virtual_136 : m_call 12 (.invokevirtual 136) = some (0, 125, 2) := by decide +kernel
theorem B281_1107_1113 : s_dk T281.2.2.1 1107 [.pop, .aload_n 2, .aload_n 0, .iload_n 3, .iconst 1, .iadd] 1113 = true := by decide +kernel
theorem D281_1113 : decode T281.2.2.1 1113 = .ok (.iaload, 1) := by decide +kernel
theorem B281_1114_1118 : s_dk T281.2.2.1 1114 [.aload_n 0, .iload_n 3, .iconst 2, .iadd] 1118 = true := by decide +kernel
theorem D281_1118 : decode T281.2.2.1 1118 = .ok (.iaload, 1) := by decide +kernel
theorem D281_1119 : decode T281.2.2.1 1119 = .ok (.invokevirtual 139, 3) := by decide +kernel
theorem ck_12_virtual_139 : m_call 12 (.invokevirtual 139) = some (0, 260, 2) := by decide +kernel
theorem B281_1122_1123 : s_dk T281.2.2.1 1122 [.pop] 1123 = true := by decide +kernel
theorem D281_1123 : decode T281.2.2.1 1123 = .ok (.goto 194, 3) := by decide +kernel
theorem B281_1126_1131 : s_dk T281.2.2.1 1126 [.aload_n 1, .aload_n 0, .iload_n 3, .iconst 1, .iadd] 1131 = true := by decide +kernel
theorem D281_1131 : decode T281.2.2.1 1131 = .ok (.iaload, 1) := by decide +kernel
theorem B281_1132_1136 : s_dk T281.2.2.1 1132 [.aload_n 0, .iload_n 3, .iconst 2, .iadd] 1136 = true := by decide +kernel
theorem D281_1136 : decode T281.2.2.1 1136 = .ok (.iaload, 1) := by decide +kernel
theorem B281_1137_1141 : s_dk T281.2.2.1 1137 [.aload_n 0, .iload_n 3, .iconst 3, .iadd] 1141 = true := by decide +kernel
theorem D281_1141 : decode T281.2.2.1 1141 = .ok (.iaload, 1) := by decide +kernel
theorem B281_1142_1146 : s_dk T281.2.2.1 1142 [.aload_n 0, .iload_n 3, .iconst 4, .iadd] 1146 = true := by decide +kernel
theorem D281_1146 : decode T281.2.2.1 1146 = .ok (.iaload, 1) := by decide +kernel
theorem B281_1147_1151 : s_dk T281.2.2.1 1147 [.aload_n 0, .iload_n 3, .iconst 5, .iadd] 1151 = true := by decide +kernel
theorem D281_1151 : decode T281.2.2.1 1151 = .ok (.iaload, 1) := by decide +kernel
theorem D281_1152 : decode T281.2.2.1 1152 = .ok (.invokevirtual 140, 3) := by decide +kernel
theorem ck_12_virtual_140 : m_call 12 (.invokevirtual 140) = some (0, 126, 5) := by decide +kernel
theorem B281_1155_1161 : s_dk T281.2.2.1 1155 [.pop, .aload_n 2, .aload_n 0, .iload_n 3, .iconst 1, .iadd] 1161 = true := by decide +kernel
theorem D281_1161 : decode T281.2.2.1 1161 = .ok (.iaload, 1) := by decide +kernel
theorem B281_1162_1166 : s_dk T281.2.2.1 1162 [.aload_n 0, .iload_n 3, .iconst 2, .iadd] 1166 = true := by decide +kernel
theorem D281_1166 : decode T281.2.2.1 1166 = .ok (.iaload, 1) := by decide +kernel
theorem B281_1167_1171 : s_dk T281.2.2.1 1167 [.aload_n 0, .iload_n 3, .iconst 3, .iadd] 1171 = true := by decide +kernel
theorem D281_1171 : decode T281.2.2.1 1171 = .ok (.iaload, 1) := by decide +kernel
theorem B281_1172_1176 : s_dk T281.2.2.1 1172 [.aload_n 0, .iload_n 3, .iconst 4, .iadd] 1176 = true := by decide +kernel
theorem D281_1176 : decode T281.2.2.1 1176 = .ok (.iaload, 1) := by decide +kernel
theorem B281_1177_1181 : s_dk T281.2.2.1 1177 [.aload_n 0, .iload_n 3, .iconst 5, .iadd] 1181 = true := by decide +kernel
theorem D281_1181 : decode T281.2.2.1 1181 = .ok (.iaload, 1) := by decide +kernel
theorem D281_1182 : decode T281.2.2.1 1182 = .ok (.invokevirtual 143, 3) := by decide +kernel
theorem ck_12_virtual_143 : m_call 12 (.invokevirtual 143) = some (0, 261, 5) := by decide +kernel
theorem B281_1185_1186 : s_dk T281.2.2.1 1185 [.pop] 1186 = true := by decide +kernel
theorem D281_1186 : decode T281.2.2.1 1186 = .ok (.goto 131, 3) := by decide +kernel
theorem B281_1189_1194 : s_dk T281.2.2.1 1189 [.aload_n 1, .aload_n 0, .iload_n 3, .iconst 1, .iadd] 1194 = true := by decide +kernel
theorem D281_1194 : decode T281.2.2.1 1194 = .ok (.iaload, 1) := by decide +kernel
theorem D281_1195 : decode T281.2.2.1 1195 = .ok (.invokevirtual 144, 3) := by decide +kernel
theorem ck_12_virtual_144 : m_call 12 (.invokevirtual 144) = some (0, 127, 1) := by decide +kernel
theorem B281_1198_1204 : s_dk T281.2.2.1 1198 [.pop, .aload_n 2, .aload_n 0, .iload_n 3, .iconst 1, .iadd] 1204 = true := by decide +kernel
theorem D281_1204 : decode T281.2.2.1 1204 = .ok (.iaload, 1) := by decide +kernel
theorem D281_1205 : decode T281.2.2.1 1205 = .ok (.invokevirtual 147, 3) := by decide +kernel
theorem ck_12_virtual_147 : m_call 12 (.invokevirtual 147) = some (0, 262, 1) := by decide +kernel
theorem B281_1208_1209 : s_dk T281.2.2.1 1208 [.pop] 1209 = true := by decide +kernel
theorem D281_1209 : decode T281.2.2.1 1209 = .ok (.goto 108, 3) := by decide +kernel
theorem B281_1212_1217 : s_dk T281.2.2.1 1212 [.aload_n 1, .aload_n 0, .iload_n 3, .iconst 1, .iadd] 1217 = true := by decide +kernel
theorem D281_1217 : decode T281.2.2.1 1217 = .ok (.iaload, 1) := by decide +kernel
theorem D281_1218 : decode T281.2.2.1 1218 = .ok (.invokevirtual 148, 3) := by decide +kernel
theorem ck_12_virtual_148 : m_call 12 (.invokevirtual 148) = some (0, 128, 1) := by decide +kernel
theorem B281_1221_1227 : s_dk T281.2.2.1 1221 [.pop, .aload_n 2, .aload_n 0, .iload_n 3, .iconst 1, .iadd] 1227 = true := by decide +kernel
theorem D281_1227 : decode T281.2.2.1 1227 = .ok (.iaload, 1) := by decide +kernel
theorem D281_1228 : decode T281.2.2.1 1228 = .ok (.invokevirtual 151, 3) := by decide +kernel
theorem ck_12_virtual_151 : m_call 12 (.invokevirtual 151) = some (0, 264, 1) := by decide +kernel
theorem B281_1231_1232 : s_dk T281.2.2.1 1231 [.pop] 1232 = true := by decide +kernel
theorem D281_1232 : decode T281.2.2.1 1232 = .ok (.goto 85, 3) := by decide +kernel
theorem B281_1235_1240 : s_dk T281.2.2.1 1235 [.aload_n 1, .aload_n 0, .iload_n 3, .iconst 1, .iadd] 1240 = true := by decide +kernel
theorem D281_1240 : decode T281.2.2.1 1240 = .ok (.iaload, 1) := by decide +kernel
theorem D281_1241 : decode T281.2.2.1 1241 = .ok (.invokevirtual 152, 3) := by decide +kernel
theorem ck_12_virtual_152 : m_call 12 (.invokevirtual 152) = some (0, 129, 1) := by decide +kernel
theorem B281_1244_1249 : s_dk T281.2.2.1 1244 [.aload_n 2, .aload_n 0, .iload_n 3, .iconst 1, .iadd] 1249 = true := by decide +kernel
theorem D281_1249 : decode T281.2.2.1 1249 = .ok (.iaload, 1) := by decide +kernel
theorem D281_1250 : decode T281.2.2.1 1250 = .ok (.invokevirtual 155, 3) := by decide +kernel
theorem ck_12_virtual_155 : m_call 12 (.invokevirtual 155) = some (0, 151, 1) := by decide +kernel
theorem D281_1253 : decode T281.2.2.1 1253 = .ok (.if_icmp .eq 64, 3) := by decide +kernel
theorem B281_1256_1257 : s_dk T281.2.2.1 1256 [.iconst 0] 1257 = true := by decide +kernel
theorem D281_1257 : decode T281.2.2.1 1257 = .ok (.ireturn, 1) := by decide +kernel
theorem B281_1258_1263 : s_dk T281.2.2.1 1258 [.aload_n 1, .aload_n 0, .iload_n 3, .iconst 1, .iadd] 1263 = true := by decide +kernel
theorem D281_1263 : decode T281.2.2.1 1263 = .ok (.iaload, 1) := by decide +kernel
theorem D281_1264 : decode T281.2.2.1 1264 = .ok (.invokevirtual 156, 3) := by decide +kernel
theorem ck_12_virtual_156 : m_call 12 (.invokevirtual 156) = some (0, 130, 1) := by decide +kernel
theorem B281_1267_1273 : s_dk T281.2.2.1 1267 [.pop, .aload_n 2, .aload_n 0, .iload_n 3, .iconst 1, .iadd] 1273 = true := by decide +kernel
theorem D281_1273 : decode T281.2.2.1 1273 = .ok (.iaload, 1) := by decide +kernel
theorem D281_1274 : decode T281.2.2.1 1274 = .ok (.invokevirtual 159, 3) := by decide +kernel
theorem ck_12_virtual_159 : m_call 12 (.invokevirtual 159) = some (0, 152, 1) := by decide +kernel
theorem B281_1277_1278 : s_dk T281.2.2.1 1277 [.pop] 1278 = true := by decide +kernel
theorem D281_1278 : decode T281.2.2.1 1278 = .ok (.goto 39, 3) := by decide +kernel
theorem B281_1281_1286 : s_dk T281.2.2.1 1281 [.aload_n 1, .aload_n 0, .iload_n 3, .iconst 1, .iadd] 1286 = true := by decide +kernel
theorem D281_1286 : decode T281.2.2.1 1286 = .ok (.iaload, 1) := by decide +kernel
theorem D281_1287 : decode T281.2.2.1 1287 = .ok (.invokevirtual 160, 3) := by decide +kernel
theorem ck_12_virtual_160 : m_call 12 (.invokevirtual 160) = some (0, 131, 1) := by decide +kernel
theorem B281_1290_1296 : s_dk T281.2.2.1 1290 [.pop, .aload_n 2, .aload_n 0, .iload_n 3, .iconst 1, .iadd] 1296 = true := by decide +kernel
theorem D281_1296 : decode T281.2.2.1 1296 = .ok (.iaload, 1) := by decide +kernel
theorem D281_1297 : decode T281.2.2.1 1297 = .ok (.invokevirtual 163, 3) := by decide +kernel
theorem ck_12_virtual_163 : m_call 12 (.invokevirtual 163) = some (0, 265, 1) := by decide +kernel
theorem B281_1300_1301 : s_dk T281.2.2.1 1300 [.pop] 1301 = true := by decide +kernel
theorem D281_1301 : decode T281.2.2.1 1301 = .ok (.goto 16, 3) := by decide +kernel
theorem B281_1304_1305 : s_dk T281.2.2.1 1304 [.aload_n 1] 1305 = true := by decide +kernel
theorem D281_1305 : decode T281.2.2.1 1305 = .ok (.invokevirtual 164, 3) := by decide +kernel
theorem ck_12_virtual_164 : m_call 12 (.invokevirtual 164) = some (0, 132, 0) := by decide +kernel
theorem B281_1308_1310 : s_dk T281.2.2.1 1308 [.pop, .aload_n 2] 1310 = true := by decide +kernel
theorem D281_1310 : decode T281.2.2.1 1310 = .ok (.invokevirtual 167, 3) := by decide +kernel
theorem ck_12_virtual_167 : m_call 12 (.invokevirtual 167) = some (0, 266, 0) := by decide +kernel
theorem B281_1313_1314 : s_dk T281.2.2.1 1313 [.pop] 1314 = true := by decide +kernel
theorem D281_1314 : decode T281.2.2.1 1314 = .ok (.goto 3, 3) := by decide +kernel
set_option maxRecDepth 4000 in
set_option maxHeartbeats 4000000 in
theorem L_k281p {base : Nat} {X : Nat → Option mC} {G : Nat → Value} (E : EnvOK base X G) {b L : Nat} {f_ : Nat → Value} (ihr : SCR base X b L f_) {d : Nat} (hd : 179 ≤ d) {M : mH} (H : HI base M) (h0 : INVl base 0 M) : ∀ mz : Nat, (∀ (x3 : Int) (N : mH), HI base N → Ftr [(0, 0)] M N → (INVl base x3 N) → (0 ≤ x3 ∧ x3 ≤ 3072) → (0 ≤ x3) → (x3 ≤ 3072) → (3078 - x3) * 1 + 0 < (mz : Int) → sRn base X G d T281 18 [(0, vA b), (1, vR 0), (2, vR 77), (3, vI x3)] [] N (s_Q base (pI (fun v M' => HI base M' ∧ Ftr [(0, 0)] M M' ∧ (v = 0 ∨ v = 1) ∧ (v = 1) ∧ (M'.1 ≤ 600000 ∧ M'.2.1 ≤ 7302250))))) := by
  have f0 : Ftr [(0, 0)] M M := Ftr.rf
  intro mz
  induction mz with
  | zero => exact fun x3 N _ _ z0 z1 z2 z3 z4 => by omega
  | succ mz ih =>
    intro x3 N HN fN i0 i1 i2 i3 hmu
    have hL := ihr.2.2.1
    refine s_blx (lv' := [(0, vA b), (1, vR 0), (2, vR 77), (3, vI x3)]) (st' := [vA b, vI x3]) B281_18_20 rfl ?_
    refine r_lenS (pc' := 21) D281_20 rfl ihr ?_
    refine s_blx (lv' := [(0, vA b), (1, vR 0), (2, vR 77), (3, vI x3)]) (st' := [vI (((L : Nat) : Int) - 6), vI x3]) B281_21_24 rfl ?_
    refine r_icmp (tgt := 1323) (pc' := 27) D281_24 rfl rfl (by unfold inR; omega) (fun (c1 : (((L : Nat) : Int) - 6) < x3) => ?_) (fun (c1 : ¬ ((((L : Nat) : Int) - 6) < x3)) => ?_)
    · refine s_blx (lv' := [(0, vA b), (1, vR 0), (2, vR 77), (3, vI x3)]) (st' := [vI 1]) B281_1323_1324 rfl ?_
      exact r_zretI D281_1324 rfl (by omega) (⟨HN, fN, by omega, rfl, i0.room (by omega)⟩)
    · refine s_blx (lv' := [(0, vA b), (1, vR 0), (2, vR 77), (3, vI x3)]) (st' := [vI x3, vA b]) B281_27_29 rfl ?_
      refine r_aldS (pc' := 30) D281_29 rfl ihr (by omega) ?_
      intro w2 e4 r3; unfold inR at r3
      refine s_blx (lv' := [(0, vA b), (1, vR 0), (2, vR 77), (3, vI x3)]) (st' := [vI 63, vI w2]) B281_30_32 rfl ?_
      refine r_and63 (pc' := 33) D281_32 rfl ?_
      refine r_tsw (tgt := fun k => if k = 0 then 196 else if k = 1 then 239 else if k = 2 then 272 else if k = 3 then 295 else if k = 4 then 338 else if k = 5 then 361 else if k = 6 then 404 else if k = 7 then 447 else if k = 8 then 480 else if k = 9 then 513 else if k = 10 then 576 else if k = 11 then 619 else if k = 12 then 632 else if k = 13 then 675 else if k = 14 then 708 else if k = 15 then 771 else if k = 16 then 794 else if k = 17 then 807 else if k = 18 then 820 else if k = 19 then 853 else if k = 20 then 876 else if k = 21 then 899 else if k = 22 then 912 else if k = 23 then 935 else if k = 24 then 978 else if k = 25 then 991 else if k = 26 then 1014 else if k = 27 then 1047 else if k = 28 then 1070 else if k = 29 then 1093 else if k = 30 then 1126 else if k = 31 then 1189 else if k = 32 then 1212 else if k = 33 then 1235 else if k = 34 then 1258 else if k = 35 then 1281 else if k = 36 then 1304 else 0) (td := 1317) D281_33 (by unfold inR; omega) ?_ rfl ?_ ?_
      · intro k h1 h2
        have hk : k = 0 ∨ k = 1 ∨ k = 2 ∨ k = 3 ∨ k = 4 ∨ k = 5 ∨ k = 6 ∨ k = 7 ∨ k = 8 ∨ k = 9 ∨ k = 10 ∨ k = 11 ∨ k = 12 ∨ k = 13 ∨ k = 14 ∨ k = 15 ∨ k = 16 ∨ k = 17 ∨ k = 18 ∨ k = 19 ∨ k = 20 ∨ k = 21 ∨ k = 22 ∨ k = 23 ∨ k = 24 ∨ k = 25 ∨ k = 26 ∨ k = 27 ∨ k = 28 ∨ k = 29 ∨ k = 30 ∨ k = 31 ∨ k = 32 ∨ k = 33 ∨ k = 34 ∨ k = 35 ∨ k = 36 := by omega
        rcases hk with rfl | rfl | rfl | rfl | rfl | rfl | rfl | rfl | rfl | rfl | rfl | rfl | rfl | rfl | rfl | rfl | rfl | rfl | rfl | rfl | rfl | rfl | rfl | rfl | rfl | rfl | rfl | rfl | rfl | rfl | rfl | rfl | rfl | rfl | rfl | rfl | rfl <;> exact ⟨_, rfl, rfl⟩
      · intro k h1 h2 c5
        have hk : k = 0 ∨ k = 1 ∨ k = 2 ∨ k = 3 ∨ k = 4 ∨ k = 5 ∨ k = 6 ∨ k = 7 ∨ k = 8 ∨ k = 9 ∨ k = 10 ∨ k = 11 ∨ k = 12 ∨ k = 13 ∨ k = 14 ∨ k = 15 ∨ k = 16 ∨ k = 17 ∨ k = 18 ∨ k = 19 ∨ k = 20 ∨ k = 21 ∨ k = 22 ∨ k = 23 ∨ k = 24 ∨ k = 25 ∨ k = 26 ∨ k = 27 ∨ k = 28 ∨ k = 29 ∨ k = 30 ∨ k = 31 ∨ k = 32 ∨ k = 33 ∨ k = 34 ∨ k = 35 ∨ k = 36 := by omega
        clear h1 h2
        rcases hk with rfl | rfl | rfl | rfl | rfl | rfl | rfl | rfl | rfl | rfl | rfl | rfl | rfl | rfl | rfl | rfl | rfl | rfl | rfl | rfl | rfl | rfl | rfl | rfl | rfl | rfl | rfl | rfl | rfl | rfl | rfl | rfl | rfl | rfl | rfl | rfl | rfl
        · show sRn _ _ _ _ _ 196 _ _ _ _
          refine s_blx (lv' := [(0, vA b), (1, vR 0), (2, vR 77), (3, vI x3)]) (st' := [vI (x3 + 1), vA b, vR 0]) B281_196_201 rfl ?_
          refine r_aldS (pc' := 202) D281_201 rfl ihr (by omega) ?_
          intro w6 e8 r7; unfold inR at r7
          refine s_blx (lv' := [(0, vA b), (1, vR 0), (2, vR 77), (3, vI x3)]) (st' := [vI (x3 + 2), vA b, vI w6, vR 0]) B281_202_206 rfl ?_
          refine r_aldS (pc' := 207) D281_206 rfl ihr (by omega) ?_
          intro w9 e11 r10; unfold inR at r10
          refine s_blx (lv' := [(0, vA b), (1, vR 0), (2, vR 77), (3, vI x3)]) (st' := [vI (x3 + 3), vA b, vI w9, vI w6, vR 0]) B281_207_211 rfl ?_
          refine r_aldS (pc' := 212) D281_211 rfl ihr (by omega) ?_
          intro w12 e14 r13; unfold inR at r13
          refine r_vI (c := 0) (args := [vI w6, vI w9, vI w12]) (rest := []) (pc' := 215) D281_212 rfl ck_12_virtual_13 TE96 rfl (Nat.le_of_ble_eq_true rfl) ⟨Nat.le_of_ble_eq_true rfl, Nat.le_of_ble_eq_true rfl⟩ sc_0 ⟨rfl, by decide⟩ HN.1 (by omega) (K96 E (by omega) HN w6 w9 w12 x3 (i0) (by omega) (by omega) (by omega)) ?_
          intro v15 M16 q20
          obtain ⟨H17, f18, q19⟩ := q20
          have f21 := fN.tr (f18.up rfl)
          refine s_blx (lv' := [(0, vA b), (1, vR 0), (2, vR 77), (3, vI x3)]) (st' := [vI (x3 + 1), vA b, vR 77]) B281_215_221 rfl ?_
          refine r_aldS (pc' := 222) D281_221 rfl ihr (by omega) ?_
          intro w22 e24 r23; unfold inR at r23
          refine s_blx (lv' := [(0, vA b), (1, vR 0), (2, vR 77), (3, vI x3)]) (st' := [vI (x3 + 2), vA b, vI w22, vR 77]) B281_222_226 rfl ?_
          refine r_aldS (pc' := 227) D281_226 rfl ihr (by omega) ?_
          intro w25 e27 r26; unfold inR at r26
          refine s_blx (lv' := [(0, vA b), (1, vR 0), (2, vR 77), (3, vI x3)]) (st' := [vI (x3 + 3), vA b, vI w25, vI w22, vR 77]) B281_227_231 rfl ?_
          refine r_aldS (pc' := 232) D281_231 rfl ihr (by omega) ?_
          intro w28 e30 r29; unfold inR at r29
          refine r_vI (c := 77) (args := [vI w22, vI w25, vI w28]) (rest := []) (pc' := 235) D281_232 rfl ck_12_virtual_17 TE161 rfl (Nat.le_of_ble_eq_true rfl) ⟨Nat.le_of_ble_eq_true rfl, Nat.le_of_ble_eq_true rfl⟩ sc_77 ⟨rfl, by decide⟩ H17.1 (by omega) (K161 E (by omega) H17 w22 w25 w28 (x3 + 6) (q19) (by omega) (by omega) (by omega)) ?_
          intro v31 M32 q36
          obtain ⟨H33, f34, q35⟩ := q36
          have f37 := f21.tr (f34.up rfl)
          refine s_blx (lv' := [(0, vA b), (1, vR 0), (2, vR 77), (3, vI x3)]) (st' := []) B281_235_236 rfl ?_
          refine r_goto (tgt := 1317) D281_236 rfl ?_
          refine s_blx (lv' := [(3, vI (x3 + 6)), (0, vA b), (1, vR 0), (2, vR 77)]) (st' := []) B281_1317_1320 rfl ?_
          refine r_goto (tgt := 18) D281_1320 rfl ?_
          refine r_loc (lv' := [(0, vA b), (1, vR 0), (2, vR 77), (3, vI (x3 + 6))]) ⟨rfl, rfl, rfl, rfl, trivial⟩ rfl rfl ?_
          exact ih (x3 + 6) M32 H33 f37 (q35) (by omega) (by omega) (by omega) (by omega)
        · show sRn _ _ _ _ _ 239 _ _ _ _
          refine s_blx (lv' := [(0, vA b), (1, vR 0), (2, vR 77), (3, vI x3)]) (st' := [vI (x3 + 1), vA b, vR 0]) B281_239_244 rfl ?_
          refine r_aldS (pc' := 245) D281_244 rfl ihr (by omega) ?_
          intro w38 e40 r39; unfold inR at r39
          refine s_blx (lv' := [(0, vA b), (1, vR 0), (2, vR 77), (3, vI x3)]) (st' := [vI (x3 + 2), vA b, vI w38, vR 0]) B281_245_249 rfl ?_
          refine r_aldS (pc' := 250) D281_249 rfl ihr (by omega) ?_
          intro w41 e43 r42; unfold inR at r42
          refine r_vI (c := 0) (args := [vI w38, vI w41]) (rest := []) (pc' := 253) D281_250 rfl ck_12_virtual_18 TE97 rfl (Nat.le_of_ble_eq_true rfl) ⟨Nat.le_of_ble_eq_true rfl, Nat.le_of_ble_eq_true rfl⟩ sc_0 ⟨rfl, by decide⟩ HN.1 (by omega) (K97 E (by omega) HN w38 w41 x3 (i0) (by omega) (by omega)) ?_
          intro v44 M45 q49
          obtain ⟨H46, f47, q48⟩ := q49
          have f50 := fN.tr (f47.up rfl)
          refine s_blx (lv' := [(0, vA b), (1, vR 0), (2, vR 77), (3, vI x3)]) (st' := [vI (x3 + 1), vA b, vR 77]) B281_253_259 rfl ?_
          refine r_aldS (pc' := 260) D281_259 rfl ihr (by omega) ?_
          intro w51 e53 r52; unfold inR at r52
          refine s_blx (lv' := [(0, vA b), (1, vR 0), (2, vR 77), (3, vI x3)]) (st' := [vI (x3 + 2), vA b, vI w51, vR 77]) B281_260_264 rfl ?_
          refine r_aldS (pc' := 265) D281_264 rfl ihr (by omega) ?_
          intro w54 e56 r55; unfold inR at r55
          refine r_vI (c := 77) (args := [vI w51, vI w54]) (rest := []) (pc' := 268) D281_265 rfl ck_12_virtual_22 TE162 rfl (Nat.le_of_ble_eq_true rfl) ⟨Nat.le_of_ble_eq_true rfl, Nat.le_of_ble_eq_true rfl⟩ sc_77 ⟨rfl, by decide⟩ H46.1 (by omega) (K162 E (by omega) H46 w51 w54 (x3 + 6) (q48) (by omega) (by omega)) ?_
          intro v57 M58 q62
          obtain ⟨H59, f60, q61⟩ := q62
          have f63 := f50.tr (f60.up rfl)
          refine s_blx (lv' := [(0, vA b), (1, vR 0), (2, vR 77), (3, vI x3)]) (st' := []) B281_268_269 rfl ?_
          refine r_goto (tgt := 1317) D281_269 rfl ?_
          refine s_blx (lv' := [(3, vI (x3 + 6)), (0, vA b), (1, vR 0), (2, vR 77)]) (st' := []) B281_1317_1320 rfl ?_
          refine r_goto (tgt := 18) D281_1320 rfl ?_
          refine r_loc (lv' := [(0, vA b), (1, vR 0), (2, vR 77), (3, vI (x3 + 6))]) ⟨rfl, rfl, rfl, rfl, trivial⟩ rfl rfl ?_
          exact ih (x3 + 6) M58 H59 f63 (q61) (by omega) (by omega) (by omega) (by omega)
        · show sRn _ _ _ _ _ 272 _ _ _ _
          refine s_blx (lv' := [(0, vA b), (1, vR 0), (2, vR 77), (3, vI x3)]) (st' := [vI (x3 + 1), vA b, vR 0]) B281_272_277 rfl ?_
          refine r_aldS (pc' := 278) D281_277 rfl ihr (by omega) ?_
          intro w64 e66 r65; unfold inR at r65
          refine r_vI (c := 0) (args := [vI w64]) (rest := []) (pc' := 281) D281_278 rfl ck_12_virtual_23 TE98 rfl (Nat.le_of_ble_eq_true rfl) ⟨Nat.le_of_ble_eq_true rfl, Nat.le_of_ble_eq_true rfl⟩ sc_0 ⟨rfl, by decide⟩ HN.1 (by omega) (K98 E (by omega) HN w64 x3 (i0) (by omega)) ?_
          intro v67 M68 q72
          obtain ⟨H69, f70, q71⟩ := q72
          have f73 := fN.tr (f70.up rfl)
          refine s_blx (lv' := [(0, vA b), (1, vR 0), (2, vR 77), (3, vI x3)]) (st' := [vI (x3 + 1), vA b, vR 77]) B281_281_287 rfl ?_
          refine r_aldS (pc' := 288) D281_287 rfl ihr (by omega) ?_
          intro w74 e76 r75; unfold inR at r75
          refine r_vI (c := 77) (args := [vI w74]) (rest := []) (pc' := 291) D281_288 rfl ck_12_virtual_27 TE163 rfl (Nat.le_of_ble_eq_true rfl) ⟨Nat.le_of_ble_eq_true rfl, Nat.le_of_ble_eq_true rfl⟩ sc_77 ⟨rfl, by decide⟩ H69.1 (by omega) (K163 E (by omega) H69 w74 (x3 + 6) (q71) (by omega)) ?_
          intro v77 M78 q82
          obtain ⟨H79, f80, q81⟩ := q82
          have f83 := f73.tr (f80.up rfl)
          refine s_blx (lv' := [(0, vA b), (1, vR 0), (2, vR 77), (3, vI x3)]) (st' := []) B281_291_292 rfl ?_
          refine r_goto (tgt := 1317) D281_292 rfl ?_
          refine s_blx (lv' := [(3, vI (x3 + 6)), (0, vA b), (1, vR 0), (2, vR 77)]) (st' := []) B281_1317_1320 rfl ?_
          refine r_goto (tgt := 18) D281_1320 rfl ?_
          refine r_loc (lv' := [(0, vA b), (1, vR 0), (2, vR 77), (3, vI (x3 + 6))]) ⟨rfl, rfl, rfl, rfl, trivial⟩ rfl rfl ?_
          exact ih (x3 + 6) M78 H79 f83 (q81) (by omega) (by omega) (by omega) (by omega)
        · show sRn _ _ _ _ _ 295 _ _ _ _
          refine s_blx (lv' := [(0, vA b), (1, vR 0), (2, vR 77), (3, vI x3)]) (st' := [vI (x3 + 1), vA b, vR 0]) B281_295_300 rfl ?_
          refine r_aldS (pc' := 301) D281_300 rfl ihr (by omega) ?_
          intro w84 e86 r85; unfold inR at r85
          refine s_blx (lv' := [(0, vA b), (1, vR 0), (2, vR 77), (3, vI x3)]) (st' := [vI (x3 + 2), vA b, vI w84, vR 0]) B281_301_305 rfl ?_
          refine r_aldS (pc' := 306) D281_305 rfl ihr (by omega) ?_
          intro w87 e89 r88; unfold inR at r88
          refine s_blx (lv' := [(0, vA b), (1, vR 0), (2, vR 77), (3, vI x3)]) (st' := [vI (x3 + 3), vA b, vI w87, vI w84, vR 0]) B281_306_310 rfl ?_
          refine r_aldS (pc' := 311) D281_310 rfl ihr (by omega) ?_
          intro w90 e92 r91; unfold inR at r91
          refine r_vI (c := 0) (args := [vI w84, vI w87, vI w90]) (rest := []) (pc' := 314) D281_311 rfl ck_12_virtual_28 TE99 rfl (Nat.le_of_ble_eq_true rfl) ⟨Nat.le_of_ble_eq_true rfl, Nat.le_of_ble_eq_true rfl⟩ sc_0 ⟨rfl, by decide⟩ HN.1 (by omega) (K99 E (by omega) HN w84 w87 w90 x3 (i0) (by omega) (by omega) (by omega)) ?_
          intro v93 M94 q98
          obtain ⟨H95, f96, q97⟩ := q98
          have f99 := fN.tr (f96.up rfl)
          refine s_blx (lv' := [(0, vA b), (1, vR 0), (2, vR 77), (3, vI x3)]) (st' := [vI (x3 + 1), vA b, vR 77]) B281_314_320 rfl ?_
          refine r_aldS (pc' := 321) D281_320 rfl ihr (by omega) ?_
          intro w100 e102 r101; unfold inR at r101
          refine s_blx (lv' := [(0, vA b), (1, vR 0), (2, vR 77), (3, vI x3)]) (st' := [vI (x3 + 2), vA b, vI w100, vR 77]) B281_321_325 rfl ?_
          refine r_aldS (pc' := 326) D281_325 rfl ihr (by omega) ?_
          intro w103 e105 r104; unfold inR at r104
          refine s_blx (lv' := [(0, vA b), (1, vR 0), (2, vR 77), (3, vI x3)]) (st' := [vI (x3 + 3), vA b, vI w103, vI w100, vR 77]) B281_326_330 rfl ?_
          refine r_aldS (pc' := 331) D281_330 rfl ihr (by omega) ?_
          intro w106 e108 r107; unfold inR at r107
          refine r_vI (c := 77) (args := [vI w100, vI w103, vI w106]) (rest := []) (pc' := 334) D281_331 rfl ck_12_virtual_31 TE164 rfl (Nat.le_of_ble_eq_true rfl) ⟨Nat.le_of_ble_eq_true rfl, Nat.le_of_ble_eq_true rfl⟩ sc_77 ⟨rfl, by decide⟩ H95.1 (by omega) (K164 E (by omega) H95 w100 w103 w106 (x3 + 6) (q97) (by omega) (by omega) (by omega)) ?_
          intro v109 M110 q114
          obtain ⟨H111, f112, q113⟩ := q114
          have f115 := f99.tr (f112.up rfl)
          refine s_blx (lv' := [(0, vA b), (1, vR 0), (2, vR 77), (3, vI x3)]) (st' := []) B281_334_335 rfl ?_
          refine r_goto (tgt := 1317) D281_335 rfl ?_
          refine s_blx (lv' := [(3, vI (x3 + 6)), (0, vA b), (1, vR 0), (2, vR 77)]) (st' := []) B281_1317_1320 rfl ?_
          refine r_goto (tgt := 18) D281_1320 rfl ?_
          refine r_loc (lv' := [(0, vA b), (1, vR 0), (2, vR 77), (3, vI (x3 + 6))]) ⟨rfl, rfl, rfl, rfl, trivial⟩ rfl rfl ?_
          exact ih (x3 + 6) M110 H111 f115 (q113) (by omega) (by omega) (by omega) (by omega)
        · show sRn _ _ _ _ _ 338 _ _ _ _
          refine s_blx (lv' := [(0, vA b), (1, vR 0), (2, vR 77), (3, vI x3)]) (st' := [vI (x3 + 1), vA b, vR 0]) B281_338_343 rfl ?_
          refine r_aldS (pc' := 344) D281_343 rfl ihr (by omega) ?_
          intro w116 e118 r117; unfold inR at r117
          refine r_vI (c := 0) (args := [vI w116]) (rest := []) (pc' := 347) D281_344 rfl ck_12_virtual_32 TE100 rfl (Nat.le_of_ble_eq_true rfl) ⟨Nat.le_of_ble_eq_true rfl, Nat.le_of_ble_eq_true rfl⟩ sc_0 ⟨rfl, by decide⟩ HN.1 (by omega) (K100 E (by omega) HN w116 x3 (i0) (by omega)) ?_
          intro v119 M120 q124
          obtain ⟨H121, f122, q123⟩ := q124
          have f125 := fN.tr (f122.up rfl)
          refine s_blx (lv' := [(0, vA b), (1, vR 0), (2, vR 77), (3, vI x3)]) (st' := [vI (x3 + 1), vA b, vR 77]) B281_347_353 rfl ?_
          refine r_aldS (pc' := 354) D281_353 rfl ihr (by omega) ?_
          intro w126 e128 r127; unfold inR at r127
          refine r_vI (c := 77) (args := [vI w126]) (rest := []) (pc' := 357) D281_354 rfl ck_12_virtual_35 TE165 rfl (Nat.le_of_ble_eq_true rfl) ⟨Nat.le_of_ble_eq_true rfl, Nat.le_of_ble_eq_true rfl⟩ sc_77 ⟨rfl, by decide⟩ H121.1 (by omega) (K165 E (by omega) H121 w126 (x3 + 6) (q123) (by omega)) ?_
          intro v129 M130 q134
          obtain ⟨H131, f132, q133⟩ := q134
          have f135 := f125.tr (f132.up rfl)
          refine s_blx (lv' := [(0, vA b), (1, vR 0), (2, vR 77), (3, vI x3)]) (st' := []) B281_357_358 rfl ?_
          refine r_goto (tgt := 1317) D281_358 rfl ?_
          refine s_blx (lv' := [(3, vI (x3 + 6)), (0, vA b), (1, vR 0), (2, vR 77)]) (st' := []) B281_1317_1320 rfl ?_
          refine r_goto (tgt := 18) D281_1320 rfl ?_
          refine r_loc (lv' := [(0, vA b), (1, vR 0), (2, vR 77), (3, vI (x3 + 6))]) ⟨rfl, rfl, rfl, rfl, trivial⟩ rfl rfl ?_
          exact ih (x3 + 6) M130 H131 f135 (q133) (by omega) (by omega) (by omega) (by omega)
        · show sRn _ _ _ _ _ 361 _ _ _ _
          refine s_blx (lv' := [(0, vA b), (1, vR 0), (2, vR 77), (3, vI x3)]) (st' := [vI (x3 + 1), vA b, vR 0]) B281_361_366 rfl ?_
          refine r_aldS (pc' := 367) D281_366 rfl ihr (by omega) ?_
          intro w136 e138 r137; unfold inR at r137
          refine s_blx (lv' := [(0, vA b), (1, vR 0), (2, vR 77), (3, vI x3)]) (st' := [vI (x3 + 2), vA b, vI w136, vR 0]) B281_367_371 rfl ?_
          refine r_aldS (pc' := 372) D281_371 rfl ihr (by omega) ?_
          intro w139 e141 r140; unfold inR at r140
          refine s_blx (lv' := [(0, vA b), (1, vR 0), (2, vR 77), (3, vI x3)]) (st' := [vI (x3 + 3), vA b, vI w139, vI w136, vR 0]) B281_372_376 rfl ?_
          refine r_aldS (pc' := 377) D281_376 rfl ihr (by omega) ?_
          intro w142 e144 r143; unfold inR at r143
          refine r_vI (c := 0) (args := [vI w136, vI w139, vI w142]) (rest := []) (pc' := 380) D281_377 rfl ck_12_virtual_36 TE101 rfl (Nat.le_of_ble_eq_true rfl) ⟨Nat.le_of_ble_eq_true rfl, Nat.le_of_ble_eq_true rfl⟩ sc_0 ⟨rfl, by decide⟩ HN.1 (by omega) (K101 E (by omega) HN w136 w139 w142 x3 (i0) (by omega) (by omega) (by omega)) ?_
          intro v145 M146 q150
          obtain ⟨H147, f148, q149⟩ := q150
          have f151 := fN.tr (f148.up rfl)
          refine s_blx (lv' := [(0, vA b), (1, vR 0), (2, vR 77), (3, vI x3)]) (st' := [vI (x3 + 1), vA b, vR 77]) B281_380_386 rfl ?_
          refine r_aldS (pc' := 387) D281_386 rfl ihr (by omega) ?_
          intro w152 e154 r153; unfold inR at r153
          refine s_blx (lv' := [(0, vA b), (1, vR 0), (2, vR 77), (3, vI x3)]) (st' := [vI (x3 + 2), vA b, vI w152, vR 77]) B281_387_391 rfl ?_
          refine r_aldS (pc' := 392) D281_391 rfl ihr (by omega) ?_
          intro w155 e157 r156; unfold inR at r156
          refine s_blx (lv' := [(0, vA b), (1, vR 0), (2, vR 77), (3, vI x3)]) (st' := [vI (x3 + 3), vA b, vI w155, vI w152, vR 77]) B281_392_396 rfl ?_
          refine r_aldS (pc' := 397) D281_396 rfl ihr (by omega) ?_
          intro w158 e160 r159; unfold inR at r159
          refine r_vI (c := 77) (args := [vI w152, vI w155, vI w158]) (rest := []) (pc' := 400) D281_397 rfl ck_12_virtual_39 TE167 rfl (Nat.le_of_ble_eq_true rfl) ⟨Nat.le_of_ble_eq_true rfl, Nat.le_of_ble_eq_true rfl⟩ sc_77 ⟨rfl, by decide⟩ H147.1 (by omega) (K167 E (by omega) H147 w152 w155 w158 (x3 + 6) (q149) (by omega) (by omega) (by omega)) ?_
          intro v161 M162 q166
          obtain ⟨H163, f164, q165⟩ := q166
          have f167 := f151.tr (f164.up rfl)
          refine s_blx (lv' := [(0, vA b), (1, vR 0), (2, vR 77), (3, vI x3)]) (st' := []) B281_400_401 rfl ?_
          refine r_goto (tgt := 1317) D281_401 rfl ?_
          refine s_blx (lv' := [(3, vI (x3 + 6)), (0, vA b), (1, vR 0), (2, vR 77)]) (st' := []) B281_1317_1320 rfl ?_
          refine r_goto (tgt := 18) D281_1320 rfl ?_
          refine r_loc (lv' := [(0, vA b), (1, vR 0), (2, vR 77), (3, vI (x3 + 6))]) ⟨rfl, rfl, rfl, rfl, trivial⟩ rfl rfl ?_
          exact ih (x3 + 6) M162 H163 f167 (q165) (by omega) (by omega) (by omega) (by omega)
        · show sRn _ _ _ _ _ 404 _ _ _ _
          refine s_blx (lv' := [(0, vA b), (1, vR 0), (2, vR 77), (3, vI x3)]) (st' := [vI (x3 + 1), vA b, vR 0]) B281_404_409 rfl ?_
          refine r_aldS (pc' := 410) D281_409 rfl ihr (by omega) ?_
          intro w168 e170 r169; unfold inR at r169
          refine s_blx (lv' := [(0, vA b), (1, vR 0), (2, vR 77), (3, vI x3)]) (st' := [vI (x3 + 2), vA b, vI w168, vR 0]) B281_410_414 rfl ?_
          refine r_aldS (pc' := 415) D281_414 rfl ihr (by omega) ?_
          intro w171 e173 r172; unfold inR at r172
          refine s_blx (lv' := [(0, vA b), (1, vR 0), (2, vR 77), (3, vI x3)]) (st' := [vI (x3 + 3), vA b, vI w171, vI w168, vR 0]) B281_415_419 rfl ?_
          refine r_aldS (pc' := 420) D281_419 rfl ihr (by omega) ?_
          intro w174 e176 r175; unfold inR at r175
          refine r_vI (c := 0) (args := [vI w168, vI w171, vI w174]) (rest := []) (pc' := 423) D281_420 rfl ck_12_virtual_40 TE102 rfl (Nat.le_of_ble_eq_true rfl) ⟨Nat.le_of_ble_eq_true rfl, Nat.le_of_ble_eq_true rfl⟩ sc_0 ⟨rfl, by decide⟩ HN.1 (by omega) (K102 E (by omega) HN w168 w171 w174 x3 (i0) (by omega) (by omega) (by omega)) ?_
          intro v177 M178 q182
          obtain ⟨H179, f180, q181⟩ := q182
          have f183 := fN.tr (f180.up rfl)
          refine s_blx (lv' := [(0, vA b), (1, vR 0), (2, vR 77), (3, vI x3)]) (st' := [vI (x3 + 1), vA b, vR 77]) B281_423_429 rfl ?_
          refine r_aldS (pc' := 430) D281_429 rfl ihr (by omega) ?_
          intro w184 e186 r185; unfold inR at r185
          refine s_blx (lv' := [(0, vA b), (1, vR 0), (2, vR 77), (3, vI x3)]) (st' := [vI (x3 + 2), vA b, vI w184, vR 77]) B281_430_434 rfl ?_
          refine r_aldS (pc' := 435) D281_434 rfl ihr (by omega) ?_
          intro w187 e189 r188; unfold inR at r188
          refine s_blx (lv' := [(0, vA b), (1, vR 0), (2, vR 77), (3, vI x3)]) (st' := [vI (x3 + 3), vA b, vI w187, vI w184, vR 77]) B281_435_439 rfl ?_
          refine r_aldS (pc' := 440) D281_439 rfl ihr (by omega) ?_
          intro w190 e192 r191; unfold inR at r191
          refine r_vI (c := 77) (args := [vI w184, vI w187, vI w190]) (rest := []) (pc' := 443) D281_440 rfl ck_12_virtual_43 TE168 rfl (Nat.le_of_ble_eq_true rfl) ⟨Nat.le_of_ble_eq_true rfl, Nat.le_of_ble_eq_true rfl⟩ sc_77 ⟨rfl, by decide⟩ H179.1 (by omega) (K168 E (by omega) H179 w184 w187 w190 (x3 + 6) (q181) (by omega) (by omega) (by omega)) ?_
          intro v193 M194 q198
          obtain ⟨H195, f196, q197⟩ := q198
          have f199 := f183.tr (f196.up rfl)
          refine s_blx (lv' := [(0, vA b), (1, vR 0), (2, vR 77), (3, vI x3)]) (st' := []) B281_443_444 rfl ?_
          refine r_goto (tgt := 1317) D281_444 rfl ?_
          refine s_blx (lv' := [(3, vI (x3 + 6)), (0, vA b), (1, vR 0), (2, vR 77)]) (st' := []) B281_1317_1320 rfl ?_
          refine r_goto (tgt := 18) D281_1320 rfl ?_
          refine r_loc (lv' := [(0, vA b), (1, vR 0), (2, vR 77), (3, vI (x3 + 6))]) ⟨rfl, rfl, rfl, rfl, trivial⟩ rfl rfl ?_
          exact ih (x3 + 6) M194 H195 f199 (q197) (by omega) (by omega) (by omega) (by omega)
        · show sRn _ _ _ _ _ 447 _ _ _ _
          refine s_blx (lv' := [(0, vA b), (1, vR 0), (2, vR 77), (3, vI x3)]) (st' := [vI (x3 + 1), vA b, vR 0]) B281_447_452 rfl ?_
          refine r_aldS (pc' := 453) D281_452 rfl ihr (by omega) ?_
          intro w200 e202 r201; unfold inR at r201
          refine s_blx (lv' := [(0, vA b), (1, vR 0), (2, vR 77), (3, vI x3)]) (st' := [vI (x3 + 2), vA b, vI w200, vR 0]) B281_453_457 rfl ?_
          refine r_aldS (pc' := 458) D281_457 rfl ihr (by omega) ?_
          intro w203 e205 r204; unfold inR at r204
          refine r_vI (c := 0) (args := [vI w200, vI w203]) (rest := []) (pc' := 461) D281_458 rfl ck_12_virtual_44 TE103 rfl (Nat.le_of_ble_eq_true rfl) ⟨Nat.le_of_ble_eq_true rfl, Nat.le_of_ble_eq_true rfl⟩ sc_0 ⟨rfl, by decide⟩ HN.1 (by omega) (K103 E (by omega) HN w200 w203 x3 (i0) (by omega) (by omega)) ?_
          intro v206 M207 q211
          obtain ⟨H208, f209, q210⟩ := q211
          have f212 := fN.tr (f209.up rfl)
          refine s_blx (lv' := [(0, vA b), (1, vR 0), (2, vR 77), (3, vI x3)]) (st' := [vI (x3 + 1), vA b, vR 77]) B281_461_467 rfl ?_
          refine r_aldS (pc' := 468) D281_467 rfl ihr (by omega) ?_
          intro w213 e215 r214; unfold inR at r214
          refine s_blx (lv' := [(0, vA b), (1, vR 0), (2, vR 77), (3, vI x3)]) (st' := [vI (x3 + 2), vA b, vI w213, vR 77]) B281_468_472 rfl ?_
          refine r_aldS (pc' := 473) D281_472 rfl ihr (by omega) ?_
          intro w216 e218 r217; unfold inR at r217
          refine r_vI (c := 77) (args := [vI w213, vI w216]) (rest := []) (pc' := 476) D281_473 rfl ck_12_virtual_47 TE169 rfl (Nat.le_of_ble_eq_true rfl) ⟨Nat.le_of_ble_eq_true rfl, Nat.le_of_ble_eq_true rfl⟩ sc_77 ⟨rfl, by decide⟩ H208.1 (by omega) (K169 E (by omega) H208 w213 w216 (x3 + 6) (q210) (by omega) (by omega)) ?_
          intro v219 M220 q224
          obtain ⟨H221, f222, q223⟩ := q224
          have f225 := f212.tr (f222.up rfl)
          refine s_blx (lv' := [(0, vA b), (1, vR 0), (2, vR 77), (3, vI x3)]) (st' := []) B281_476_477 rfl ?_
          refine r_goto (tgt := 1317) D281_477 rfl ?_
          refine s_blx (lv' := [(3, vI (x3 + 6)), (0, vA b), (1, vR 0), (2, vR 77)]) (st' := []) B281_1317_1320 rfl ?_
          refine r_goto (tgt := 18) D281_1320 rfl ?_
          refine r_loc (lv' := [(0, vA b), (1, vR 0), (2, vR 77), (3, vI (x3 + 6))]) ⟨rfl, rfl, rfl, rfl, trivial⟩ rfl rfl ?_
          exact ih (x3 + 6) M220 H221 f225 (q223) (by omega) (by omega) (by omega) (by omega)
        · show sRn _ _ _ _ _ 480 _ _ _ _
          refine s_blx (lv' := [(0, vA b), (1, vR 0), (2, vR 77), (3, vI x3)]) (st' := [vI (x3 + 1), vA b, vR 0]) B281_480_485 rfl ?_
          refine r_aldS (pc' := 486) D281_485 rfl ihr (by omega) ?_
          intro w226 e228 r227; unfold inR at r227
          refine s_blx (lv' := [(0, vA b), (1, vR 0), (2, vR 77), (3, vI x3)]) (st' := [vI (x3 + 2), vA b, vI w226, vR 0]) B281_486_490 rfl ?_
          refine r_aldS (pc' := 491) D281_490 rfl ihr (by omega) ?_
          intro w229 e231 r230; unfold inR at r230
          refine r_vI (c := 0) (args := [vI w226, vI w229]) (rest := []) (pc' := 494) D281_491 rfl ck_12_virtual_48 TE104 rfl (Nat.le_of_ble_eq_true rfl) ⟨Nat.le_of_ble_eq_true rfl, Nat.le_of_ble_eq_true rfl⟩ sc_0 ⟨rfl, by decide⟩ HN.1 (by omega) (K104 E (by omega) HN w226 w229 x3 (i0) (by omega) (by omega)) ?_
          intro v232 M233 q237
          obtain ⟨H234, f235, q236⟩ := q237
          have f238 := fN.tr (f235.up rfl)
          refine s_blx (lv' := [(0, vA b), (1, vR 0), (2, vR 77), (3, vI x3)]) (st' := [vI (x3 + 1), vA b, vR 77]) B281_494_500 rfl ?_
          refine r_aldS (pc' := 501) D281_500 rfl ihr (by omega) ?_
          intro w239 e241 r240; unfold inR at r240
          refine s_blx (lv' := [(0, vA b), (1, vR 0), (2, vR 77), (3, vI x3)]) (st' := [vI (x3 + 2), vA b, vI w239, vR 77]) B281_501_505 rfl ?_
          refine r_aldS (pc' := 506) D281_505 rfl ihr (by omega) ?_
          intro w242 e244 r243; unfold inR at r243
          refine r_vI (c := 77) (args := [vI w239, vI w242]) (rest := []) (pc' := 509) D281_506 rfl ck_12_virtual_51 TE177 rfl (Nat.le_of_ble_eq_true rfl) ⟨Nat.le_of_ble_eq_true rfl, Nat.le_of_ble_eq_true rfl⟩ sc_77 ⟨rfl, by decide⟩ H234.1 (by omega) (K177 E (by omega) H234 w239 w242 (x3 + 6) (q236) (by omega) (by omega)) ?_
          intro v245 M246 q250
          obtain ⟨H247, f248, q249⟩ := q250
          have f251 := f238.tr (f248.up rfl)
          refine s_blx (lv' := [(0, vA b), (1, vR 0), (2, vR 77), (3, vI x3)]) (st' := []) B281_509_510 rfl ?_
          refine r_goto (tgt := 1317) D281_510 rfl ?_
          refine s_blx (lv' := [(3, vI (x3 + 6)), (0, vA b), (1, vR 0), (2, vR 77)]) (st' := []) B281_1317_1320 rfl ?_
          refine r_goto (tgt := 18) D281_1320 rfl ?_
          refine r_loc (lv' := [(0, vA b), (1, vR 0), (2, vR 77), (3, vI (x3 + 6))]) ⟨rfl, rfl, rfl, rfl, trivial⟩ rfl rfl ?_
          exact ih (x3 + 6) M246 H247 f251 (q249) (by omega) (by omega) (by omega) (by omega)
        · show sRn _ _ _ _ _ 513 _ _ _ _
          refine s_blx (lv' := [(0, vA b), (1, vR 0), (2, vR 77), (3, vI x3)]) (st' := [vI (x3 + 1), vA b, vR 0]) B281_513_518 rfl ?_
          refine r_aldS (pc' := 519) D281_518 rfl ihr (by omega) ?_
          intro w252 e254 r253; unfold inR at r253
          refine s_blx (lv' := [(0, vA b), (1, vR 0), (2, vR 77), (3, vI x3)]) (st' := [vI (x3 + 2), vA b, vI w252, vR 0]) B281_519_523 rfl ?_
          refine r_aldS (pc' := 524) D281_523 rfl ihr (by omega) ?_
          intro w255 e257 r256; unfold inR at r256
          refine s_blx (lv' := [(0, vA b), (1, vR 0), (2, vR 77), (3, vI x3)]) (st' := [vI (x3 + 3), vA b, vI w255, vI w252, vR 0]) B281_524_528 rfl ?_
          refine r_aldS (pc' := 529) D281_528 rfl ihr (by omega) ?_
          intro w258 e260 r259; unfold inR at r259
          refine s_blx (lv' := [(0, vA b), (1, vR 0), (2, vR 77), (3, vI x3)]) (st' := [vI (x3 + 4), vA b, vI w258, vI w255, vI w252, vR 0]) B281_529_533 rfl ?_
          refine r_aldS (pc' := 534) D281_533 rfl ihr (by omega) ?_
          intro w261 e263 r262; unfold inR at r262
          refine s_blx (lv' := [(0, vA b), (1, vR 0), (2, vR 77), (3, vI x3)]) (st' := [vI (x3 + 5), vA b, vI w261, vI w258, vI w255, vI w252, vR 0]) B281_534_538 rfl ?_
          refine r_aldS (pc' := 539) D281_538 rfl ihr (by omega) ?_
          intro w264 e266 r265; unfold inR at r265
          refine r_vI (c := 0) (args := [vI w252, vI w255, vI w258, vI w261, vI w264]) (rest := []) (pc' := 542) D281_539 rfl ck_12_virtual_52 TE105 rfl (Nat.le_of_ble_eq_true rfl) ⟨Nat.le_of_ble_eq_true rfl, Nat.le_of_ble_eq_true rfl⟩ sc_0 ⟨rfl, by decide⟩ HN.1 (by omega) (K105 E (by omega) HN w252 w255 w258 w261 w264 x3 (i0) (by omega) (by omega) (by omega) (by omega) (by omega)) ?_
          intro v267 M268 q272
          obtain ⟨H269, f270, q271⟩ := q272
          have f273 := fN.tr (f270.up rfl)
          refine s_blx (lv' := [(0, vA b), (1, vR 0), (2, vR 77), (3, vI x3)]) (st' := [vI (x3 + 1), vA b, vR 77]) B281_542_548 rfl ?_
          refine r_aldS (pc' := 549) D281_548 rfl ihr (by omega) ?_
          intro w274 e276 r275; unfold inR at r275
          refine s_blx (lv' := [(0, vA b), (1, vR 0), (2, vR 77), (3, vI x3)]) (st' := [vI (x3 + 2), vA b, vI w274, vR 77]) B281_549_553 rfl ?_
          refine r_aldS (pc' := 554) D281_553 rfl ihr (by omega) ?_
          intro w277 e279 r278; unfold inR at r278
          refine s_blx (lv' := [(0, vA b), (1, vR 0), (2, vR 77), (3, vI x3)]) (st' := [vI (x3 + 3), vA b, vI w277, vI w274, vR 77]) B281_554_558 rfl ?_
          refine r_aldS (pc' := 559) D281_558 rfl ihr (by omega) ?_
          intro w280 e282 r281; unfold inR at r281
          refine s_blx (lv' := [(0, vA b), (1, vR 0), (2, vR 77), (3, vI x3)]) (st' := [vI (x3 + 4), vA b, vI w280, vI w277, vI w274, vR 77]) B281_559_563 rfl ?_
          refine r_aldS (pc' := 564) D281_563 rfl ihr (by omega) ?_
          intro w283 e285 r284; unfold inR at r284
          refine s_blx (lv' := [(0, vA b), (1, vR 0), (2, vR 77), (3, vI x3)]) (st' := [vI (x3 + 5), vA b, vI w283, vI w280, vI w277, vI w274, vR 77]) B281_564_568 rfl ?_
          refine r_aldS (pc' := 569) D281_568 rfl ihr (by omega) ?_
          intro w286 e288 r287; unfold inR at r287
          refine r_vI (c := 77) (args := [vI w274, vI w277, vI w280, vI w283, vI w286]) (rest := []) (pc' := 572) D281_569 rfl ck_12_virtual_56 TE179 rfl (Nat.le_of_ble_eq_true rfl) ⟨Nat.le_of_ble_eq_true rfl, Nat.le_of_ble_eq_true rfl⟩ sc_77 ⟨rfl, by decide⟩ H269.1 (by omega) (K179 E (by omega) H269 w274 w277 w280 w283 w286 (x3 + 6) (q271) (by omega) (by omega) (by omega) (by omega) (by omega)) ?_
          intro v289 M290 q294
          obtain ⟨H291, f292, q293⟩ := q294
          have f295 := f273.tr (f292.up rfl)
          refine s_blx (lv' := [(0, vA b), (1, vR 0), (2, vR 77), (3, vI x3)]) (st' := []) B281_572_573 rfl ?_
          refine r_goto (tgt := 1317) D281_573 rfl ?_
          refine s_blx (lv' := [(3, vI (x3 + 6)), (0, vA b), (1, vR 0), (2, vR 77)]) (st' := []) B281_1317_1320 rfl ?_
          refine r_goto (tgt := 18) D281_1320 rfl ?_
          refine r_loc (lv' := [(0, vA b), (1, vR 0), (2, vR 77), (3, vI (x3 + 6))]) ⟨rfl, rfl, rfl, rfl, trivial⟩ rfl rfl ?_
          exact ih (x3 + 6) M290 H291 f295 (q293) (by omega) (by omega) (by omega) (by omega)
        · show sRn _ _ _ _ _ 576 _ _ _ _
          refine s_blx (lv' := [(0, vA b), (1, vR 0), (2, vR 77), (3, vI x3)]) (st' := [vI (x3 + 1), vA b, vR 0]) B281_576_581 rfl ?_
          refine r_aldS (pc' := 582) D281_581 rfl ihr (by omega) ?_
          intro w296 e298 r297; unfold inR at r297
          refine s_blx (lv' := [(0, vA b), (1, vR 0), (2, vR 77), (3, vI x3)]) (st' := [vI (x3 + 2), vA b, vI w296, vR 0]) B281_582_586 rfl ?_
          refine r_aldS (pc' := 587) D281_586 rfl ihr (by omega) ?_
          intro w299 e301 r300; unfold inR at r300
          refine s_blx (lv' := [(0, vA b), (1, vR 0), (2, vR 77), (3, vI x3)]) (st' := [vI (x3 + 3), vA b, vI w299, vI w296, vR 0]) B281_587_591 rfl ?_
          refine r_aldS (pc' := 592) D281_591 rfl ihr (by omega) ?_
          intro w302 e304 r303; unfold inR at r303
          refine r_vI (c := 0) (args := [vI w296, vI w299, vI w302]) (rest := []) (pc' := 595) D281_592 rfl ck_12_virtual_57 TE106 rfl (Nat.le_of_ble_eq_true rfl) ⟨Nat.le_of_ble_eq_true rfl, Nat.le_of_ble_eq_true rfl⟩ sc_0 ⟨rfl, by decide⟩ HN.1 (by omega) (K106 E (by omega) HN w296 w299 w302 x3 (i0) (by omega) (by omega) (by omega)) ?_
          intro v305 M306 q310
          obtain ⟨H307, f308, q309⟩ := q310
          have f311 := fN.tr (f308.up rfl)
          refine s_blx (lv' := [(0, vA b), (1, vR 0), (2, vR 77), (3, vI x3)]) (st' := [vI (x3 + 1), vA b, vR 77]) B281_595_601 rfl ?_
          refine r_aldS (pc' := 602) D281_601 rfl ihr (by omega) ?_
          intro w312 e314 r313; unfold inR at r313
          refine s_blx (lv' := [(0, vA b), (1, vR 0), (2, vR 77), (3, vI x3)]) (st' := [vI (x3 + 2), vA b, vI w312, vR 77]) B281_602_606 rfl ?_
          refine r_aldS (pc' := 607) D281_606 rfl ihr (by omega) ?_
          intro w315 e317 r316; unfold inR at r316
          refine s_blx (lv' := [(0, vA b), (1, vR 0), (2, vR 77), (3, vI x3)]) (st' := [vI (x3 + 3), vA b, vI w315, vI w312, vR 77]) B281_607_611 rfl ?_
          refine r_aldS (pc' := 612) D281_611 rfl ihr (by omega) ?_
          intro w318 e320 r319; unfold inR at r319
          refine r_vI (c := 77) (args := [vI w312, vI w315, vI w318]) (rest := []) (pc' := 615) D281_612 rfl ck_12_virtual_60 TE181 rfl (Nat.le_of_ble_eq_true rfl) ⟨Nat.le_of_ble_eq_true rfl, Nat.le_of_ble_eq_true rfl⟩ sc_77 ⟨rfl, by decide⟩ H307.1 (by omega) (K181 E (by omega) H307 w312 w315 w318 (x3 + 6) (q309) (by omega) (by omega) (by omega)) ?_
          intro v321 M322 q326
          obtain ⟨H323, f324, q325⟩ := q326
          have f327 := f311.tr (f324.up rfl)
          refine s_blx (lv' := [(0, vA b), (1, vR 0), (2, vR 77), (3, vI x3)]) (st' := []) B281_615_616 rfl ?_
          refine r_goto (tgt := 1317) D281_616 rfl ?_
          refine s_blx (lv' := [(3, vI (x3 + 6)), (0, vA b), (1, vR 0), (2, vR 77)]) (st' := []) B281_1317_1320 rfl ?_
          refine r_goto (tgt := 18) D281_1320 rfl ?_
          refine r_loc (lv' := [(0, vA b), (1, vR 0), (2, vR 77), (3, vI (x3 + 6))]) ⟨rfl, rfl, rfl, rfl, trivial⟩ rfl rfl ?_
          exact ih (x3 + 6) M322 H323 f327 (q325) (by omega) (by omega) (by omega) (by omega)
        · show sRn _ _ _ _ _ 619 _ _ _ _
          refine s_blx (lv' := [(0, vA b), (1, vR 0), (2, vR 77), (3, vI x3)]) (st' := [vR 0]) B281_619_620 rfl ?_
          refine r_vL (c := 0) (args := []) (rest := []) (pc' := 623) D281_620 rfl ck_12_virtual_61 TE107 rfl (Nat.le_of_ble_eq_true rfl) ⟨Nat.le_of_ble_eq_true rfl, Nat.le_of_ble_eq_true rfl⟩ sc_0 ⟨rfl, by decide⟩ HN.1 (by omega) (K107 E (by omega) HN x3 (i0)) ?_
          intro v328 M329 q333
          obtain ⟨H330, f331, q332⟩ := q333
          have f334 := fN.tr (f331.up rfl)
          refine s_blx (lv' := [(0, vA b), (1, vR 0), (2, vR 77), (3, vI x3)]) (st' := [vR 77]) B281_623_625 rfl ?_
          refine r_vL (c := 77) (args := []) (rest := []) (pc' := 628) D281_625 rfl ck_12_virtual_65 TE202 rfl (Nat.le_of_ble_eq_true rfl) ⟨Nat.le_of_ble_eq_true rfl, Nat.le_of_ble_eq_true rfl⟩ sc_77 ⟨rfl, by decide⟩ H330.1 (by omega) (K202 E (by omega) H330 (x3 + 6) (q332)) ?_
          intro v335 M336 q340
          obtain ⟨H337, f338, q339⟩ := q340
          have f341 := f334.tr (f338.up rfl)
          refine s_blx (lv' := [(0, vA b), (1, vR 0), (2, vR 77), (3, vI x3)]) (st' := []) B281_628_629 rfl ?_
          refine r_goto (tgt := 1317) D281_629 rfl ?_
          refine s_blx (lv' := [(3, vI (x3 + 6)), (0, vA b), (1, vR 0), (2, vR 77)]) (st' := []) B281_1317_1320 rfl ?_
          refine r_goto (tgt := 18) D281_1320 rfl ?_
          refine r_loc (lv' := [(0, vA b), (1, vR 0), (2, vR 77), (3, vI (x3 + 6))]) ⟨rfl, rfl, rfl, rfl, trivial⟩ rfl rfl ?_
          exact ih (x3 + 6) M336 H337 f341 (q339) (by omega) (by omega) (by omega) (by omega)
        · show sRn _ _ _ _ _ 632 _ _ _ _
          refine s_blx (lv' := [(0, vA b), (1, vR 0), (2, vR 77), (3, vI x3)]) (st' := [vI (x3 + 1), vA b, vR 0]) B281_632_637 rfl ?_
          refine r_aldS (pc' := 638) D281_637 rfl ihr (by omega) ?_
          intro w342 e344 r343; unfold inR at r343
          refine s_blx (lv' := [(0, vA b), (1, vR 0), (2, vR 77), (3, vI x3)]) (st' := [vI (x3 + 2), vA b, vI w342, vR 0]) B281_638_642 rfl ?_
          refine r_aldS (pc' := 643) D281_642 rfl ihr (by omega) ?_
          intro w345 e347 r346; unfold inR at r346
          refine s_blx (lv' := [(0, vA b), (1, vR 0), (2, vR 77), (3, vI x3)]) (st' := [vI (x3 + 3), vA b, vI w345, vI w342, vR 0]) B281_643_647 rfl ?_
          refine r_aldS (pc' := 648) D281_647 rfl ihr (by omega) ?_
          intro w348 e350 r349; unfold inR at r349
          refine r_vI (c := 0) (args := [vI w342, vI w345, vI w348]) (rest := []) (pc' := 651) D281_648 rfl ck_12_virtual_66 TE108 rfl (Nat.le_of_ble_eq_true rfl) ⟨Nat.le_of_ble_eq_true rfl, Nat.le_of_ble_eq_true rfl⟩ sc_0 ⟨rfl, by decide⟩ HN.1 (by omega) (K108 E (by omega) HN w342 w345 w348 x3 (i0) (by omega) (by omega) (by omega)) ?_
          intro v351 M352 q356
          obtain ⟨H353, f354, q355⟩ := q356
          have f357 := fN.tr (f354.up rfl)
          refine s_blx (lv' := [(0, vA b), (1, vR 0), (2, vR 77), (3, vI x3)]) (st' := [vI (x3 + 1), vA b, vR 77]) B281_651_657 rfl ?_
          refine r_aldS (pc' := 658) D281_657 rfl ihr (by omega) ?_
          intro w358 e360 r359; unfold inR at r359
          refine s_blx (lv' := [(0, vA b), (1, vR 0), (2, vR 77), (3, vI x3)]) (st' := [vI (x3 + 2), vA b, vI w358, vR 77]) B281_658_662 rfl ?_
          refine r_aldS (pc' := 663) D281_662 rfl ihr (by omega) ?_
          intro w361 e363 r362; unfold inR at r362
          refine s_blx (lv' := [(0, vA b), (1, vR 0), (2, vR 77), (3, vI x3)]) (st' := [vI (x3 + 3), vA b, vI w361, vI w358, vR 77]) B281_663_667 rfl ?_
          refine r_aldS (pc' := 668) D281_667 rfl ihr (by omega) ?_
          intro w364 e366 r365; unfold inR at r365
          refine r_vI (c := 77) (args := [vI w358, vI w361, vI w364]) (rest := []) (pc' := 671) D281_668 rfl ck_12_virtual_69 TE204 rfl (Nat.le_of_ble_eq_true rfl) ⟨Nat.le_of_ble_eq_true rfl, Nat.le_of_ble_eq_true rfl⟩ sc_77 ⟨rfl, by decide⟩ H353.1 (by omega) (K204 E (by omega) H353 w358 w361 w364 (x3 + 6) (q355) (by omega) (by omega) (by omega)) ?_
          intro v367 M368 q372
          obtain ⟨H369, f370, q371⟩ := q372
          have f373 := f357.tr (f370.up rfl)
          refine s_blx (lv' := [(0, vA b), (1, vR 0), (2, vR 77), (3, vI x3)]) (st' := []) B281_671_672 rfl ?_
          refine r_goto (tgt := 1317) D281_672 rfl ?_
          refine s_blx (lv' := [(3, vI (x3 + 6)), (0, vA b), (1, vR 0), (2, vR 77)]) (st' := []) B281_1317_1320 rfl ?_
          refine r_goto (tgt := 18) D281_1320 rfl ?_
          refine r_loc (lv' := [(0, vA b), (1, vR 0), (2, vR 77), (3, vI (x3 + 6))]) ⟨rfl, rfl, rfl, rfl, trivial⟩ rfl rfl ?_
          exact ih (x3 + 6) M368 H369 f373 (q371) (by omega) (by omega) (by omega) (by omega)
        · show sRn _ _ _ _ _ 675 _ _ _ _
          refine s_blx (lv' := [(0, vA b), (1, vR 0), (2, vR 77), (3, vI x3)]) (st' := [vI (x3 + 1), vA b, vR 0]) B281_675_680 rfl ?_
          refine r_aldS (pc' := 681) D281_680 rfl ihr (by omega) ?_
          intro w374 e376 r375; unfold inR at r375
          refine s_blx (lv' := [(0, vA b), (1, vR 0), (2, vR 77), (3, vI x3)]) (st' := [vI (x3 + 2), vA b, vI w374, vR 0]) B281_681_685 rfl ?_
          refine r_aldS (pc' := 686) D281_685 rfl ihr (by omega) ?_
          intro w377 e379 r378; unfold inR at r378
          refine r_vI (c := 0) (args := [vI w374, vI w377]) (rest := []) (pc' := 689) D281_686 rfl ck_12_virtual_70 TE109 rfl (Nat.le_of_ble_eq_true rfl) ⟨Nat.le_of_ble_eq_true rfl, Nat.le_of_ble_eq_true rfl⟩ sc_0 ⟨rfl, by decide⟩ HN.1 (by omega) (K109 E (by omega) HN w374 w377 x3 (i0) (by omega) (by omega)) ?_
          intro v380 M381 q385
          obtain ⟨H382, f383, q384⟩ := q385
          have f386 := fN.tr (f383.up rfl)
          refine s_blx (lv' := [(0, vA b), (1, vR 0), (2, vR 77), (3, vI x3)]) (st' := [vI (x3 + 1), vA b, vR 77]) B281_689_695 rfl ?_
          refine r_aldS (pc' := 696) D281_695 rfl ihr (by omega) ?_
          intro w387 e389 r388; unfold inR at r388
          refine s_blx (lv' := [(0, vA b), (1, vR 0), (2, vR 77), (3, vI x3)]) (st' := [vI (x3 + 2), vA b, vI w387, vR 77]) B281_696_700 rfl ?_
          refine r_aldS (pc' := 701) D281_700 rfl ihr (by omega) ?_
          intro w390 e392 r391; unfold inR at r391
          refine r_vI (c := 77) (args := [vI w387, vI w390]) (rest := []) (pc' := 704) D281_701 rfl ck_12_virtual_73 TE205 rfl (Nat.le_of_ble_eq_true rfl) ⟨Nat.le_of_ble_eq_true rfl, Nat.le_of_ble_eq_true rfl⟩ sc_77 ⟨rfl, by decide⟩ H382.1 (by omega) (K205 E (by omega) H382 w387 w390 (x3 + 6) (q384) (by omega) (by omega)) ?_
          intro v393 M394 q398
          obtain ⟨H395, f396, q397⟩ := q398
          have f399 := f386.tr (f396.up rfl)
          refine s_blx (lv' := [(0, vA b), (1, vR 0), (2, vR 77), (3, vI x3)]) (st' := []) B281_704_705 rfl ?_
          refine r_goto (tgt := 1317) D281_705 rfl ?_
          refine s_blx (lv' := [(3, vI (x3 + 6)), (0, vA b), (1, vR 0), (2, vR 77)]) (st' := []) B281_1317_1320 rfl ?_
          refine r_goto (tgt := 18) D281_1320 rfl ?_
          refine r_loc (lv' := [(0, vA b), (1, vR 0), (2, vR 77), (3, vI (x3 + 6))]) ⟨rfl, rfl, rfl, rfl, trivial⟩ rfl rfl ?_
          exact ih (x3 + 6) M394 H395 f399 (q397) (by omega) (by omega) (by omega) (by omega)
        · show sRn _ _ _ _ _ 708 _ _ _ _
          refine s_blx (lv' := [(0, vA b), (1, vR 0), (2, vR 77), (3, vI x3)]) (st' := [vI (x3 + 1), vA b, vR 0]) B281_708_713 rfl ?_
          refine r_aldS (pc' := 714) D281_713 rfl ihr (by omega) ?_
          intro w400 e402 r401; unfold inR at r401
          refine s_blx (lv' := [(0, vA b), (1, vR 0), (2, vR 77), (3, vI x3)]) (st' := [vI (x3 + 2), vA b, vI w400, vR 0]) B281_714_718 rfl ?_
          refine r_aldS (pc' := 719) D281_718 rfl ihr (by omega) ?_
          intro w403 e405 r404; unfold inR at r404
          refine s_blx (lv' := [(0, vA b), (1, vR 0), (2, vR 77), (3, vI x3)]) (st' := [vI (x3 + 3), vA b, vI w403, vI w400, vR 0]) B281_719_723 rfl ?_
          refine r_aldS (pc' := 724) D281_723 rfl ihr (by omega) ?_
          intro w406 e408 r407; unfold inR at r407
          refine s_blx (lv' := [(0, vA b), (1, vR 0), (2, vR 77), (3, vI x3)]) (st' := [vI (x3 + 4), vA b, vI w406, vI w403, vI w400, vR 0]) B281_724_728 rfl ?_
          refine r_aldS (pc' := 729) D281_728 rfl ihr (by omega) ?_
          intro w409 e411 r410; unfold inR at r410
          refine s_blx (lv' := [(0, vA b), (1, vR 0), (2, vR 77), (3, vI x3)]) (st' := [vI (x3 + 5), vA b, vI w409, vI w406, vI w403, vI w400, vR 0]) B281_729_733 rfl ?_
          refine r_aldS (pc' := 734) D281_733 rfl ihr (by omega) ?_
          intro w412 e414 r413; unfold inR at r413
          refine r_vI (c := 0) (args := [vI w400, vI w403, vI w406, vI w409, vI w412]) (rest := []) (pc' := 737) D281_734 rfl ck_12_virtual_74 TE110 rfl (Nat.le_of_ble_eq_true rfl) ⟨Nat.le_of_ble_eq_true rfl, Nat.le_of_ble_eq_true rfl⟩ sc_0 ⟨rfl, by decide⟩ HN.1 (by omega) (K110 E (by omega) HN w400 w403 w406 w409 w412 x3 (i0) (by omega) (by omega) (by omega) (by omega) (by omega)) ?_
          intro v415 M416 q420
          obtain ⟨H417, f418, q419⟩ := q420
          have f421 := fN.tr (f418.up rfl)
          refine s_blx (lv' := [(0, vA b), (1, vR 0), (2, vR 77), (3, vI x3)]) (st' := [vI (x3 + 1), vA b, vR 77]) B281_737_743 rfl ?_
          refine r_aldS (pc' := 744) D281_743 rfl ihr (by omega) ?_
          intro w422 e424 r423; unfold inR at r423
          refine s_blx (lv' := [(0, vA b), (1, vR 0), (2, vR 77), (3, vI x3)]) (st' := [vI (x3 + 2), vA b, vI w422, vR 77]) B281_744_748 rfl ?_
          refine r_aldS (pc' := 749) D281_748 rfl ihr (by omega) ?_
          intro w425 e427 r426; unfold inR at r426
          refine s_blx (lv' := [(0, vA b), (1, vR 0), (2, vR 77), (3, vI x3)]) (st' := [vI (x3 + 3), vA b, vI w425, vI w422, vR 77]) B281_749_753 rfl ?_
          refine r_aldS (pc' := 754) D281_753 rfl ihr (by omega) ?_
          intro w428 e430 r429; unfold inR at r429
          refine s_blx (lv' := [(0, vA b), (1, vR 0), (2, vR 77), (3, vI x3)]) (st' := [vI (x3 + 4), vA b, vI w428, vI w425, vI w422, vR 77]) B281_754_758 rfl ?_
          refine r_aldS (pc' := 759) D281_758 rfl ihr (by omega) ?_
          intro w431 e433 r432; unfold inR at r432
          refine s_blx (lv' := [(0, vA b), (1, vR 0), (2, vR 77), (3, vI x3)]) (st' := [vI (x3 + 5), vA b, vI w431, vI w428, vI w425, vI w422, vR 77]) B281_759_763 rfl ?_
          refine r_aldS (pc' := 764) D281_763 rfl ihr (by omega) ?_
          intro w434 e436 r435; unfold inR at r435
          refine r_vI (c := 77) (args := [vI w422, vI w425, vI w428, vI w431, vI w434]) (rest := []) (pc' := 767) D281_764 rfl ck_12_virtual_77 TE210 rfl (Nat.le_of_ble_eq_true rfl) ⟨Nat.le_of_ble_eq_true rfl, Nat.le_of_ble_eq_true rfl⟩ sc_77 ⟨rfl, by decide⟩ H417.1 (by omega) (K210 E (by omega) H417 w422 w425 w428 w431 w434 (x3 + 6) (q419) (by omega) (by omega) (by omega) (by omega) (by omega)) ?_
          intro v437 M438 q442
          obtain ⟨H439, f440, q441⟩ := q442
          have f443 := f421.tr (f440.up rfl)
          refine s_blx (lv' := [(0, vA b), (1, vR 0), (2, vR 77), (3, vI x3)]) (st' := []) B281_767_768 rfl ?_
          refine r_goto (tgt := 1317) D281_768 rfl ?_
          refine s_blx (lv' := [(3, vI (x3 + 6)), (0, vA b), (1, vR 0), (2, vR 77)]) (st' := []) B281_1317_1320 rfl ?_
          refine r_goto (tgt := 18) D281_1320 rfl ?_
          refine r_loc (lv' := [(0, vA b), (1, vR 0), (2, vR 77), (3, vI (x3 + 6))]) ⟨rfl, rfl, rfl, rfl, trivial⟩ rfl rfl ?_
          exact ih (x3 + 6) M438 H439 f443 (q441) (by omega) (by omega) (by omega) (by omega)
        · show sRn _ _ _ _ _ 771 _ _ _ _
          refine s_blx (lv' := [(0, vA b), (1, vR 0), (2, vR 77), (3, vI x3)]) (st' := [vI (x3 + 1), vA b, vR 0]) B281_771_776 rfl ?_
          refine r_aldS (pc' := 777) D281_776 rfl ihr (by omega) ?_
          intro w444 e446 r445; unfold inR at r445
          refine r_vI (c := 0) (args := [vI w444]) (rest := []) (pc' := 780) D281_777 rfl ck_12_virtual_78 TE111 rfl (Nat.le_of_ble_eq_true rfl) ⟨Nat.le_of_ble_eq_true rfl, Nat.le_of_ble_eq_true rfl⟩ sc_0 ⟨rfl, by decide⟩ HN.1 (by omega) (K111 E (by omega) HN w444 x3 (i0) (by omega)) ?_
          intro v447 M448 q452
          obtain ⟨H449, f450, q451⟩ := q452
          have f453 := fN.tr (f450.up rfl)
          refine s_blx (lv' := [(0, vA b), (1, vR 0), (2, vR 77), (3, vI x3)]) (st' := [vI (x3 + 1), vA b, vR 77]) B281_780_786 rfl ?_
          refine r_aldS (pc' := 787) D281_786 rfl ihr (by omega) ?_
          intro w454 e456 r455; unfold inR at r455
          refine r_vI (c := 77) (args := [vI w454]) (rest := []) (pc' := 790) D281_787 rfl ck_12_virtual_81 TE211 rfl (Nat.le_of_ble_eq_true rfl) ⟨Nat.le_of_ble_eq_true rfl, Nat.le_of_ble_eq_true rfl⟩ sc_77 ⟨rfl, by decide⟩ H449.1 (by omega) (K211 E (by omega) H449 w454 (x3 + 6) (q451) (by omega)) ?_
          intro v457 M458 q462
          obtain ⟨H459, f460, q461⟩ := q462
          have f463 := f453.tr (f460.up rfl)
          refine s_blx (lv' := [(0, vA b), (1, vR 0), (2, vR 77), (3, vI x3)]) (st' := []) B281_790_791 rfl ?_
          refine r_goto (tgt := 1317) D281_791 rfl ?_
          refine s_blx (lv' := [(3, vI (x3 + 6)), (0, vA b), (1, vR 0), (2, vR 77)]) (st' := []) B281_1317_1320 rfl ?_
          refine r_goto (tgt := 18) D281_1320 rfl ?_
          refine r_loc (lv' := [(0, vA b), (1, vR 0), (2, vR 77), (3, vI (x3 + 6))]) ⟨rfl, rfl, rfl, rfl, trivial⟩ rfl rfl ?_
          exact ih (x3 + 6) M458 H459 f463 (q461) (by omega) (by omega) (by omega) (by omega)
        · show sRn _ _ _ _ _ 794 _ _ _ _
          refine s_blx (lv' := [(0, vA b), (1, vR 0), (2, vR 77), (3, vI x3)]) (st' := [vR 0]) B281_794_795 rfl ?_
          refine r_vI (c := 0) (args := []) (rest := []) (pc' := 798) D281_795 rfl ck_12_virtual_82 TE112 rfl (Nat.le_of_ble_eq_true rfl) ⟨Nat.le_of_ble_eq_true rfl, Nat.le_of_ble_eq_true rfl⟩ sc_0 ⟨rfl, by decide⟩ HN.1 (by omega) (K112 E (by omega) HN x3 (i0)) ?_
          intro v464 M465 q469
          obtain ⟨H466, f467, q468⟩ := q469
          have f470 := fN.tr (f467.up rfl)
          refine s_blx (lv' := [(0, vA b), (1, vR 0), (2, vR 77), (3, vI x3)]) (st' := [vR 77]) B281_798_800 rfl ?_
          refine r_vI (c := 77) (args := []) (rest := []) (pc' := 803) D281_800 rfl ck_12_virtual_86 TE230 rfl (Nat.le_of_ble_eq_true rfl) ⟨Nat.le_of_ble_eq_true rfl, Nat.le_of_ble_eq_true rfl⟩ sc_77 ⟨rfl, by decide⟩ H466.1 (by omega) (K230 E (by omega) H466 (x3 + 6) (q468)) ?_
          intro v471 M472 q476
          obtain ⟨H473, f474, q475⟩ := q476
          have f477 := f470.tr (f474.up rfl)
          refine s_blx (lv' := [(0, vA b), (1, vR 0), (2, vR 77), (3, vI x3)]) (st' := []) B281_803_804 rfl ?_
          refine r_goto (tgt := 1317) D281_804 rfl ?_
          refine s_blx (lv' := [(3, vI (x3 + 6)), (0, vA b), (1, vR 0), (2, vR 77)]) (st' := []) B281_1317_1320 rfl ?_
          refine r_goto (tgt := 18) D281_1320 rfl ?_
          refine r_loc (lv' := [(0, vA b), (1, vR 0), (2, vR 77), (3, vI (x3 + 6))]) ⟨rfl, rfl, rfl, rfl, trivial⟩ rfl rfl ?_
          exact ih (x3 + 6) M472 H473 f477 (q475) (by omega) (by omega) (by omega) (by omega)
        · show sRn _ _ _ _ _ 807 _ _ _ _
          refine s_blx (lv' := [(0, vA b), (1, vR 0), (2, vR 77), (3, vI x3)]) (st' := [vR 0]) B281_807_808 rfl ?_
          refine r_vI (c := 0) (args := []) (rest := []) (pc' := 811) D281_808 rfl ck_12_virtual_87 TE113 rfl (Nat.le_of_ble_eq_true rfl) ⟨Nat.le_of_ble_eq_true rfl, Nat.le_of_ble_eq_true rfl⟩ sc_0 ⟨rfl, by decide⟩ HN.1 (by omega) (K113 E (by omega) HN x3 (i0)) ?_
          intro v478 M479 q483
          obtain ⟨H480, f481, q482⟩ := q483
          have f484 := fN.tr (f481.up rfl)
          refine s_blx (lv' := [(0, vA b), (1, vR 0), (2, vR 77), (3, vI x3)]) (st' := [vR 77]) B281_811_813 rfl ?_
          refine r_vI (c := 77) (args := []) (rest := []) (pc' := 816) D281_813 rfl ck_12_virtual_90 TE231 rfl (Nat.le_of_ble_eq_true rfl) ⟨Nat.le_of_ble_eq_true rfl, Nat.le_of_ble_eq_true rfl⟩ sc_77 ⟨rfl, by decide⟩ H480.1 (by omega) (K231 E (by omega) H480 (x3 + 6) (q482)) ?_
          intro v485 M486 q490
          obtain ⟨H487, f488, q489⟩ := q490
          have f491 := f484.tr (f488.up rfl)
          refine s_blx (lv' := [(0, vA b), (1, vR 0), (2, vR 77), (3, vI x3)]) (st' := []) B281_816_817 rfl ?_
          refine r_goto (tgt := 1317) D281_817 rfl ?_
          refine s_blx (lv' := [(3, vI (x3 + 6)), (0, vA b), (1, vR 0), (2, vR 77)]) (st' := []) B281_1317_1320 rfl ?_
          refine r_goto (tgt := 18) D281_1320 rfl ?_
          refine r_loc (lv' := [(0, vA b), (1, vR 0), (2, vR 77), (3, vI (x3 + 6))]) ⟨rfl, rfl, rfl, rfl, trivial⟩ rfl rfl ?_
          exact ih (x3 + 6) M486 H487 f491 (q489) (by omega) (by omega) (by omega) (by omega)
        · show sRn _ _ _ _ _ 820 _ _ _ _
          refine s_blx (lv' := [(0, vA b), (1, vR 0), (2, vR 77), (3, vI x3)]) (st' := [vI (x3 + 1), vA b, vR 0]) B281_820_825 rfl ?_
          refine r_aldS (pc' := 826) D281_825 rfl ihr (by omega) ?_
          intro w492 e494 r493; unfold inR at r493
          refine s_blx (lv' := [(0, vA b), (1, vR 0), (2, vR 77), (3, vI x3)]) (st' := [vI (x3 + 2), vA b, vI w492, vR 0]) B281_826_830 rfl ?_
          refine r_aldS (pc' := 831) D281_830 rfl ihr (by omega) ?_
          intro w495 e497 r496; unfold inR at r496
          refine r_vI (c := 0) (args := [vI w492, vI w495]) (rest := []) (pc' := 834) D281_831 rfl ck_12_virtual_91 TE114 rfl (Nat.le_of_ble_eq_true rfl) ⟨Nat.le_of_ble_eq_true rfl, Nat.le_of_ble_eq_true rfl⟩ sc_0 ⟨rfl, by decide⟩ HN.1 (by omega) (K114 E (by omega) HN w492 w495 x3 (i0) (by omega) (by omega)) ?_
          intro v498 M499 q503
          obtain ⟨H500, f501, q502⟩ := q503
          have f504 := fN.tr (f501.up rfl)
          refine s_blx (lv' := [(0, vA b), (1, vR 0), (2, vR 77), (3, vI x3)]) (st' := [vI (x3 + 1), vA b, vR 77]) B281_834_840 rfl ?_
          refine r_aldS (pc' := 841) D281_840 rfl ihr (by omega) ?_
          intro w505 e507 r506; unfold inR at r506
          refine s_blx (lv' := [(0, vA b), (1, vR 0), (2, vR 77), (3, vI x3)]) (st' := [vI (x3 + 2), vA b, vI w505, vR 77]) B281_841_845 rfl ?_
          refine r_aldS (pc' := 846) D281_845 rfl ihr (by omega) ?_
          intro w508 e510 r509; unfold inR at r509
          refine r_vI (c := 77) (args := [vI w505, vI w508]) (rest := []) (pc' := 849) D281_846 rfl ck_12_virtual_94 TE248 rfl (Nat.le_of_ble_eq_true rfl) ⟨Nat.le_of_ble_eq_true rfl, Nat.le_of_ble_eq_true rfl⟩ sc_77 ⟨rfl, by decide⟩ H500.1 (by omega) (K248 E (by omega) H500 w505 w508 (x3 + 6) (q502) (by omega) (by omega)) ?_
          intro v511 M512 q516
          obtain ⟨H513, f514, q515⟩ := q516
          have f517 := f504.tr (f514.up rfl)
          refine s_blx (lv' := [(0, vA b), (1, vR 0), (2, vR 77), (3, vI x3)]) (st' := []) B281_849_850 rfl ?_
          refine r_goto (tgt := 1317) D281_850 rfl ?_
          refine s_blx (lv' := [(3, vI (x3 + 6)), (0, vA b), (1, vR 0), (2, vR 77)]) (st' := []) B281_1317_1320 rfl ?_
          refine r_goto (tgt := 18) D281_1320 rfl ?_
          refine r_loc (lv' := [(0, vA b), (1, vR 0), (2, vR 77), (3, vI (x3 + 6))]) ⟨rfl, rfl, rfl, rfl, trivial⟩ rfl rfl ?_
          exact ih (x3 + 6) M512 H513 f517 (q515) (by omega) (by omega) (by omega) (by omega)
        · show sRn _ _ _ _ _ 853 _ _ _ _
          refine s_blx (lv' := [(0, vA b), (1, vR 0), (2, vR 77), (3, vI x3)]) (st' := [vI (x3 + 1), vA b, vR 0]) B281_853_858 rfl ?_
          refine r_aldS (pc' := 859) D281_858 rfl ihr (by omega) ?_
          intro w518 e520 r519; unfold inR at r519
          refine r_vI (c := 0) (args := [vI w518]) (rest := []) (pc' := 862) D281_859 rfl ck_12_virtual_95 TE115 rfl (Nat.le_of_ble_eq_true rfl) ⟨Nat.le_of_ble_eq_true rfl, Nat.le_of_ble_eq_true rfl⟩ sc_0 ⟨rfl, by decide⟩ HN.1 (by omega) (K115 E (by omega) HN w518 x3 (i0) (by omega)) ?_
          intro v521 M522 q526
          obtain ⟨H523, f524, q525⟩ := q526
          have f527 := fN.tr (f524.up rfl)
          refine s_blx (lv' := [(0, vA b), (1, vR 0), (2, vR 77), (3, vI x3)]) (st' := [vI (x3 + 1), vA b, vR 77]) B281_862_868 rfl ?_
          refine r_aldS (pc' := 869) D281_868 rfl ihr (by omega) ?_
          intro w528 e530 r529; unfold inR at r529
          refine r_vI (c := 77) (args := [vI w528]) (rest := []) (pc' := 872) D281_869 rfl ck_12_virtual_98 TE249 rfl (Nat.le_of_ble_eq_true rfl) ⟨Nat.le_of_ble_eq_true rfl, Nat.le_of_ble_eq_true rfl⟩ sc_77 ⟨rfl, by decide⟩ H523.1 (by omega) (K249 E (by omega) H523 w528 (x3 + 6) (q525) (by omega)) ?_
          intro v531 M532 q536
          obtain ⟨H533, f534, q535⟩ := q536
          have f537 := f527.tr (f534.up rfl)
          refine s_blx (lv' := [(0, vA b), (1, vR 0), (2, vR 77), (3, vI x3)]) (st' := []) B281_872_873 rfl ?_
          refine r_goto (tgt := 1317) D281_873 rfl ?_
          refine s_blx (lv' := [(3, vI (x3 + 6)), (0, vA b), (1, vR 0), (2, vR 77)]) (st' := []) B281_1317_1320 rfl ?_
          refine r_goto (tgt := 18) D281_1320 rfl ?_
          refine r_loc (lv' := [(0, vA b), (1, vR 0), (2, vR 77), (3, vI (x3 + 6))]) ⟨rfl, rfl, rfl, rfl, trivial⟩ rfl rfl ?_
          exact ih (x3 + 6) M532 H533 f537 (q535) (by omega) (by omega) (by omega) (by omega)
        · show sRn _ _ _ _ _ 876 _ _ _ _
          refine s_blx (lv' := [(0, vA b), (1, vR 0), (2, vR 77), (3, vI x3)]) (st' := [vI (x3 + 1), vA b, vR 0]) B281_876_881 rfl ?_
          refine r_aldS (pc' := 882) D281_881 rfl ihr (by omega) ?_
          intro w538 e540 r539; unfold inR at r539
          refine r_vL (c := 0) (args := [vI w538]) (rest := []) (pc' := 885) D281_882 rfl ck_12_virtual_99 TE116 rfl (Nat.le_of_ble_eq_true rfl) ⟨Nat.le_of_ble_eq_true rfl, Nat.le_of_ble_eq_true rfl⟩ sc_0 ⟨rfl, by decide⟩ HN.1 (by omega) (K116 E (by omega) HN w538 x3 (i0) (by omega)) ?_
          intro v541 M542 q546
          obtain ⟨H543, f544, q545⟩ := q546
          have f547 := fN.tr (f544.up rfl)
          refine s_blx (lv' := [(0, vA b), (1, vR 0), (2, vR 77), (3, vI x3)]) (st' := [vI (x3 + 1), vA b, vR 77]) B281_885_891 rfl ?_
          refine r_aldS (pc' := 892) D281_891 rfl ihr (by omega) ?_
          intro w548 e550 r549; unfold inR at r549
          refine r_vL (c := 77) (args := [vI w548]) (rest := []) (pc' := 895) D281_892 rfl ck_12_virtual_103 TE250 rfl (Nat.le_of_ble_eq_true rfl) ⟨Nat.le_of_ble_eq_true rfl, Nat.le_of_ble_eq_true rfl⟩ sc_77 ⟨rfl, by decide⟩ H543.1 (by omega) (K250 E (by omega) H543 w548 (x3 + 6) (q545) (by omega)) ?_
          intro v551 M552 q556
          obtain ⟨H553, f554, q555⟩ := q556
          have f557 := f547.tr (f554.up rfl)
          refine s_blx (lv' := [(0, vA b), (1, vR 0), (2, vR 77), (3, vI x3)]) (st' := []) B281_895_896 rfl ?_
          refine r_goto (tgt := 1317) D281_896 rfl ?_
          refine s_blx (lv' := [(3, vI (x3 + 6)), (0, vA b), (1, vR 0), (2, vR 77)]) (st' := []) B281_1317_1320 rfl ?_
          refine r_goto (tgt := 18) D281_1320 rfl ?_
          refine r_loc (lv' := [(0, vA b), (1, vR 0), (2, vR 77), (3, vI (x3 + 6))]) ⟨rfl, rfl, rfl, rfl, trivial⟩ rfl rfl ?_
          exact ih (x3 + 6) M552 H553 f557 (q555) (by omega) (by omega) (by omega) (by omega)
        · show sRn _ _ _ _ _ 899 _ _ _ _
          refine s_blx (lv' := [(0, vA b), (1, vR 0), (2, vR 77), (3, vI x3)]) (st' := [vR 0]) B281_899_900 rfl ?_
          refine r_vL (c := 0) (args := []) (rest := []) (pc' := 903) D281_900 rfl ck_12_virtual_104 TE117 rfl (Nat.le_of_ble_eq_true rfl) ⟨Nat.le_of_ble_eq_true rfl, Nat.le_of_ble_eq_true rfl⟩ sc_0 ⟨rfl, by decide⟩ HN.1 (by omega) (K117 E (by omega) HN x3 (i0)) ?_
          intro v558 M559 q563
          obtain ⟨H560, f561, q562⟩ := q563
          have f564 := fN.tr (f561.up rfl)
          refine s_blx (lv' := [(0, vA b), (1, vR 0), (2, vR 77), (3, vI x3)]) (st' := [vR 77]) B281_903_905 rfl ?_
          refine r_vL (c := 77) (args := []) (rest := []) (pc' := 908) D281_905 rfl ck_12_virtual_107 TE206 rfl (Nat.le_of_ble_eq_true rfl) ⟨Nat.le_of_ble_eq_true rfl, Nat.le_of_ble_eq_true rfl⟩ sc_77 ⟨rfl, by decide⟩ H560.1 (by omega) (K206 E (by omega) H560 (x3 + 6) (q562)) ?_
          intro v565 M566 q570
          obtain ⟨H567, f568, q569⟩ := q570
          have f571 := f564.tr (f568.up rfl)
          refine s_blx (lv' := [(0, vA b), (1, vR 0), (2, vR 77), (3, vI x3)]) (st' := []) B281_908_909 rfl ?_
          refine r_goto (tgt := 1317) D281_909 rfl ?_
          refine s_blx (lv' := [(3, vI (x3 + 6)), (0, vA b), (1, vR 0), (2, vR 77)]) (st' := []) B281_1317_1320 rfl ?_
          refine r_goto (tgt := 18) D281_1320 rfl ?_
          refine r_loc (lv' := [(0, vA b), (1, vR 0), (2, vR 77), (3, vI (x3 + 6))]) ⟨rfl, rfl, rfl, rfl, trivial⟩ rfl rfl ?_
          exact ih (x3 + 6) M566 H567 f571 (q569) (by omega) (by omega) (by omega) (by omega)
        · show sRn _ _ _ _ _ 912 _ _ _ _
          refine s_blx (lv' := [(0, vA b), (1, vR 0), (2, vR 77), (3, vI x3)]) (st' := [vI (x3 + 1), vA b, vR 0]) B281_912_917 rfl ?_
          refine r_aldS (pc' := 918) D281_917 rfl ihr (by omega) ?_
          intro w572 e574 r573; unfold inR at r573
          refine r_vL (c := 0) (args := [vI w572]) (rest := []) (pc' := 921) D281_918 rfl ck_12_virtual_108 TE118 rfl (Nat.le_of_ble_eq_true rfl) ⟨Nat.le_of_ble_eq_true rfl, Nat.le_of_ble_eq_true rfl⟩ sc_0 ⟨rfl, by decide⟩ HN.1 (by omega) (K118 E (by omega) HN w572 x3 (i0) (by omega)) ?_
          intro v575 M576 q580
          obtain ⟨H577, f578, q579⟩ := q580
          have f581 := fN.tr (f578.up rfl)
          refine s_blx (lv' := [(0, vA b), (1, vR 0), (2, vR 77), (3, vI x3)]) (st' := [vI (x3 + 1), vA b, vR 77]) B281_921_927 rfl ?_
          refine r_aldS (pc' := 928) D281_927 rfl ihr (by omega) ?_
          intro w582 e584 r583; unfold inR at r583
          refine r_vL (c := 77) (args := [vI w582]) (rest := []) (pc' := 931) D281_928 rfl ck_12_virtual_111 TE209 rfl (Nat.le_of_ble_eq_true rfl) ⟨Nat.le_of_ble_eq_true rfl, Nat.le_of_ble_eq_true rfl⟩ sc_77 ⟨rfl, by decide⟩ H577.1 (by omega) (K209 E (by omega) H577 w582 (x3 + 6) (q579) (by omega)) ?_
          intro v585 M586 q590
          obtain ⟨H587, f588, q589⟩ := q590
          have f591 := f581.tr (f588.up rfl)
          refine s_blx (lv' := [(0, vA b), (1, vR 0), (2, vR 77), (3, vI x3)]) (st' := []) B281_931_932 rfl ?_
          refine r_goto (tgt := 1317) D281_932 rfl ?_
          refine s_blx (lv' := [(3, vI (x3 + 6)), (0, vA b), (1, vR 0), (2, vR 77)]) (st' := []) B281_1317_1320 rfl ?_
          refine r_goto (tgt := 18) D281_1320 rfl ?_
          refine r_loc (lv' := [(0, vA b), (1, vR 0), (2, vR 77), (3, vI (x3 + 6))]) ⟨rfl, rfl, rfl, rfl, trivial⟩ rfl rfl ?_
          exact ih (x3 + 6) M586 H587 f591 (q589) (by omega) (by omega) (by omega) (by omega)
        · show sRn _ _ _ _ _ 935 _ _ _ _
          refine s_blx (lv' := [(0, vA b), (1, vR 0), (2, vR 77), (3, vI x3)]) (st' := [vI (x3 + 1), vA b, vR 0]) B281_935_940 rfl ?_
          refine r_aldS (pc' := 941) D281_940 rfl ihr (by omega) ?_
          intro w592 e594 r593; unfold inR at r593
          refine s_blx (lv' := [(0, vA b), (1, vR 0), (2, vR 77), (3, vI x3)]) (st' := [vI (x3 + 2), vA b, vI w592, vR 0]) B281_941_945 rfl ?_
          refine r_aldS (pc' := 946) D281_945 rfl ihr (by omega) ?_
          intro w595 e597 r596; unfold inR at r596
          refine s_blx (lv' := [(0, vA b), (1, vR 0), (2, vR 77), (3, vI x3)]) (st' := [vI (x3 + 3), vA b, vI w595, vI w592, vR 0]) B281_946_950 rfl ?_
          refine r_aldS (pc' := 951) D281_950 rfl ihr (by omega) ?_
          intro w598 e600 r599; unfold inR at r599
          refine r_vI (c := 0) (args := [vI w592, vI w595, vI w598]) (rest := []) (pc' := 954) D281_951 rfl ck_12_virtual_112 TE119 rfl (Nat.le_of_ble_eq_true rfl) ⟨Nat.le_of_ble_eq_true rfl, Nat.le_of_ble_eq_true rfl⟩ sc_0 ⟨rfl, by decide⟩ HN.1 (by omega) (K119 E (by omega) HN w592 w595 w598 x3 (i0) (by omega) (by omega) (by omega)) ?_
          intro v601 M602 q606
          obtain ⟨H603, f604, q605⟩ := q606
          have f607 := fN.tr (f604.up rfl)
          refine s_blx (lv' := [(0, vA b), (1, vR 0), (2, vR 77), (3, vI x3)]) (st' := [vI (x3 + 1), vA b, vR 77]) B281_954_960 rfl ?_
          refine r_aldS (pc' := 961) D281_960 rfl ihr (by omega) ?_
          intro w608 e610 r609; unfold inR at r609
          refine s_blx (lv' := [(0, vA b), (1, vR 0), (2, vR 77), (3, vI x3)]) (st' := [vI (x3 + 2), vA b, vI w608, vR 77]) B281_961_965 rfl ?_
          refine r_aldS (pc' := 966) D281_965 rfl ihr (by omega) ?_
          intro w611 e613 r612; unfold inR at r612
          refine s_blx (lv' := [(0, vA b), (1, vR 0), (2, vR 77), (3, vI x3)]) (st' := [vI (x3 + 3), vA b, vI w611, vI w608, vR 77]) B281_966_970 rfl ?_
          refine r_aldS (pc' := 971) D281_970 rfl ihr (by omega) ?_
          intro w614 e616 r615; unfold inR at r615
          refine r_vI (c := 77) (args := [vI w608, vI w611, vI w614]) (rest := []) (pc' := 974) D281_971 rfl ck_12_virtual_115 TE251 rfl (Nat.le_of_ble_eq_true rfl) ⟨Nat.le_of_ble_eq_true rfl, Nat.le_of_ble_eq_true rfl⟩ sc_77 ⟨rfl, by decide⟩ H603.1 (by omega) (K251 E (by omega) H603 w608 w611 w614 (x3 + 6) (q605) (by omega) (by omega) (by omega)) ?_
          intro v617 M618 q622
          obtain ⟨H619, f620, q621⟩ := q622
          have f623 := f607.tr (f620.up rfl)
          refine s_blx (lv' := [(0, vA b), (1, vR 0), (2, vR 77), (3, vI x3)]) (st' := []) B281_974_975 rfl ?_
          refine r_goto (tgt := 1317) D281_975 rfl ?_
          refine s_blx (lv' := [(3, vI (x3 + 6)), (0, vA b), (1, vR 0), (2, vR 77)]) (st' := []) B281_1317_1320 rfl ?_
          refine r_goto (tgt := 18) D281_1320 rfl ?_
          refine r_loc (lv' := [(0, vA b), (1, vR 0), (2, vR 77), (3, vI (x3 + 6))]) ⟨rfl, rfl, rfl, rfl, trivial⟩ rfl rfl ?_
          exact ih (x3 + 6) M618 H619 f623 (q621) (by omega) (by omega) (by omega) (by omega)
        · show sRn _ _ _ _ _ 978 _ _ _ _
          refine s_blx (lv' := [(0, vA b), (1, vR 0), (2, vR 77), (3, vI x3)]) (st' := [vR 0]) B281_978_979 rfl ?_
          refine r_vI (c := 0) (args := []) (rest := []) (pc' := 982) D281_979 rfl ck_12_virtual_116 TE120 rfl (Nat.le_of_ble_eq_true rfl) ⟨Nat.le_of_ble_eq_true rfl, Nat.le_of_ble_eq_true rfl⟩ sc_0 ⟨rfl, by decide⟩ HN.1 (by omega) (K120 E (by omega) HN x3 (i0)) ?_
          intro v624 M625 q629
          obtain ⟨H626, f627, q628⟩ := q629
          have f630 := fN.tr (f627.up rfl)
          refine s_blx (lv' := [(0, vA b), (1, vR 0), (2, vR 77), (3, vI x3)]) (st' := [vR 77]) B281_982_984 rfl ?_
          refine r_vI (c := 77) (args := []) (rest := []) (pc' := 987) D281_984 rfl ck_12_virtual_119 TE254 rfl (Nat.le_of_ble_eq_true rfl) ⟨Nat.le_of_ble_eq_true rfl, Nat.le_of_ble_eq_true rfl⟩ sc_77 ⟨rfl, by decide⟩ H626.1 (by omega) (K254 E (by omega) H626 (x3 + 6) (q628)) ?_
          intro v631 M632 q636
          obtain ⟨H633, f634, q635⟩ := q636
          have f637 := f630.tr (f634.up rfl)
          refine s_blx (lv' := [(0, vA b), (1, vR 0), (2, vR 77), (3, vI x3)]) (st' := []) B281_987_988 rfl ?_
          refine r_goto (tgt := 1317) D281_988 rfl ?_
          refine s_blx (lv' := [(3, vI (x3 + 6)), (0, vA b), (1, vR 0), (2, vR 77)]) (st' := []) B281_1317_1320 rfl ?_
          refine r_goto (tgt := 18) D281_1320 rfl ?_
          refine r_loc (lv' := [(0, vA b), (1, vR 0), (2, vR 77), (3, vI (x3 + 6))]) ⟨rfl, rfl, rfl, rfl, trivial⟩ rfl rfl ?_
          exact ih (x3 + 6) M632 H633 f637 (q635) (by omega) (by omega) (by omega) (by omega)
        · show sRn _ _ _ _ _ 991 _ _ _ _
          refine s_blx (lv' := [(0, vA b), (1, vR 0), (2, vR 77), (3, vI x3)]) (st' := [vI (x3 + 1), vA b, vR 0]) B281_991_996 rfl ?_
          refine r_aldS (pc' := 997) D281_996 rfl ihr (by omega) ?_
          intro w638 e640 r639; unfold inR at r639
          refine r_vI (c := 0) (args := [vI w638]) (rest := []) (pc' := 1000) D281_997 rfl ck_12_virtual_120 TE121 rfl (Nat.le_of_ble_eq_true rfl) ⟨Nat.le_of_ble_eq_true rfl, Nat.le_of_ble_eq_true rfl⟩ sc_0 ⟨rfl, by decide⟩ HN.1 (by omega) (K121 E (by omega) HN w638 x3 (i0) (by omega)) ?_
          intro v641 M642 q646
          obtain ⟨H643, f644, q645⟩ := q646
          have f647 := fN.tr (f644.up rfl)
          refine s_blx (lv' := [(0, vA b), (1, vR 0), (2, vR 77), (3, vI x3)]) (st' := [vI (x3 + 1), vA b, vR 77]) B281_1000_1006 rfl ?_
          refine r_aldS (pc' := 1007) D281_1006 rfl ihr (by omega) ?_
          intro w648 e650 r649; unfold inR at r649
          refine r_vI (c := 77) (args := [vI w648]) (rest := []) (pc' := 1010) D281_1007 rfl ck_12_virtual_123 TE255 rfl (Nat.le_of_ble_eq_true rfl) ⟨Nat.le_of_ble_eq_true rfl, Nat.le_of_ble_eq_true rfl⟩ sc_77 ⟨rfl, by decide⟩ H643.1 (by omega) (K255 E (by omega) H643 w648 (x3 + 6) (q645) (by omega)) ?_
          intro v651 M652 q656
          obtain ⟨H653, f654, q655⟩ := q656
          have f657 := f647.tr (f654.up rfl)
          refine s_blx (lv' := [(0, vA b), (1, vR 0), (2, vR 77), (3, vI x3)]) (st' := []) B281_1010_1011 rfl ?_
          refine r_goto (tgt := 1317) D281_1011 rfl ?_
          refine s_blx (lv' := [(3, vI (x3 + 6)), (0, vA b), (1, vR 0), (2, vR 77)]) (st' := []) B281_1317_1320 rfl ?_
          refine r_goto (tgt := 18) D281_1320 rfl ?_
          refine r_loc (lv' := [(0, vA b), (1, vR 0), (2, vR 77), (3, vI (x3 + 6))]) ⟨rfl, rfl, rfl, rfl, trivial⟩ rfl rfl ?_
          exact ih (x3 + 6) M652 H653 f657 (q655) (by omega) (by omega) (by omega) (by omega)
        · show sRn _ _ _ _ _ 1014 _ _ _ _
          refine s_blx (lv' := [(0, vA b), (1, vR 0), (2, vR 77), (3, vI x3)]) (st' := [vI (x3 + 1), vA b, vR 0]) B281_1014_1019 rfl ?_
          refine r_aldS (pc' := 1020) D281_1019 rfl ihr (by omega) ?_
          intro w658 e660 r659; unfold inR at r659
          refine s_blx (lv' := [(0, vA b), (1, vR 0), (2, vR 77), (3, vI x3)]) (st' := [vI (x3 + 2), vA b, vI w658, vR 0]) B281_1020_1024 rfl ?_
          refine r_aldS (pc' := 1025) D281_1024 rfl ihr (by omega) ?_
          intro w661 e663 r662; unfold inR at r662
          refine r_vI (c := 0) (args := [vI w658, vI w661]) (rest := []) (pc' := 1028) D281_1025 rfl ck_12_virtual_124 TE122 rfl (Nat.le_of_ble_eq_true rfl) ⟨Nat.le_of_ble_eq_true rfl, Nat.le_of_ble_eq_true rfl⟩ sc_0 ⟨rfl, by decide⟩ HN.1 (by omega) (K122 E (by omega) HN w658 w661 x3 (i0) (by omega) (by omega)) ?_
          intro v664 M665 q669
          obtain ⟨H666, f667, q668⟩ := q669
          have f670 := fN.tr (f667.up rfl)
          refine s_blx (lv' := [(0, vA b), (1, vR 0), (2, vR 77), (3, vI x3)]) (st' := [vI (x3 + 1), vA b, vR 77]) B281_1028_1034 rfl ?_
          refine r_aldS (pc' := 1035) D281_1034 rfl ihr (by omega) ?_
          intro w671 e673 r672; unfold inR at r672
          refine s_blx (lv' := [(0, vA b), (1, vR 0), (2, vR 77), (3, vI x3)]) (st' := [vI (x3 + 2), vA b, vI w671, vR 77]) B281_1035_1039 rfl ?_
          refine r_aldS (pc' := 1040) D281_1039 rfl ihr (by omega) ?_
          intro w674 e676 r675; unfold inR at r675
          refine r_vI (c := 77) (args := [vI w671, vI w674]) (rest := []) (pc' := 1043) D281_1040 rfl ck_12_virtual_127 TE256 rfl (Nat.le_of_ble_eq_true rfl) ⟨Nat.le_of_ble_eq_true rfl, Nat.le_of_ble_eq_true rfl⟩ sc_77 ⟨rfl, by decide⟩ H666.1 (by omega) (K256 E (by omega) H666 w671 w674 (x3 + 6) (q668) (by omega) (by omega)) ?_
          intro v677 M678 q682
          obtain ⟨H679, f680, q681⟩ := q682
          have f683 := f670.tr (f680.up rfl)
          refine s_blx (lv' := [(0, vA b), (1, vR 0), (2, vR 77), (3, vI x3)]) (st' := []) B281_1043_1044 rfl ?_
          refine r_goto (tgt := 1317) D281_1044 rfl ?_
          refine s_blx (lv' := [(3, vI (x3 + 6)), (0, vA b), (1, vR 0), (2, vR 77)]) (st' := []) B281_1317_1320 rfl ?_
          refine r_goto (tgt := 18) D281_1320 rfl ?_
          refine r_loc (lv' := [(0, vA b), (1, vR 0), (2, vR 77), (3, vI (x3 + 6))]) ⟨rfl, rfl, rfl, rfl, trivial⟩ rfl rfl ?_
          exact ih (x3 + 6) M678 H679 f683 (q681) (by omega) (by omega) (by omega) (by omega)
        · show sRn _ _ _ _ _ 1047 _ _ _ _
          refine s_blx (lv' := [(0, vA b), (1, vR 0), (2, vR 77), (3, vI x3)]) (st' := [vI (x3 + 1), vA b, vR 0]) B281_1047_1052 rfl ?_
          refine r_aldS (pc' := 1053) D281_1052 rfl ihr (by omega) ?_
          intro w684 e686 r685; unfold inR at r685
          refine r_vI (c := 0) (args := [vI w684]) (rest := []) (pc' := 1056) D281_1053 rfl ck_12_virtual_128 TE123 rfl (Nat.le_of_ble_eq_true rfl) ⟨Nat.le_of_ble_eq_true rfl, Nat.le_of_ble_eq_true rfl⟩ sc_0 ⟨rfl, by decide⟩ HN.1 (by omega) (K123 E (by omega) HN w684 x3 (i0) (by omega)) ?_
          intro v687 M688 q692
          obtain ⟨H689, f690, q691⟩ := q692
          have f693 := fN.tr (f690.up rfl)
          refine s_blx (lv' := [(0, vA b), (1, vR 0), (2, vR 77), (3, vI x3)]) (st' := [vI (x3 + 1), vA b, vR 77]) B281_1056_1062 rfl ?_
          refine r_aldS (pc' := 1063) D281_1062 rfl ihr (by omega) ?_
          intro w694 e696 r695; unfold inR at r695
          refine r_vI (c := 77) (args := [vI w694]) (rest := []) (pc' := 1066) D281_1063 rfl ck_12_virtual_131 TE257 rfl (Nat.le_of_ble_eq_true rfl) ⟨Nat.le_of_ble_eq_true rfl, Nat.le_of_ble_eq_true rfl⟩ sc_77 ⟨rfl, by decide⟩ H689.1 (by omega) (K257 E (by omega) H689 w694 (x3 + 6) (q691) (by omega)) ?_
          intro v697 M698 q702
          obtain ⟨H699, f700, q701⟩ := q702
          have f703 := f693.tr (f700.up rfl)
          refine s_blx (lv' := [(0, vA b), (1, vR 0), (2, vR 77), (3, vI x3)]) (st' := []) B281_1066_1067 rfl ?_
          refine r_goto (tgt := 1317) D281_1067 rfl ?_
          refine s_blx (lv' := [(3, vI (x3 + 6)), (0, vA b), (1, vR 0), (2, vR 77)]) (st' := []) B281_1317_1320 rfl ?_
          refine r_goto (tgt := 18) D281_1320 rfl ?_
          refine r_loc (lv' := [(0, vA b), (1, vR 0), (2, vR 77), (3, vI (x3 + 6))]) ⟨rfl, rfl, rfl, rfl, trivial⟩ rfl rfl ?_
          exact ih (x3 + 6) M698 H699 f703 (q701) (by omega) (by omega) (by omega) (by omega)
        · show sRn _ _ _ _ _ 1070 _ _ _ _
          refine s_blx (lv' := [(0, vA b), (1, vR 0), (2, vR 77), (3, vI x3)]) (st' := [vI (x3 + 1), vA b, vR 0]) B281_1070_1075 rfl ?_
          refine r_aldS (pc' := 1076) D281_1075 rfl ihr (by omega) ?_
          intro w704 e706 r705; unfold inR at r705
          refine r_vI (c := 0) (args := [vI w704]) (rest := []) (pc' := 1079) D281_1076 rfl ck_12_virtual_132 TE124 rfl (Nat.le_of_ble_eq_true rfl) ⟨Nat.le_of_ble_eq_true rfl, Nat.le_of_ble_eq_true rfl⟩ sc_0 ⟨rfl, by decide⟩ HN.1 (by omega) (K124 E (by omega) HN w704 x3 (i0) (by omega)) ?_
          intro v707 M708 q712
          obtain ⟨H709, f710, q711⟩ := q712
          have f713 := fN.tr (f710.up rfl)
          refine s_blx (lv' := [(0, vA b), (1, vR 0), (2, vR 77), (3, vI x3)]) (st' := [vI (x3 + 1), vA b, vR 77]) B281_1079_1085 rfl ?_
          refine r_aldS (pc' := 1086) D281_1085 rfl ihr (by omega) ?_
          intro w714 e716 r715; unfold inR at r715
          refine r_vI (c := 77) (args := [vI w714]) (rest := []) (pc' := 1089) D281_1086 rfl ck_12_virtual_135 TE258 rfl (Nat.le_of_ble_eq_true rfl) ⟨Nat.le_of_ble_eq_true rfl, Nat.le_of_ble_eq_true rfl⟩ sc_77 ⟨rfl, by decide⟩ H709.1 (by omega) (K258 E (by omega) H709 w714 (x3 + 6) (q711) (by omega)) ?_
          intro v717 M718 q722
          obtain ⟨H719, f720, q721⟩ := q722
          have f723 := f713.tr (f720.up rfl)
          refine s_blx (lv' := [(0, vA b), (1, vR 0), (2, vR 77), (3, vI x3)]) (st' := []) B281_1089_1090 rfl ?_
          refine r_goto (tgt := 1317) D281_1090 rfl ?_
          refine s_blx (lv' := [(3, vI (x3 + 6)), (0, vA b), (1, vR 0), (2, vR 77)]) (st' := []) B281_1317_1320 rfl ?_
          refine r_goto (tgt := 18) D281_1320 rfl ?_
          refine r_loc (lv' := [(0, vA b), (1, vR 0), (2, vR 77), (3, vI (x3 + 6))]) ⟨rfl, rfl, rfl, rfl, trivial⟩ rfl rfl ?_
          exact ih (x3 + 6) M718 H719 f723 (q721) (by omega) (by omega) (by omega) (by omega)
        · show sRn _ _ _ _ _ 1093 _ _ _ _
          refine s_blx (lv' := [(0, vA b), (1, vR 0), (2, vR 77), (3, vI x3)]) (st' := [vI (x3 + 1), vA b, vR 0]) B281_1093_1098 rfl ?_
          refine r_aldS (pc' := 1099) D281_1098 rfl ihr (by omega) ?_
          intro w724 e726 r725; unfold inR at r725
          refine s_blx (lv' := [(0, vA b), (1, vR 0), (2, vR 77), (3, vI x3)]) (st' := [vI (x3 + 2), vA b, vI w724, vR 0]) B281_1099_1103 rfl ?_
          refine r_aldS (pc' := 1104) D281_1103 rfl ihr (by omega) ?_
          intro w727 e729 r728; unfold inR at r728
          refine r_vI (c := 0) (args := [vI w724, vI w727]) (rest := []) (pc' := 1107) D281_1104 rfl ck_12_virtual_136 TE125 rfl (Nat.le_of_ble_eq_true rfl) ⟨Nat.le_of_ble_eq_true rfl, Nat.le_of_ble_eq_true rfl⟩ sc_0 ⟨rfl, by decide⟩ HN.1 (by omega) (K125 E (by omega) HN w724 w727 x3 (i0) (by omega) (by omega)) ?_
          intro v730 M731 q735
          obtain ⟨H732, f733, q734⟩ := q735
          have f736 := fN.tr (f733.up rfl)
          refine s_blx (lv' := [(0, vA b), (1, vR 0), (2, vR 77), (3, vI x3)]) (st' := [vI (x3 + 1), vA b, vR 77]) B281_1107_1113 rfl ?_
          refine r_aldS (pc' := 1114) D281_1113 rfl ihr (by omega) ?_
          intro w737 e739 r738; unfold inR at r738
          refine s_blx (lv' := [(0, vA b), (1, vR 0), (2, vR 77), (3, vI x3)]) (st' := [vI (x3 + 2), vA b, vI w737, vR 77]) B281_1114_1118 rfl ?_
          refine r_aldS (pc' := 1119) D281_1118 rfl ihr (by omega) ?_
          intro w740 e742 r741; unfold inR at r741
          refine r_vI (c := 77) (args := [vI w737, vI w740]) (rest := []) (pc' := 1122) D281_1119 rfl ck_12_virtual_139 TE260 rfl (Nat.le_of_ble_eq_true rfl) ⟨Nat.le_of_ble_eq_true rfl, Nat.le_of_ble_eq_true rfl⟩ sc_77 ⟨rfl, by decide⟩ H732.1 (by omega) (K260 E (by omega) H732 w737 w740 (x3 + 6) (q734) (by omega) (by omega)) ?_
          intro v743 M744 q748
          obtain ⟨H745, f746, q747⟩ := q748
          have f749 := f736.tr (f746.up rfl)
          refine s_blx (lv' := [(0, vA b), (1, vR 0), (2, vR 77), (3, vI x3)]) (st' := []) B281_1122_1123 rfl ?_
          refine r_goto (tgt := 1317) D281_1123 rfl ?_
          refine s_blx (lv' := [(3, vI (x3 + 6)), (0, vA b), (1, vR 0), (2, vR 77)]) (st' := []) B281_1317_1320 rfl ?_
          refine r_goto (tgt := 18) D281_1320 rfl ?_
          refine r_loc (lv' := [(0, vA b), (1, vR 0), (2, vR 77), (3, vI (x3 + 6))]) ⟨rfl, rfl, rfl, rfl, trivial⟩ rfl rfl ?_
          exact ih (x3 + 6) M744 H745 f749 (q747) (by omega) (by omega) (by omega) (by omega)
        · show sRn _ _ _ _ _ 1126 _ _ _ _
          refine s_blx (lv' := [(0, vA b), (1, vR 0), (2, vR 77), (3, vI x3)]) (st' := [vI (x3 + 1), vA b, vR 0]) B281_1126_1131 rfl ?_
          refine r_aldS (pc' := 1132) D281_1131 rfl ihr (by omega) ?_
          intro w750 e752 r751; unfold inR at r751
          refine s_blx (lv' := [(0, vA b), (1, vR 0), (2, vR 77), (3, vI x3)]) (st' := [vI (x3 + 2), vA b, vI w750, vR 0]) B281_1132_1136 rfl ?_
          refine r_aldS (pc' := 1137) D281_1136 rfl ihr (by omega) ?_
          intro w753 e755 r754; unfold inR at r754
          refine s_blx (lv' := [(0, vA b), (1, vR 0), (2, vR 77), (3, vI x3)]) (st' := [vI (x3 + 3), vA b, vI w753, vI w750, vR 0]) B281_1137_1141 rfl ?_
          refine r_aldS (pc' := 1142) D281_1141 rfl ihr (by omega) ?_
          intro w756 e758 r757; unfold inR at r757
          refine s_blx (lv' := [(0, vA b), (1, vR 0), (2, vR 77), (3, vI x3)]) (st' := [vI (x3 + 4), vA b, vI w756, vI w753, vI w750, vR 0]) B281_1142_1146 rfl ?_
          refine r_aldS (pc' := 1147) D281_1146 rfl ihr (by omega) ?_
          intro w759 e761 r760; unfold inR at r760
          refine s_blx (lv' := [(0, vA b), (1, vR 0), (2, vR 77), (3, vI x3)]) (st' := [vI (x3 + 5), vA b, vI w759, vI w756, vI w753, vI w750, vR 0]) B281_1147_1151 rfl ?_
          refine r_aldS (pc' := 1152) D281_1151 rfl ihr (by omega) ?_
          intro w762 e764 r763; unfold inR at r763
          refine r_vI (c := 0) (args := [vI w750, vI w753, vI w756, vI w759, vI w762]) (rest := []) (pc' := 1155) D281_1152 rfl ck_12_virtual_140 TE126 rfl (Nat.le_of_ble_eq_true rfl) ⟨Nat.le_of_ble_eq_true rfl, Nat.le_of_ble_eq_true rfl⟩ sc_0 ⟨rfl, by decide⟩ HN.1 (by omega) (K126 E (by omega) HN w750 w753 w756 w759 w762 x3 (i0) (by omega) (by omega) (by omega) (by omega) (by omega)) ?_
          intro v765 M766 q770
          obtain ⟨H767, f768, q769⟩ := q770
          have f771 := fN.tr (f768.up rfl)
          refine s_blx (lv' := [(0, vA b), (1, vR 0), (2, vR 77), (3, vI x3)]) (st' := [vI (x3 + 1), vA b, vR 77]) B281_1155_1161 rfl ?_
          refine r_aldS (pc' := 1162) D281_1161 rfl ihr (by omega) ?_
          intro w772 e774 r773; unfold inR at r773
          refine s_blx (lv' := [(0, vA b), (1, vR 0), (2, vR 77), (3, vI x3)]) (st' := [vI (x3 + 2), vA b, vI w772, vR 77]) B281_1162_1166 rfl ?_
          refine r_aldS (pc' := 1167) D281_1166 rfl ihr (by omega) ?_
          intro w775 e777 r776; unfold inR at r776
          refine s_blx (lv' := [(0, vA b), (1, vR 0), (2, vR 77), (3, vI x3)]) (st' := [vI (x3 + 3), vA b, vI w775, vI w772, vR 77]) B281_1167_1171 rfl ?_
          refine r_aldS (pc' := 1172) D281_1171 rfl ihr (by omega) ?_
          intro w778 e780 r779; unfold inR at r779
          refine s_blx (lv' := [(0, vA b), (1, vR 0), (2, vR 77), (3, vI x3)]) (st' := [vI (x3 + 4), vA b, vI w778, vI w775, vI w772, vR 77]) B281_1172_1176 rfl ?_
          refine r_aldS (pc' := 1177) D281_1176 rfl ihr (by omega) ?_
          intro w781 e783 r782; unfold inR at r782
          refine s_blx (lv' := [(0, vA b), (1, vR 0), (2, vR 77), (3, vI x3)]) (st' := [vI (x3 + 5), vA b, vI w781, vI w778, vI w775, vI w772, vR 77]) B281_1177_1181 rfl ?_
          refine r_aldS (pc' := 1182) D281_1181 rfl ihr (by omega) ?_
          intro w784 e786 r785; unfold inR at r785
          refine r_vI (c := 77) (args := [vI w772, vI w775, vI w778, vI w781, vI w784]) (rest := []) (pc' := 1185) D281_1182 rfl ck_12_virtual_143 TE261 rfl (Nat.le_of_ble_eq_true rfl) ⟨Nat.le_of_ble_eq_true rfl, Nat.le_of_ble_eq_true rfl⟩ sc_77 ⟨rfl, by decide⟩ H767.1 (by omega) (K261 E (by omega) H767 w772 w775 w778 w781 w784 (x3 + 6) (q769) (by omega) (by omega) (by omega) (by omega) (by omega)) ?_
          intro v787 M788 q792
          obtain ⟨H789, f790, q791⟩ := q792
          have f793 := f771.tr (f790.up rfl)
          refine s_blx (lv' := [(0, vA b), (1, vR 0), (2, vR 77), (3, vI x3)]) (st' := []) B281_1185_1186 rfl ?_
          refine r_goto (tgt := 1317) D281_1186 rfl ?_
          refine s_blx (lv' := [(3, vI (x3 + 6)), (0, vA b), (1, vR 0), (2, vR 77)]) (st' := []) B281_1317_1320 rfl ?_
          refine r_goto (tgt := 18) D281_1320 rfl ?_
          refine r_loc (lv' := [(0, vA b), (1, vR 0), (2, vR 77), (3, vI (x3 + 6))]) ⟨rfl, rfl, rfl, rfl, trivial⟩ rfl rfl ?_
          exact ih (x3 + 6) M788 H789 f793 (q791) (by omega) (by omega) (by omega) (by omega)
        · show sRn _ _ _ _ _ 1189 _ _ _ _
          refine s_blx (lv' := [(0, vA b), (1, vR 0), (2, vR 77), (3, vI x3)]) (st' := [vI (x3 + 1), vA b, vR 0]) B281_1189_1194 rfl ?_
          refine r_aldS (pc' := 1195) D281_1194 rfl ihr (by omega) ?_
          intro w794 e796 r795; unfold inR at r795
          refine r_vI (c := 0) (args := [vI w794]) (rest := []) (pc' := 1198) D281_1195 rfl ck_12_virtual_144 TE127 rfl (Nat.le_of_ble_eq_true rfl) ⟨Nat.le_of_ble_eq_true rfl, Nat.le_of_ble_eq_true rfl⟩ sc_0 ⟨rfl, by decide⟩ HN.1 (by omega) (K127 E (by omega) HN w794 x3 (i0) (by omega)) ?_
          intro v797 M798 q802
          obtain ⟨H799, f800, q801⟩ := q802
          have f803 := fN.tr (f800.up rfl)
          refine s_blx (lv' := [(0, vA b), (1, vR 0), (2, vR 77), (3, vI x3)]) (st' := [vI (x3 + 1), vA b, vR 77]) B281_1198_1204 rfl ?_
          refine r_aldS (pc' := 1205) D281_1204 rfl ihr (by omega) ?_
          intro w804 e806 r805; unfold inR at r805
          refine r_vI (c := 77) (args := [vI w804]) (rest := []) (pc' := 1208) D281_1205 rfl ck_12_virtual_147 TE262 rfl (Nat.le_of_ble_eq_true rfl) ⟨Nat.le_of_ble_eq_true rfl, Nat.le_of_ble_eq_true rfl⟩ sc_77 ⟨rfl, by decide⟩ H799.1 (by omega) (K262 E (by omega) H799 w804 (x3 + 6) (q801) (by omega)) ?_
          intro v807 M808 q812
          obtain ⟨H809, f810, q811⟩ := q812
          have f813 := f803.tr (f810.up rfl)
          refine s_blx (lv' := [(0, vA b), (1, vR 0), (2, vR 77), (3, vI x3)]) (st' := []) B281_1208_1209 rfl ?_
          refine r_goto (tgt := 1317) D281_1209 rfl ?_
          refine s_blx (lv' := [(3, vI (x3 + 6)), (0, vA b), (1, vR 0), (2, vR 77)]) (st' := []) B281_1317_1320 rfl ?_
          refine r_goto (tgt := 18) D281_1320 rfl ?_
          refine r_loc (lv' := [(0, vA b), (1, vR 0), (2, vR 77), (3, vI (x3 + 6))]) ⟨rfl, rfl, rfl, rfl, trivial⟩ rfl rfl ?_
          exact ih (x3 + 6) M808 H809 f813 (q811) (by omega) (by omega) (by omega) (by omega)
        · show sRn _ _ _ _ _ 1212 _ _ _ _
          refine s_blx (lv' := [(0, vA b), (1, vR 0), (2, vR 77), (3, vI x3)]) (st' := [vI (x3 + 1), vA b, vR 0]) B281_1212_1217 rfl ?_
          refine r_aldS (pc' := 1218) D281_1217 rfl ihr (by omega) ?_
          intro w814 e816 r815; unfold inR at r815
          refine r_vI (c := 0) (args := [vI w814]) (rest := []) (pc' := 1221) D281_1218 rfl ck_12_virtual_148 TE128 rfl (Nat.le_of_ble_eq_true rfl) ⟨Nat.le_of_ble_eq_true rfl, Nat.le_of_ble_eq_true rfl⟩ sc_0 ⟨rfl, by decide⟩ HN.1 (by omega) (K128 E (by omega) HN w814 x3 (i0) (by omega)) ?_
          intro v817 M818 q822
          obtain ⟨H819, f820, q821⟩ := q822
          have f823 := fN.tr (f820.up rfl)
          refine s_blx (lv' := [(0, vA b), (1, vR 0), (2, vR 77), (3, vI x3)]) (st' := [vI (x3 + 1), vA b, vR 77]) B281_1221_1227 rfl ?_
          refine r_aldS (pc' := 1228) D281_1227 rfl ihr (by omega) ?_
          intro w824 e826 r825; unfold inR at r825
          refine r_vI (c := 77) (args := [vI w824]) (rest := []) (pc' := 1231) D281_1228 rfl ck_12_virtual_151 TE264 rfl (Nat.le_of_ble_eq_true rfl) ⟨Nat.le_of_ble_eq_true rfl, Nat.le_of_ble_eq_true rfl⟩ sc_77 ⟨rfl, by decide⟩ H819.1 (by omega) (K264 E (by omega) H819 w824 (x3 + 6) (q821) (by omega)) ?_
          intro v827 M828 q832
          obtain ⟨H829, f830, q831⟩ := q832
          have f833 := f823.tr (f830.up rfl)
          refine s_blx (lv' := [(0, vA b), (1, vR 0), (2, vR 77), (3, vI x3)]) (st' := []) B281_1231_1232 rfl ?_
          refine r_goto (tgt := 1317) D281_1232 rfl ?_
          refine s_blx (lv' := [(3, vI (x3 + 6)), (0, vA b), (1, vR 0), (2, vR 77)]) (st' := []) B281_1317_1320 rfl ?_
          refine r_goto (tgt := 18) D281_1320 rfl ?_
          refine r_loc (lv' := [(0, vA b), (1, vR 0), (2, vR 77), (3, vI (x3 + 6))]) ⟨rfl, rfl, rfl, rfl, trivial⟩ rfl rfl ?_
          exact ih (x3 + 6) M828 H829 f833 (q831) (by omega) (by omega) (by omega) (by omega)
        · show sRn _ _ _ _ _ 1235 _ _ _ _
          refine s_blx (lv' := [(0, vA b), (1, vR 0), (2, vR 77), (3, vI x3)]) (st' := [vI (x3 + 1), vA b, vR 0]) B281_1235_1240 rfl ?_
          refine r_aldS (pc' := 1241) D281_1240 rfl ihr (by omega) ?_
          intro w834 e836 r835; unfold inR at r835
          refine r_vI (c := 0) (args := [vI w834]) (rest := []) (pc' := 1244) D281_1241 rfl ck_12_virtual_152 TE129 rfl (Nat.le_of_ble_eq_true rfl) ⟨Nat.le_of_ble_eq_true rfl, Nat.le_of_ble_eq_true rfl⟩ sc_0 ⟨rfl, by decide⟩ HN.1 (by omega) (K129 E (by omega) HN w834 x3 (i0) (by omega)) ?_
          intro v837 M838 q844
          obtain ⟨H839, f840, q841, q842, q843⟩ := q844
          have f845 := fN.tr (f840.up rfl)
          have kbv837 : -1 ≤ v837 ∧ v837 ≤ 0 := by omega
          refine s_blx (lv' := [(0, vA b), (1, vR 0), (2, vR 77), (3, vI x3)]) (st' := [vI (x3 + 1), vA b, vR 77, vI v837]) B281_1244_1249 rfl ?_
          refine r_aldS (pc' := 1250) D281_1249 rfl ihr (by omega) ?_
          intro w846 e848 r847; unfold inR at r847
          refine r_vI (c := 77) (args := [vI w846]) (rest := [vI v837]) (pc' := 1253) D281_1250 rfl ck_12_virtual_155 TE151 rfl (Nat.le_of_ble_eq_true rfl) ⟨Nat.le_of_ble_eq_true rfl, Nat.le_of_ble_eq_true rfl⟩ sc_77 ⟨rfl, by decide⟩ H839.1 (by omega) (K151 E (by omega) H839 w846 (x3 + 6) (q841) (by omega)) ?_
          intro v849 M850 q856
          obtain ⟨H851, f852, q853, q854, q855⟩ := q856
          have f857 := f845.tr (f852.up rfl)
          have kbv849 : -1 ≤ v849 ∧ v849 ≤ 0 := by omega
          refine r_icmp (tgt := 1317) (pc' := 1256) D281_1253 rfl rfl (by unfold inR; omega) (fun (c858 : v837 = v849) => ?_) (fun (c858 : ¬ (v837 = v849)) => ?_)
          · refine s_blx (lv' := [(3, vI (x3 + 6)), (0, vA b), (1, vR 0), (2, vR 77)]) (st' := []) B281_1317_1320 rfl ?_
            refine r_goto (tgt := 18) D281_1320 rfl ?_
            refine r_loc (lv' := [(0, vA b), (1, vR 0), (2, vR 77), (3, vI (x3 + 6))]) ⟨rfl, rfl, rfl, rfl, trivial⟩ rfl rfl ?_
            exact ih (x3 + 6) M850 H851 f857 (q853) (by omega) (by omega) (by omega) (by omega)
          · refine s_blx (lv' := [(0, vA b), (1, vR 0), (2, vR 77), (3, vI x3)]) (st' := [vI 0]) B281_1256_1257 rfl ?_
            exact r_zretI D281_1257 rfl (by omega) (⟨H851, f857, by omega, by omega, by exfalso; omega⟩)
        · show sRn _ _ _ _ _ 1258 _ _ _ _
          refine s_blx (lv' := [(0, vA b), (1, vR 0), (2, vR 77), (3, vI x3)]) (st' := [vI (x3 + 1), vA b, vR 0]) B281_1258_1263 rfl ?_
          refine r_aldS (pc' := 1264) D281_1263 rfl ihr (by omega) ?_
          intro w859 e861 r860; unfold inR at r860
          refine r_vI (c := 0) (args := [vI w859]) (rest := []) (pc' := 1267) D281_1264 rfl ck_12_virtual_156 TE130 rfl (Nat.le_of_ble_eq_true rfl) ⟨Nat.le_of_ble_eq_true rfl, Nat.le_of_ble_eq_true rfl⟩ sc_0 ⟨rfl, by decide⟩ HN.1 (by omega) (K130 E (by omega) HN w859 x3 (i0) (by omega)) ?_
          intro v862 M863 q867
          obtain ⟨H864, f865, q866⟩ := q867
          have f868 := fN.tr (f865.up rfl)
          refine s_blx (lv' := [(0, vA b), (1, vR 0), (2, vR 77), (3, vI x3)]) (st' := [vI (x3 + 1), vA b, vR 77]) B281_1267_1273 rfl ?_
          refine r_aldS (pc' := 1274) D281_1273 rfl ihr (by omega) ?_
          intro w869 e871 r870; unfold inR at r870
          refine r_vI (c := 77) (args := [vI w869]) (rest := []) (pc' := 1277) D281_1274 rfl ck_12_virtual_159 TE152 rfl (Nat.le_of_ble_eq_true rfl) ⟨Nat.le_of_ble_eq_true rfl, Nat.le_of_ble_eq_true rfl⟩ sc_77 ⟨rfl, by decide⟩ H864.1 (by omega) (K152 E (by omega) H864 w869 (x3 + 6) (q866) (by omega)) ?_
          intro v872 M873 q877
          obtain ⟨H874, f875, q876⟩ := q877
          have f878 := f868.tr (f875.up rfl)
          refine s_blx (lv' := [(0, vA b), (1, vR 0), (2, vR 77), (3, vI x3)]) (st' := []) B281_1277_1278 rfl ?_
          refine r_goto (tgt := 1317) D281_1278 rfl ?_
          refine s_blx (lv' := [(3, vI (x3 + 6)), (0, vA b), (1, vR 0), (2, vR 77)]) (st' := []) B281_1317_1320 rfl ?_
          refine r_goto (tgt := 18) D281_1320 rfl ?_
          refine r_loc (lv' := [(0, vA b), (1, vR 0), (2, vR 77), (3, vI (x3 + 6))]) ⟨rfl, rfl, rfl, rfl, trivial⟩ rfl rfl ?_
          exact ih (x3 + 6) M873 H874 f878 (q876) (by omega) (by omega) (by omega) (by omega)
        · show sRn _ _ _ _ _ 1281 _ _ _ _
          refine s_blx (lv' := [(0, vA b), (1, vR 0), (2, vR 77), (3, vI x3)]) (st' := [vI (x3 + 1), vA b, vR 0]) B281_1281_1286 rfl ?_
          refine r_aldS (pc' := 1287) D281_1286 rfl ihr (by omega) ?_
          intro w879 e881 r880; unfold inR at r880
          refine r_vI (c := 0) (args := [vI w879]) (rest := []) (pc' := 1290) D281_1287 rfl ck_12_virtual_160 TE131 rfl (Nat.le_of_ble_eq_true rfl) ⟨Nat.le_of_ble_eq_true rfl, Nat.le_of_ble_eq_true rfl⟩ sc_0 ⟨rfl, by decide⟩ HN.1 (by omega) (K131 E (by omega) HN w879 x3 (i0) (by omega)) ?_
          intro v882 M883 q887
          obtain ⟨H884, f885, q886⟩ := q887
          have f888 := fN.tr (f885.up rfl)
          refine s_blx (lv' := [(0, vA b), (1, vR 0), (2, vR 77), (3, vI x3)]) (st' := [vI (x3 + 1), vA b, vR 77]) B281_1290_1296 rfl ?_
          refine r_aldS (pc' := 1297) D281_1296 rfl ihr (by omega) ?_
          intro w889 e891 r890; unfold inR at r890
          refine r_vI (c := 77) (args := [vI w889]) (rest := []) (pc' := 1300) D281_1297 rfl ck_12_virtual_163 TE265 rfl (Nat.le_of_ble_eq_true rfl) ⟨Nat.le_of_ble_eq_true rfl, Nat.le_of_ble_eq_true rfl⟩ sc_77 ⟨rfl, by decide⟩ H884.1 (by omega) (K265 E (by omega) H884 w889 (x3 + 6) (q886) (by omega)) ?_
          intro v892 M893 q897
          obtain ⟨H894, f895, q896⟩ := q897
          have f898 := f888.tr (f895.up rfl)
          refine s_blx (lv' := [(0, vA b), (1, vR 0), (2, vR 77), (3, vI x3)]) (st' := []) B281_1300_1301 rfl ?_
          refine r_goto (tgt := 1317) D281_1301 rfl ?_
          refine s_blx (lv' := [(3, vI (x3 + 6)), (0, vA b), (1, vR 0), (2, vR 77)]) (st' := []) B281_1317_1320 rfl ?_
          refine r_goto (tgt := 18) D281_1320 rfl ?_
          refine r_loc (lv' := [(0, vA b), (1, vR 0), (2, vR 77), (3, vI (x3 + 6))]) ⟨rfl, rfl, rfl, rfl, trivial⟩ rfl rfl ?_
          exact ih (x3 + 6) M893 H894 f898 (q896) (by omega) (by omega) (by omega) (by omega)
        · show sRn _ _ _ _ _ 1304 _ _ _ _
          refine s_blx (lv' := [(0, vA b), (1, vR 0), (2, vR 77), (3, vI x3)]) (st' := [vR 0]) B281_1304_1305 rfl ?_
          refine r_vI (c := 0) (args := []) (rest := []) (pc' := 1308) D281_1305 rfl ck_12_virtual_164 TE132 rfl (Nat.le_of_ble_eq_true rfl) ⟨Nat.le_of_ble_eq_true rfl, Nat.le_of_ble_eq_true rfl⟩ sc_0 ⟨rfl, by decide⟩ HN.1 (by omega) (K132 E (by omega) HN x3 (i0)) ?_
          intro v899 M900 q904
          obtain ⟨H901, f902, q903⟩ := q904
          have f905 := fN.tr (f902.up rfl)
          refine s_blx (lv' := [(0, vA b), (1, vR 0), (2, vR 77), (3, vI x3)]) (st' := [vR 77]) B281_1308_1310 rfl ?_
          refine r_vI (c := 77) (args := []) (rest := []) (pc' := 1313) D281_1310 rfl ck_12_virtual_167 TE266 rfl (Nat.le_of_ble_eq_true rfl) ⟨Nat.le_of_ble_eq_true rfl, Nat.le_of_ble_eq_true rfl⟩ sc_77 ⟨rfl, by decide⟩ H901.1 (by omega) (K266 E (by omega) H901 (x3 + 6) (q903)) ?_
          intro v906 M907 q911
          obtain ⟨H908, f909, q910⟩ := q911
          have f912 := f905.tr (f909.up rfl)
          refine s_blx (lv' := [(0, vA b), (1, vR 0), (2, vR 77), (3, vI x3)]) (st' := []) B281_1313_1314 rfl ?_
          refine r_goto (tgt := 1317) D281_1314 rfl ?_
          refine s_blx (lv' := [(3, vI (x3 + 6)), (0, vA b), (1, vR 0), (2, vR 77)]) (st' := []) B281_1317_1320 rfl ?_
          refine r_goto (tgt := 18) D281_1320 rfl ?_
          refine r_loc (lv' := [(0, vA b), (1, vR 0), (2, vR 77), (3, vI (x3 + 6))]) ⟨rfl, rfl, rfl, rfl, trivial⟩ rfl rfl ?_
          exact ih (x3 + 6) M907 H908 f912 (q910) (by omega) (by omega) (by omega) (by omega)
      · intro c5
        refine s_blx (lv' := [(3, vI (x3 + 6)), (0, vA b), (1, vR 0), (2, vR 77)]) (st' := []) B281_1317_1320 rfl ?_
        refine r_goto (tgt := 18) D281_1320 rfl ?_
        refine r_loc (lv' := [(0, vA b), (1, vR 0), (2, vR 77), (3, vI (x3 + 6))]) ⟨rfl, rfl, rfl, rfl, trivial⟩ rfl rfl ?_
        exact ih (x3 + 6) N HN fN (i0.up) (by omega) (by omega) (by omega) (by omega)
set_option maxRecDepth 4000 in
set_option maxHeartbeats 4000000 in
theorem k281p {base : Nat} {X : Nat → Option mC} {G : Nat → Value} (E : EnvOK base X G) {b L : Nat} {f_ : Nat → Value} (ihr : SCR base X b L f_) {d : Nat} (hd : 179 ≤ d) {M : mH} (H : HI base M) (h0 : INVl base 0 M) : sRn base X G d T281 16 [(0, vA b), (1, vR 0), (2, vR 77)] [] M (s_Q base (pI (fun v M' => HI base M' ∧ Ftr [(0, 0)] M M' ∧ (v = 0 ∨ v = 1) ∧ (v = 1) ∧ (M'.1 ≤ 600000 ∧ M'.2.1 ≤ 7302250)))) := by
  have f0 : Ftr [(0, 0)] M M := Ftr.rf
  refine s_blx (lv' := [(3, vI 0), (0, vA b), (1, vR 0), (2, vR 77)]) (st' := []) B281_16_18 rfl ?_
  refine r_loc (lv' := [(0, vA b), (1, vR 0), (2, vR 77), (3, vI 0)]) ⟨rfl, rfl, rfl, rfl, trivial⟩ rfl rfl ?_
  exact (L_k281p E ihr hd H h0 (((3078 - 0) * 1 + 0 : Int) + 1).toNat) 0 M H f0 (h0) (by omega) (by omega) (by omega) (by omega)
