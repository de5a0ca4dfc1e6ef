/-! The law. -/
noncomputable def T281 : mT := (12, yL_law, code, 4, ret)
noncomputable def SCR (base : Nat) (X : Nat → Option mC) (b L : Nat) (f : Nat → Value) : Prop := b < base ∧ X b = some (1000, L, f) ∧ L ≤ 3072 ∧ ∀ j, j < L → ∃ x : Int32, f j = .int x
/-- the number at a place of the script -/
noncomputable def sv (f : Nat → Value) (e : Int) : Int := vi (f e.toNat)
section
variable {base : Nat} {X : Nat → Option mC} {G : Nat → Value} {d : Nat} {t : mT} {pc pc' : Nat} {lv : sL} {st : List mV} {M : mH} {Q : Option Value → mH → Prop}
theorem r_lenS {b L : Nat} {f : Nat → Value} (hd : decode t.2.2.1 pc = .ok (.arraylength, 1)) (hn : pc + 1 = pc') (hs : SCR base X b L f) (h : sRn base X G d t pc' lv (vI ((L : Nat) : Int) :: st) M Q) : sRn base X G d t pc lv (vA b :: st) M Q :=
  r_lenv (w := vA b) (x := (1000, L, f)) hd hn rfl (by unfold m_at; rw [if_pos hs.1, hs.2.1]) (Nat.le_refl 1000) h
theorem r_aldS {b L : Nat} {f : Nat → Value} {e : Int} (hd : decode t.2.2.1 pc = .ok (.iaload, 1)) (hn : pc + 1 = pc') (hs : SCR base X b L f) (he : 0 ≤ e ∧ e < ((L : Nat) : Int) ∧ e ≤ 2147483647) (h : ∀ w, w = sv f e → inR w → sRn base X G d t pc' lv (vI w :: st) M Q) : sRn base X G d t pc lv (vI e :: vA b :: st) M Q := by
  obtain ⟨x, hx⟩ := hs.2.2.2 e.toNat (by omega)
  exact r_ialdA (w := x.toInt) hd hn hs.2.1 hs.1 he (by rw [hx, Int32.ofInt_toInt]) (h _ (by unfold sv; rw [hx]; rfl) (inR_toInt x))
end
theorem INVl.up {base : Nat} {j : Int} {M : mH} (h : INVl base j M) : INVl base (j + 6) M := by
  obtain ⟨a, b, hK, hR, r1, r2⟩ := h
  exact ⟨a, b, hK, hR, by omega, by omega⟩
theorem INVl.room {base : Nat} {j : Int} {M : mH} (h : INVl base j M) (hj : j ≤ 3072) : M.1 ≤ 600000 ∧ M.2.1 ≤ 7302250 := by
  obtain ⟨a, b, hK, hR, r1, r2⟩ := h
  obtain ⟨-, -, -, -, -, -, -, -, ha, hb⟩ := hK
  omega
/-- an empty tape -/
noncomputable def z_T : Int → Int := fun _ => 0
theorem r_aldE {base : Nat} {X : Nat → Option mC} {G : Nat → Value} {d : Nat} {t : mT} {pc pc' : Nat} {lv : sL} {st : List mV} {M : mH} {Q : Option Value → mH → Prop} {b L : Nat} {f : Nat → Value} {e : Int} (hd : decode t.2.2.1 pc = .ok (.iaload, 1)) (hn : pc + 1 = pc') (hs : SCR base X b L f) (he : 0 ≤ e ∧ e < ((L : Nat) : Int) ∧ e ≤ 2147483647) (h : inR (sv f e) → sRn base X G d t pc' lv (vI (sv f e) :: st) M Q) : sRn base X G d t pc lv (vI e :: vA b :: st) M Q := r_aldS hd hn hs he (fun w e1 hr => by rw [e1]; exact h (by rw [← e1]; exact hr))
theorem B281_16_18 : s_dk T281.2.2.1 16 [.iconst 0, .istore_n 3] 18 = true := by decide +kernel
theorem B281_18_20 : s_dk T281.2.2.1 18 [.iload_n 3, .aload_n 0] 20 = true := by decide +kernel
theorem D281_20 : decode T281.2.2.1 20 = .ok (.arraylength, 1) := by decide +kernel
theorem B281_21_24 : s_dk T281.2.2.1 21 [.bipush 6, .isub] 24 = true := by decide +kernel
theorem D281_24 : decode T281.2.2.1 24 = .ok (.if_icmp .gt 1299, 3) := by decide +kernel
theorem B281_1323_1324 : s_dk T281.2.2.1 1323 [.iconst 1] 1324 = true := by decide +kernel
theorem D281_1324 : decode T281.2.2.1 1324 = .ok (.ireturn, 1) := by decide +kernel
theorem B281_27_29 : s_dk T281.2.2.1 27 [.aload_n 0, .iload_n 3] 29 = true := by decide +kernel
theorem D281_29 : decode T281.2.2.1 29 = .ok (.iaload, 1) := by decide +kernel
theorem B281_30_32 : s_dk T281.2.2.1 30 [.bipush 63] 32 = true := by decide +kernel
theorem D281_32 : decode T281.2.2.1 32 = .ok (.iand, 1) := by decide +kernel
theorem D281_33 : decode T281.2.2.1 33 = .ok (.tableswitch 1284 0 36 #[163, 206, 239, 262, 305, 328, 371, 414, 447, 480, 543, 586, 599, 642, 675, 738, 761, 774, 787, 820, 843, 866, 879, 902, 945, 958, 981, 1014, 1037, 1060, 1093, 1156, 1179, 1202, 1225, 1248, 1271], 163) := by decide +kernel
theorem B281_196_201 : s_dk T281.2.2.1 196 [.aload_n 1, .aload_n 0, .iload_n 3, .iconst 1, .iadd] 201 = true := by decide +kernel
theorem D281_201 : decode T281.2.2.1 201 = .ok (.iaload, 1) := by decide +kernel
theorem B281_202_206 : s_dk T281.2.2.1 202 [.aload_n 0, .iload_n 3, .iconst 2, .iadd] 206 = true := by decide +kernel
theorem D281_206 : decode T281.2.2.1 206 = .ok (.iaload, 1) := by decide +kernel
theorem B281_207_211 : s_dk T281.2.2.1 207 [.aload_n 0, .iload_n 3, .iconst 3, .iadd] 211 = true := by decide +kernel
theorem D281_211 : decode T281.2.2.1 211 = .ok (.iaload, 1) := by decide +kernel
theorem D281_212 : decode T281.2.2.1 212 = .ok (.invokevirtual 13, 3) := by decide +kernel
theorem ck_12_virtual_13 : m_call 12 (.invokevirtual 13) = some (0, 96, 3) := by decide +kernel
theorem B281_215_221 : s_dk T281.2.2.1 215 [.pop, .aload_n 2, .aload_n 0, .iload_n 3, .iconst 1, .iadd] 221 = true := by decide +kernel
theorem D281_221 : decode T281.2.2.1 221 = .ok (.iaload, 1) := by decide +kernel
theorem B281_222_226 : s_dk T281.2.2.1 222 [.aload_n 0, .iload_n 3, .iconst 2, .iadd] 226 = true := by decide +kernel
theorem D281_226 : decode T281.2.2.1 226 = .ok (.iaload, 1) := by decide +kernel
theorem B281_227_231 : s_dk T281.2.2.1 227 [.aload_n 0, .iload_n 3, .iconst 3, .iadd] 231 = true := by decide +kernel
theorem D281_231 : decode T281.2.2.1 231 = .ok (.iaload, 1) := by decide +kernel
theorem D281_232 : decode T281.2.2.1 232 = .ok (.invokevirtual 17, 3) := by decide +kernel
theorem ck_12_virtual_17 : m_call 12 (.invokevirtual 17) = some (0, 161, 3) := by decide +kernel
theorem B281_235_236 : s_dk T281.2.2.1 235 [.pop] 236 = true := by decide +kernel
theorem D281_236 : decode T281.2.2.1 236 = .ok (.goto 1081, 3) := by decide +kernel
theorem B281_1317_1320 : s_dk T281.2.2.1 1317 [.iinc 3 6] 1320 = true := by decide +kernel
theorem D281_1320 : decode T281.2.2.1 1320 = .ok (.goto (-1302), 3) := by decide +kernel
theorem B281_239_244 : s_dk T281.2.2.1 239 [.aload_n 1, .aload_n 0, .iload_n 3, .iconst 1, .iadd] 244 = true := by decide +kernel
theorem D281_244 : decode T281.2.2.1 244 = .ok (.iaload, 1) := by decide +kernel
theorem B281_245_249 : s_dk T281.2.2.1 245 [.aload_n 0, .iload_n 3, .iconst 2, .iadd] 249 = true := by decide +kernel
theorem D281_249 : decode T281.2.2.1 249 = .ok (.iaload, 1) := by decide +kernel
theorem D281_250 : decode T281.2.2.1 250 = .ok (.invokevirtual 18, 3) := by decide +kernel
theorem ck_12_virtual_18 : m_call 12 (.invokevirtual 18) = some (0, 97, 2) := by decide +kernel
theorem B281_253_259 : s_dk T281.2.2.1 253 [.pop, .aload_n 2, .aload_n 0, .iload_n 3, .iconst 1, .iadd] 259 = true := by decide +kernel
theorem D281_259 : decode T281.2.2.1 259 = .ok (.iaload, 1) := by decide +kernel
theorem B281_260_264 : s_dk T281.2.2.1 260 [.aload_n 0, .iload_n 3, .iconst 2, .iadd] 264 = true := by decide +kernel
theorem D281_264 : decode T281.2.2.1 264 = .ok (.iaload, 1) := by decide +kernel
theorem D281_265 : decode T281.2.2.1 265 = .ok (.invokevirtual 22, 3) := by decide +kernel
theorem ck_12_virtual_22 : m_call 12 (.invokevirtual 22) = some (0, 162, 2) := by decide +kernel
theorem B281_268_269 : s_dk T281.2.2.1 268 [.pop] 269 = true := by decide +kernel
theorem D281_269 : decode T281.2.2.1 269 = .ok (.goto 1048, 3) := by decide +kernel
theorem B281_272_277 : s_dk T281.2.2.1 272 [.aload_n 1, .aload_n 0, .iload_n 3, .iconst 1, .iadd] 277 = true := by decide +kernel
theorem D281_277 : decode T281.2.2.1 277 = .ok (.iaload, 1) := by decide +kernel
theorem D281_278 : decode T281.2.2.1 278 = .ok (.invokevirtual 23, 3) := by decide +kernel
theorem ck_12_virtual_23 : m_call 12 (.invokevirtual 23) = some (0, 98, 1) := by decide +kernel
theorem B281_281_287 : s_dk T281.2.2.1 281 [.pop, .aload_n 2, .aload_n 0, .iload_n 3, .iconst 1, .iadd] 287 = true := by decide +kernel
theorem D281_287 : decode T281.2.2.1 287 = .ok (.iaload, 1) := by decide +kernel
theorem D281_288 : decode T281.2.2.1 288 = .ok (.invokevirtual 27, 3) := by decide +kernel
theorem ck_12_virtual_27 : m_call 12 (.invokevirtual 27) = some (0, 163, 1) := by decide +kernel
theorem B281_291_292 : s_dk T281.2.2.1 291 [.pop] 292 = true := by decide +kernel
theorem D281_292 : decode T281.2.2.1 292 = .ok (.goto 1025, 3) := by decide +kernel
theorem B281_295_300 : s_dk T281.2.2.1 295 [.aload_n 1, .aload_n 0, .iload_n 3, .iconst 1, .iadd] 300 = true := by decide +kernel
theorem D281_300 : decode T281.2.2.1 300 = .ok (.iaload, 1) := by decide +kernel
theorem B281_301_305 : s_dk T281.2.2.1 301 [.aload_n 0, .iload_n 3, .iconst 2, .iadd] 305 = true := by decide +kernel
theorem D281_305 : decode T281.2.2.1 305 = .ok (.iaload, 1) := by decide +kernel
theorem B281_306_310 : s_dk T281.2.2.1 306 [.aload_n 0, .iload_n 3, .iconst 3, .iadd] 310 = true := by decide +kernel
theorem D281_310 : decode T281.2.2.1 310 = .ok (.iaload, 1) := by decide +kernel
theorem D281_311 : decode T281.2.2.1 311 = .ok (.invokevirtual 28, 3) := by decide +kernel
theorem ck_12_virtual_28 : m_call 12 (.invokevirtual 28) = some (0, 99, 3) := by decide +kernel
theorem B281_314_320 : s_dk T281.2.2.1 314 [.pop, .aload_n 2, .aload_n 0, .iload_n 3, .iconst 1, .iadd] 320 = true := by decide +kernel
theorem D281_320 : decode T281.2.2.1 320 = .ok (.iaload, 1) := by decide +kernel
theorem B281_321_325 : s_dk T281.2.2.1 321 [.aload_n 0, .iload_n 3, .iconst 2, .iadd] 325 = true := by decide +kernel
theorem D281_325 : decode T281.2.2.1 325 = .ok (.iaload, 1) := by decide +kernel
theorem B281_326_330 : s_dk T281.2.2.1 326 [.aload_n 0, .iload_n 3, .iconst 3, .iadd] 330 = true := by decide +kernel
theorem D281_330 : decode T281.2.2.1 330 = .ok (.iaload, 1) := by decide +kernel
theorem D281_331 : decode T281.2.2.1 331 = .ok (.invokevirtual 31, 3) := by decide +kernel
theorem ck_12_virtual_31 : m_call 12 (.invokevirtual 31) = some (0, 164, 3) := by decide +kernel
theorem B281_334_335 : s_dk T281.2.2.1 334 [.pop] 335 = true := by decide +kernel
theorem D281_335 : decode T281.2.2.1 335 = .ok (.goto 982, 3) := by decide +kernel
theorem B281_338_343 : s_dk T281.2.2.1 338 [.aload_n 1, .aload_n 0, .iload_n 3, .iconst 1, .iadd] 343 = true := by decide +kernel
theorem D281_343 : decode T281.2.2.1 343 = .ok (.iaload, 1) := by decide +kernel
theorem D281_344 : decode T281.2.2.1 344 = .ok (.invokevirtual 32, 3) := by decide +kernel
theorem ck_12_virtual_32 : m_call 12 (.invokevirtual 32) = some (0, 100, 1) := by decide +kernel
theorem B281_347_353 : s_dk T281.2.2.1 347 [.pop, .aload_n 2, .aload_n 0, .iload_n 3, .iconst 1, .iadd] 353 = true := by decide +kernel
theorem D281_353 : decode T281.2.2.1 353 = .ok (.iaload, 1) := by decide +kernel
theorem D281_354 : decode T281.2.2.1 354 = .ok (.invokevirtual 35, 3) := by decide +kernel
theorem ck_12_virtual_35 : m_call 12 (.invokevirtual 35) = some (0, 165, 1) := by decide +kernel
theorem B281_357_358 : s_dk T281.2.2.1 357 [.pop] 358 = true := by decide +kernel
theorem D281_358 : decode T281.2.2.1 358 = .ok (.goto 959, 3) := by decide +kernel
theorem B281_361_366 : s_dk T281.2.2.1 361 [.aload_n 1, .aload_n 0, .iload_n 3, .iconst 1, .iadd] 366 = true := by decide +kernel
theorem D281_366 : decode T281.2.2.1 366 = .ok (.iaload, 1) := by decide +kernel
theorem B281_367_371 : s_dk T281.2.2.1 367 [.aload_n 0, .iload_n 3, .iconst 2, .iadd] 371 = true := by decide +kernel
theorem D281_371 : decode T281.2.2.1 371 = .ok (.iaload, 1) := by decide +kernel
theorem B281_372_376 : s_dk T281.2.2.1 372 [.aload_n 0, .iload_n 3, .iconst 3, .iadd] 376 = true := by decide +kernel
theorem D281_376 : decode T281.2.2.1 376 = .ok (.iaload, 1) := by decide +kernel
theorem D281_377 : decode T281.2.2.1 377 = .ok (.invokevirtual 36, 3) := by decide +kernel
theorem ck_12_virtual_36 : m_call 12 (.invokevirtual 36) = some (0, 101, 3) := by decide +kernel
theorem B281_380_386 : s_dk T281.2.2.1 380 [.pop, .aload_n 2, .aload_n 0, .iload_n 3, .iconst 1, .iadd] 386 = true := by decide +kernel
theorem D281_386 : decode T281.2.2.1 386 = .ok (.iaload, 1) := by decide +kernel
theorem B281_387_391 : s_dk T281.2.2.1 387 [.aload_n 0, .iload_n 3, .iconst 2, .iadd] 391 = true := by decide +kernel
theorem D281_391 : decode T281.2.2.1 391 = .ok (.iaload, 1) := by decide +kernel
theorem B281_392_396 : s_dk T281.2.2.1 392 [.aload_n 0, .iload_n 3, .iconst 3, .iadd] 396 = true := by decide +kernel
theorem D281_396 : decode T281.2.2.1 396 = .ok (.iaload, 1) := by decide +kernel
theorem D281_397 : decode T281.2.2.1 397 = .ok (.invokevirtual 39, 3) := by decide +kernel
theorem ck_12_virtual_39 : m_call 12 (.invokevirtual 39) = some (0, 167, 3) := by decide +kernel
theorem B281_400_401 : s_dk T281.2.2.1 400 [.pop] 401 = true := by decide +kernel
theorem D281_401 : decode T281.2.2.1 401 = .ok (.goto 916, 3) := by decide +kernel
theorem B281_404_409 : s_dk T281.2.2.1 404 [.aload_n 1, .aload_n 0, .iload_n 3, .iconst 1, .iadd] 409 = true := by decide +kernel
theorem D281_409 : decode T281.2.2.1 409 = .ok (.iaload, 1) := by decide +kernel
theorem B281_410_414 : s_dk T281.2.2.1 410 [.aload_n 0, .iload_n 3, .iconst 2, .iadd] 414 = true := by decide +kernel
theorem D281_414 : decode T281.2.2.1 414 = .ok (.iaload, 1) := by decide +kernel
theorem B281_415_419 : s_dk T281.2.2.1 415 [.aload_n 0, .iload_n 3, .iconst 3, .iadd] 419 = true := by decide +kernel
theorem D281_419 : decode T281.2.2.1 419 = .ok (.iaload, 1) := by decide +kernel
theorem D281_420 : decode T281.2.2.1 420 = .ok (.invokevirtual 40, 3) := by decide +kernel
theorem ck_12_virtual_40 : m_call 12 (.invokevirtual 40) = some (0, 102, 3) := by decide +kernel
theorem B281_423_429 : s_dk T281.2.2.1 423 [.pop, .aload_n 2, .aload_n 0, .iload_n 3, .iconst 1, .iadd] 429 = true := by decide +kernel
theorem D281_429 : decode T281.2.2.1 429 = .ok (.iaload, 1) := by decide +kernel
theorem B281_430_434 : s_dk T281.2.2.1 430 [.aload_n 0, .iload_n 3, .iconst 2, .iadd] 434 = true := by decide +kernel
theorem D281_434 : decode T281.2.2.1 434 = .ok (.iaload, 1) := by decide +kernel
theorem B281_435_439 : s_dk T281.2.2.1 435 [.aload_n 0, .iload_n 3, .iconst 3, .iadd] 439 = true := by decide +kernel
theorem D281_439 : decode T281.2.2.1 439 = .ok (.iaload, 1) := by decide +kernel
theorem D281_440 : decode T281.2.2.1 440 = .ok (.invokevirtual 43, 3) := by decide +kernel
theorem ck_12_virtual_43 : m_call 12 (.invokevirtual 43) = some (0, 168, 3) := by decide +kernel
theorem B281_443_444 : s_dk T281.2.2.1 443 [.pop] 444 = true := by decide +kernel
theorem D281_444 : decode T281.2.2.1 444 = .ok (.goto 873, 3) := by decide +kernel
theorem B281_447_452 : s_dk T281.2.2.1 447 [.aload_n 1, .aload_n 0, .iload_n 3, .iconst 1, .iadd] 452 = true := by decide +kernel
theorem D281_452 : decode T281.2.2.1 452 = .ok (.iaload, 1) := by decide +kernel
theorem B281_453_457 : s_dk T281.2.2.1 453 [.aload_n 0, .iload_n 3, .iconst 2, .iadd] 457 = true := by decide +kernel
theorem D281_457 : decode T281.2.2.1 457 = .ok (.iaload, 1) := by decide +kernel
theorem D281_458 : decode T281.2.2.1 458 = .ok (.invokevirtual 44, 3) := by decide +kernel
theorem ck_12_virtual_44 : m_call 12 (.invokevirtual 44) = some (0, 103, 2) := by decide +kernel
theorem B281_461_467 : s_dk T281.2.2.1 461 [.pop, .aload_n 2, .aload_n 0, .iload_n 3, .iconst 1, .iadd] 467 = true := by decide +kernel
theorem D281_467 : decode T281.2.2.1 467 = .ok (.iaload, 1) := by decide +kernel
theorem B281_468_472 : s_dk T281.2.2.1 468 [.aload_n 0, .iload_n 3, .iconst 2, .iadd] 472 = true := by decide +kernel
theorem D281_472 : decode T281.2.2.1 472 = .ok (.iaload, 1) := by decide +kernel
theorem D281_473 : decode T281.2.2.1 473 = .ok (.invokevirtual 47, 3) := by decide +kernel
theorem ck_12_virtual_47 : m_call 12 (.invokevirtual 47) = some (0, 169, 2) := by decide +kernel
theorem B281_476_477 : s_dk T281.2.2.1 476 [.pop] 477 = true := by decide +kernel
theorem D281_477 : decode T281.2.2.1 477 = .ok (.goto 840, 3) := by decide +kernel
theorem B281_480_485 : s_dk T281.2.2.1 480 [.aload_n 1, .aload_n 0, .iload_n 3, .iconst 1, .iadd] 485 = true := by decide +kernel
theorem D281_485 : decode T281.2.2.1 485 = .ok (.iaload, 1) := by decide +kernel
theorem B281_486_490 : s_dk T281.2.2.1 486 [.aload_n 0, .iload_n 3, .iconst 2, .iadd] 490 = true := by decide +kernel
theorem D281_490 : decode T281.2.2.1 490 = .ok (.iaload, 1) := by decide +kernel
theorem D281_491 : decode T281.2.2.1 491 = .ok (.invokevirtual 48, 3) := by decide +kernel
theorem ck_12_virtual_48 : m_call 12 (.invokevirtual 48) = some (0, 104, 2) := by decide +kernel
theorem B281_494_500 : s_dk T281.2.2.1 494 [.pop, .aload_n 2, .aload_n 0, .iload_n 3, .iconst 1, .iadd] 500 = true := by decide +kernel
theorem D281_500 : decode T281.2.2.1 500 = .ok (.iaload, 1) := by decide +kernel
theorem B281_501_505 : s_dk T281.2.2.1 501 [.aload_n 0, .iload_n 3, .iconst 2, .iadd] 505 = true := by decide +kernel
theorem D281_505 : decode T281.2.2.1 505 = .ok (.iaload, 1) := by decide +kernel
theorem D281_506 : decode T281.2.2.1 506 = .ok (.invokevirtual 51, 3) := by decide +kernel
theorem ck_12_virtual_51 : m_call 12 (.invokevirtual 51) = some (0, 177, 2) := by decide +kernel
theorem B281_509_510 : s_dk T281.2.2.1 509 [.pop] 510 = true := by decide +kernel
theorem D281_510 : decode T281.2.2.1 510 = .ok (.goto 807, 3) := by decide +kernel
theorem B281_513_518 : s_dk T281.2.2.1 513 [.aload_n 1, .aload_n 0, .iload_n 3, .iconst 1, .iadd] 518 = true := by decide +kernel
theorem D281_518 : decode T281.2.2.1 518 = .ok (.iaload, 1) := by decide +kernel
theorem B281_519_523 : s_dk T281.2.2.1 519 [.aload_n 0, .iload_n 3, .iconst 2, .iadd] 523 = true := by decide +kernel
theorem D281_523 : decode T281.2.2.1 523 = .ok (.iaload, 1) := by decide +kernel
theorem B281_524_528 : s_dk T281.2.2.1 524 [.aload_n 0, .iload_n 3, .iconst 3, .iadd] 528 = true := by decide +kernel
theorem D281_528 : decode T281.2.2.1 528 = .ok (.iaload, 1) := by decide +kernel
theorem B281_529_533 : s_dk T281.2.2.1 529 [.aload_n 0, .iload_n 3, .iconst 4, .iadd] 533 = true := by decide +kernel
theorem D281_533 : decode T281.2.2.1 533 = .ok (.iaload, 1) := by decide +kernel
theorem B281_534_538 : s_dk T281.2.2.1 534 [.aload_n 0, .iload_n 3, .iconst 5, .iadd] 538 = true := by decide +kernel
theorem D281_538 : decode T281.2.2.1 538 = .ok (.iaload, 1) := by decide +kernel
theorem D281_539 : decode T281.2.2.1 539 = .ok (.invokevirtual 52, 3) := by decide +kernel
theorem ck_12_virtual_52 : m_call 12 (.invokevirtual 52) = some (0, 105, 5) := by decide +kernel
theorem B281_542_548 : s_dk T281.2.2.1 542 [.pop, .aload_n 2, .aload_n 0, .iload_n 3, .iconst 1, .iadd] 548 = true := by decide +kernel
theorem D281_548 : decode T281.2.2.1 548 = .ok (.iaload, 1) := by decide +kernel
theorem B281_549_553 : s_dk T281.2.2.1 549 [.aload_n 0, .iload_n 3, .iconst 2, .iadd] 553 = true := by decide +kernel
theorem D281_553 : decode T281.2.2.1 553 = .ok (.iaload, 1) := by decide +kernel
theorem B281_554_558 : s_dk T281.2.2.1 554 [.aload_n 0, .iload_n 3, .iconst 3, .iadd] 558 = true := by decide +kernel
theorem D281_558 : decode T281.2.2.1 558 = .ok (.iaload, 1) := by decide +kernel
theorem B281_559_563 : s_dk T281.2.2.1 559 [.aload_n 0, .iload_n 3, .iconst 4, .iadd] 563 = true := by decide +kernel
theorem D281_563 : decode T281.2.2.1 563 = .ok (.iaload, 1) := by decide +kernel
theorem B281_564_568 : s_dk T281.2.2.1 564 [.aload_n 0, .iload_n 3, .iconst 5, .iadd] 568 = true := by decide +kernel
theorem D281_568 : decode T281.2.2.1 568 = .ok (.iaload, 1) := by decide +kernel
theorem D281_569 : decode T281.2.2.1 569 = .ok (.invokevirtual 56, 3) := by decide +kernel
theorem ck_12_virtual_56 : m_call 12 (.invokevirtual 56) = some (0, 179, 5) := by decide +kernel
theorem B281_572_573 : s_dk T281.2.2.1 572 [.pop] 573 = true := by decide +kernel
theorem D281_573 : decode T281.2.2.1 573 = .ok (.goto 744, 3) := by decide +kernel
theorem B281_576_581 : s_dk T281.2.2.1 576 [.aload_n 1, .aload_n 0, .iload_n 3, .iconst 1, .iadd] 581 = true := by decide +kernel
theorem D281_581 : decode T281.2.2.1 581 = .ok (.iaload, 1) := by decide +kernel
theorem B281_582_586 : s_dk T281.2.2.1 582 [.aload_n 0, .iload_n 3, .iconst 2, .iadd] 586 = true := by decide +kernel
theorem D281_586 : decode T281.2.2.1 586 = .ok (.iaload, 1) := by decide +kernel
theorem B281_587_591 : s_dk T281.2.2.1 587 [.aload_n 0, .iload_n 3, .iconst 3, .iadd] 591 = true := by decide +kernel
theorem D281_591 : decode T281.2.2.1 591 = .ok (.iaload, 1) := by decide +kernel
theorem D281_592 : decode T281.2.2.1 592 = .ok (.invokevirtual 57, 3) := by decide +kernel
theorem ck_12_virtual_57 : m_call 12 (.invokevirtual 57) = some (0, 106, 3) := by decide +kernel
theorem B281_595_601 : s_dk T281.2.2.1 595 [.pop, .aload_n 2, .aload_n 0, .iload_n 3, .iconst 1, .iadd] 601 = true := by decide +kernel
theorem D281_601 : decode T281.2.2.1 601 = .ok (.iaload, 1) := by decide +kernel
theorem B281_602_606 : s_dk T281.2.2.1 602 [.aload_n 0, .iload_n 3, .iconst 2, .iadd] 606 = true := by decide +kernel
theorem D281_606 : decode T281.2.2.1 606 = .ok (.iaload, 1) := by decide +kernel
theorem B281_607_611 : s_dk T281.2.2.1 607 [.aload_n 0, .iload_n 3, .iconst 3, .iadd] 611 = true := by decide +kernel
theorem D281_611 : decode T281.2.2.1 611 = .ok (.iaload, 1) := by decide +kernel
theorem D281_612 : decode T281.2.2.1 612 = .ok (.invokevirtual 60, 3) := by decide +kernel
theorem ck_12_virtual_60 : m_call 12 (.invokevirtual 60) = some (0, 181, 3) := by decide +kernel
theorem B281_615_616 : s_dk T281.2.2.1 615 [.pop] 616 = true := by decide +kernel
theorem D281_616 : decode T281.2.2.1 616 = .ok (.goto 701, 3) := by decide +kernel
theorem B281_619_620 : s_dk T281.2.2.1 619 [.aload_n 1] 620 = true := by decide +kernel
theorem D281_620 : decode T281.2.2.1 620 = .ok (.invokevirtual 61, 3) := by decide +kernel
theorem ck_12_virtual_61 : m_call 12 (.invokevirtual 61) = some (0, 107, 0) := by decide +kernel
theorem B281_623_625 : s_dk T281.2.2.1 623 [.pop2, .aload_n 2] 625 = true := by decide +kernel
theorem D281_625 : decode T281.2.2.1 625 = .ok (.invokevirtual 65, 3) := by decide +kernel
theorem ck_12_virtual_65 : m_call 12 (.invokevirtual 65) = some (0, 202, 0) := by decide +kernel
theorem B281_628_629 : s_dk T281.2.2.1 628 [.pop2] 629 = true := by decide +kernel
theorem D281_629 : decode T281.2.2.1 629 = .ok (.goto 688, 3) := by decide +kernel
theorem B281_632_637 : s_dk T281.2.2.1 632 [.aload_n 1, .aload_n 0, .iload_n 3, .iconst 1, .iadd] 637 = true := by decide +kernel
theorem D281_637 : decode T281.2.2.1 637 = .ok (.iaload, 1) := by decide +kernel
theorem B281_638_642 : s_dk T281.2.2.1 638 [.aload_n 0, .iload_n 3, .iconst 2, .iadd] 642 = true := by decide +kernel
theorem D281_642 : decode T281.2.2.1 642 = .ok (.iaload, 1) := by decide +kernel
theorem B281_643_647 : s_dk T281.2.2.1 643 [.aload_n 0, .iload_n 3, .iconst 3, .iadd] 647 = true := by decide +kernel
theorem D281_647 : decode T281.2.2.1 647 = .ok (.iaload, 1) := by decide +kernel
theorem D281_648 : decode T281.2.2.1 648 = .ok (.invokevirtual 66, 3) := by decide +kernel
theorem ck_12_virtual_66 : m_call 12 (.invokevirtual 66) = some (0, 108, 3) := by decide +kernel
theorem B281_651_657 : s_dk T281.2.2.1 651 [.pop, .aload_n 2, .aload_n 0, .iload_n 3, .iconst 1, .iadd] 657 = true := by decide +kernel
theorem D281_657 : decode T281.2.2.1 657 = .ok (.iaload, 1) := by decide +kernel
theorem B281_658_662 : s_dk T281.2.2.1 658 [.aload_n 0, .iload_n 3, .iconst 2, .iadd] 662 = true := by decide +kernel
theorem D281_662 : decode T281.2.2.1 662 = .ok (.iaload, 1) := by decide +kernel
theorem B281_663_667 : s_dk T281.2.2.1 663 [.aload_n 0, .iload_n 3, .iconst 3, .iadd] 667 = true := by decide +kernel
theorem D281_667 : decode T281.2.2.1 667 = .ok (.iaload, 1) := by decide +kernel
theorem D281_668 : decode T281.2.2.1 668 = .ok (.invokevirtual 69, 3) := by decide +kernel
theorem ck_12_virtual_69 : m_call 12 (.invokevirtual 69) = some (0, 204, 3) := by decide +kernel
theorem B281_671_672 : s_dk T281.2.2.1 671 [.pop] 672 = true := by decide +kernel
theorem D281_672 : decode T281.2.2.1 672 = .ok (.goto 645, 3) := by decide +kernel
theorem B281_675_680 : s_dk T281.2.2.1 675 [.aload_n 1, .aload_n 0, .iload_n 3, .iconst 1, .iadd] 680 = true := by decide +kernel
theorem D281_680 : decode T281.2.2.1 680 = .ok (.iaload, 1) := by decide +kernel
theorem B281_681_685 : s_dk T281.2.2.1 681 [.aload_n 0, .iload_n 3, .iconst 2, .iadd] 685 = true := by decide +kernel
theorem D281_685 : decode T281.2.2.1 685 = .ok (.iaload, 1) := by decide +kernel
theorem D281_686 : decode T281.2.2.1 686 = .ok (.invokevirtual 70, 3) := by decide +kernel
theorem ck_12_virtual_70 : m_call 12 (.invokevirtual 70) = some (0, 109, 2) := by decide +kernel
theorem B281_689_695 : s_dk T281.2.2.1 689 [.pop, .aload_n 2, .aload_n 0, .iload_n 3, .iconst 1, .iadd] 695 = true := by decide +kernel
theorem D281_695 : decode T281.2.2.1 695 = .ok (.iaload, 1) := by decide +kernel
theorem B281_696_700 : s_dk T281.2.2.1 696 [.aload_n 0, .iload_n 3, .iconst 2, .iadd] 700 = true := by decide +kernel
theorem D281_700 : decode T281.2.2.1 700 = .ok (.iaload, 1) := by decide +kernel
theorem D281_701 : decode T281.2.2.1 701 = .ok (.invokevirtual 73, 3) := by decide +kernel
theorem ck_12_virtual_73 : m_call 12 (.invokevirtual 73) = some (0, 205, 2) := by decide +kernel
theorem B281_704_705 : s_dk T281.2.2.1 704 [.pop] 705 = true := by decide +kernel
theorem D281_705 : decode T281.2.2.1 705 = .ok (.goto 612, 3) := by decide +kernel
theorem B281_708_713 : s_dk T281.2.2.1 708 [.aload_n 1, .aload_n 0, .iload_n 3, .iconst 1, .iadd] 713 = true := by decide +kernel
theorem D281_713 : decode T281.2.2.1 713 = .ok (.iaload, 1) := by decide +kernel
theorem B281_714_718 : s_dk T281.2.2.1 714 [.aload_n 0, .iload_n 3, .iconst 2, .iadd] 718 = true := by decide +kernel
theorem D281_718 : decode T281.2.2.1 718 = .ok (.iaload, 1) := by decide +kernel
theorem B281_719_723 : s_dk T281.2.2.1 719 [.aload_n 0, .iload_n 3, .iconst 3, .iadd] 723 = true := by decide +kernel
theorem D281_723 : decode T281.2.2.1 723 = .ok (.iaload, 1) := by decide +kernel
theorem B281_724_728 : s_dk T281.2.2.1 724 [.aload_n 0, .iload_n 3, .iconst 4, .iadd] 728 = true := by decide +kernel
theorem D281_728 : decode T281.2.2.1 728 = .ok (.iaload, 1) := by decide +kernel
theorem B281_729_733 : s_dk T281.2.2.1 729 [.aload_n 0, .iload_n 3, .iconst 5, .iadd] 733 = true := by decide +kernel
theorem D281_733 : decode T281.2.2.1 733 = .ok (.iaload, 1) := by decide +kernel
theorem D281_734 : decode T281.2.2.1 734 = .ok (.invokevirtual 74, 3) := by decide +kernel
theorem ck_12_virtual_74 : m_call 12 (.invokevirtual 74) = some (0, 110, 5) := by decide +kernel
theorem B281_737_743 : s_dk T281.2.2.1 737 [.pop, .aload_n 2, .aload_n 0, .iload_n 3, .iconst 1, .iadd] 743 = true := by decide +kernel
theorem D281_743 : decode T281.2.2.1 743 = .ok (.iaload, 1) := by decide +kernel
theorem B281_744_748 : s_dk T281.2.2.1 744 [.aload_n 0, .iload_n 3, .iconst 2, .iadd] 748 = true := by decide +kernel
theorem D281_748 : decode T281.2.2.1 748 = .ok (.iaload, 1) := by decide +kernel
theorem B281_749_753 : s_dk T281.2.2.1 749 [.aload_n 0, .iload_n 3, .iconst 3, .iadd] 753 = true := by decide +kernel
theorem D281_753 : decode T281.2.2.1 753 = .ok (.iaload, 1) := by decide +kernel
theorem B281_754_758 : s_dk T281.2.2.1 754 [.aload_n 0, .iload_n 3, .iconst 4, .iadd] 758 = true := by decide +kernel
theorem D281_758 : decode T281.2.2.1 758 = .ok (.iaload, 1) := by decide +kernel
theorem B281_759_763 : s_dk T281.2.2.1 759 [.aload_n 0, .iload_n 3, .iconst 5, .iadd] 763 = true := by decide +kernel
theorem D281_763 : decode T281.2.2.1 763 = .ok (.iaload, 1) := by decide +kernel
theorem D281_764 : decode T281.2.2.1 764 = .ok (.invokevirtual 77, 3) := by decide +kernel
theorem ck_12_virtual_77 : m_call 12 (.invokevirtual 77) = some (0, 210, 5) := by decide +kernel
theorem B281_767_768 : s_dk T281.2.2.1 767 [.pop] 768 = true := by decide +kernel
theorem D281_768 : decode T281.2.2.1 768 = .ok (.goto 549, 3) := by decide +kernel
theorem B281_771_776 : s_dk T281.2.2.1 771 [.aload_n 1, .aload_n 0, .iload_n 3, .iconst 1, .iadd] 776 = true := by decide +kernel
theorem D281_776 : decode T281.2.2.1 776 = .ok (.iaload, 1) := by decide +kernel
theorem D281_777 : decode T281.2.2.1 777 = .ok (.invokevirtual 78, 3) := by decide +kernel
theorem ck_12_virtual_78 : m_call 12 (.invokevirtual 78) = some (0, 111, 1) := by decide +kernel
theorem B281_780_786 : s_dk T281.2.2.1 780 [.pop, .aload_n 2, .aload_n 0, .iload_n 3, .iconst 1, .iadd] 786 = true := by decide +kernel
theorem D281_786 : decode T281.2.2.1 786 = .ok (.iaload, 1) := by decide +kernel
theorem D281_787 : decode T281.2.2.1 787 = .ok (.invokevirtual 81, 3) := by decide +kernel
theorem ck_12_virtual_81 : m_call 12 (.invokevirtual 81) = some (0, 211, 1) := by decide +kernel
theorem B281_790_791 : s_dk T281.2.2.1 790 [.pop] 791 = true := by decide +kernel
theorem D281_791 : decode T281.2.2.1 791 = .ok (.goto 526, 3) := by decide +kernel
theorem B281_794_795 : s_dk T281.2.2.1 794 [.aload_n 1] 795 = true := by decide +kernel
theorem D281_795 : decode T281.2.2.1 795 = .ok (.invokevirtual 82, 3) := by decide +kernel
theorem ck_12_virtual_82 : m_call 12 (.invokevirtual 82) = some (0, 112, 0) := by decide +kernel
theorem B281_798_799 : s_dk T281.2.2.1 798 [.aload_n 2] 799 = true := by decide +kernel
theorem D281_799 : decode T281.2.2.1 799 = .ok (.invokevirtual 86, 3) := by decide +kernel
theorem ck_12_virtual_86 : m_call 12 (.invokevirtual 86) = some (0, 230, 0) := by decide +kernel
theorem D281_802 : decode T281.2.2.1 802 = .ok (.if_icmp .eq 515, 3) := by decide +kernel
theorem B281_805_806 : s_dk T281.2.2.1 805 [.iconst 0] 806 = true := by decide +kernel
theorem D281_806 : decode T281.2.2.1 806 = .ok (.ireturn, 1) := by decide +kernel
theorem B281_807_808 : s_dk T281.2.2.1 807 [.aload_n 1] 808 = true := by decide +kernel
theorem D281_808 : decode T281.2.2.1 808 = .ok (.invokevirtual 87, 3) := by decide +kernel
theorem ck_12_virtual_87 : m_call 12 (.invokevirtual 87) = some (0, 113, 0) := by decide +kernel
theorem B281_811_813 : s_dk T281.2.2.1 811 [.pop, .aload_n 2] 813 = true := by decide +kernel
theorem D281_813 : decode T281.2.2.1 813 = .ok (.invokevirtual 90, 3) := by decide +kernel
theorem ck_12_virtual_90 : m_call 12 (.invokevirtual 90) = some (0, 231, 0) := by decide +kernel
theorem B281_816_817 : s_dk T281.2.2.1 816 [.pop] 817 = true := by decide +kernel
theorem D281_817 : decode T281.2.2.1 817 = .ok (.goto 500, 3) := by decide +kernel
theorem B281_820_825 : s_dk T281.2.2.1 820 [.aload_n 1, .aload_n 0, .iload_n 3, .iconst 1, .iadd] 825 = true := by decide +kernel
theorem D281_825 : decode T281.2.2.1 825 = .ok (.iaload, 1) := by decide +kernel
theorem B281_826_830 : s_dk T281.2.2.1 826 [.aload_n 0, .iload_n 3, .iconst 2, .iadd] 830 = true := by decide +kernel
theorem D281_830 : decode T281.2.2.1 830 = .ok (.iaload, 1) := by decide +kernel
theorem D281_831 : decode T281.2.2.1 831 = .ok (.invokevirtual 91, 3) := by decide +kernel
theorem ck_12_virtual_91 : m_call 12 (.invokevirtual 91) = some (0, 114, 2) := by decide +kernel
theorem B281_834_840 : s_dk T281.2.2.1 834 [.pop, .aload_n 2, .aload_n 0, .iload_n 3, .iconst 1, .iadd] 840 = true := by decide +kernel
theorem D281_840 : decode T281.2.2.1 840 = .ok (.iaload, 1) := by decide +kernel
theorem B281_841_845 : s_dk T281.2.2.1 841 [.aload_n 0, .iload_n 3, .iconst 2, .iadd] 845 = true := by decide +kernel
theorem D281_845 : decode T281.2.2.1 845 = .ok (.iaload, 1) := by decide +kernel
theorem D281_846 : decode T281.2.2.1 846 = .ok (.invokevirtual 94, 3) := by decide +kernel
theorem ck_12_virtual_94 : m_call 12 (.invokevirtual 94) = some (0, 248, 2) := by decide +kernel
theorem B281_849_850 : s_dk T281.2.2.1 849 [.pop] 850 = true := by decide +kernel
theorem D281_850 : decode T281.2.2.1 850 = .ok (.goto 467, 3) := by decide +kernel
theorem B281_853_858 : s_dk T281.2.2.1 853 [.aload_n 1, .aload_n 0, .iload_n 3, .iconst 1, .iadd] 858 = true := by decide +kernel
theorem D281_858 : decode T281.2.2.1 858 = .ok (.iaload, 1) := by decide +kernel
theorem D281_859 : decode T281.2.2.1 859 = .ok (.invokevirtual 95, 3) := by decide +kernel
theorem ck_12_virtual_95 : m_call 12 (.invokevirtual 95) = some (0, 115, 1) := by decide +kernel
theorem B281_862_868 : s_dk T281.2.2.1 862 [.pop, .aload_n 2, .aload_n 0, .iload_n 3, .iconst 1, .iadd] 868 = true := by decide +kernel
theorem D281_868 : decode T281.2.2.1 868 = .ok (.iaload, 1) := by decide +kernel
theorem D281_869 : decode T281.2.2.1 869 = .ok (.invokevirtual 98, 3) := by decide +kernel
theorem ck_12_virtual_98 : m_call 12 (.invokevirtual 98) = some (0, 249, 1) := by decide +kernel
theorem B281_872_873 : s_dk T281.2.2.1 872 [.pop] 873 = true := by decide +kernel
theorem D281_873 : decode T281.2.2.1 873 = .ok (.goto 444, 3) := by decide +kernel
theorem B281_876_881 : s_dk T281.2.2.1 876 [.aload_n 1, .aload_n 0, .iload_n 3, .iconst 1, .iadd] 881 = true := by decide +kernel
theorem D281_881 : decode T281.2.2.1 881 = .ok (.iaload, 1) := by decide +kernel
theorem D281_882 : decode T281.2.2.1 882 = .ok (.invokevirtual 99, 3) := by decide +kernel
theorem ck_12_virtual_99 : m_call 12 (.invokevirtual 99) = some (0, 116, 1) := by decide +kernel
theorem B281_885_891 : s_dk T281.2.2.1 885 [.pop2, .aload_n 2, .aload_n 0, .iload_n 3, .iconst 1, .iadd] 891 = true := by decide +kernel
theorem D281_891 : decode T281.2.2.1 891 = .ok (.iaload, 1) := by decide +kernel
theorem D281_892 : decode T281.2.2.1 892 = .ok (.invokevirtual 103, 3) := by decide +kernel
theorem ck_12_virtual_103 : m_call 12 (.invokevirtual 103) = some (0, 250, 1) := by decide +kernel
theorem B281_895_896 : s_dk T281.2.2.1 895 [.pop2] 896 = true := by decide +kernel
theorem D281_896 : decode T281.2.2.1 896 = .ok (.goto 421, 3) := by decide +kernel
theorem B281_899_900 : s_dk T281.2.2.1 899 [.aload_n 1] 900 = true := by decide +kernel
theorem D281_900 : decode T281.2.2.1 900 = .ok (.invokevirtual 104, 3) := by decide +kernel
theorem ck_12_virtual_104 : m_call 12 (.invokevirtual 104) = some (0, 117, 0) := by decide +kernel
theorem B281_903_905 : s_dk T281.2.2.1 903 [.pop2, .aload_n 2] 905 = true := by decide +kernel
theorem D281_905 : decode T281.2.2.1 905 = .ok (.invokevirtual 107, 3) := by decide +kernel
theorem ck_12_virtual_107 : m_call 12 (.invokevirtual 107) = some (0, 206, 0) := by decide +kernel
theorem B281_908_909 : s_dk T281.2.2.1 908 [.pop2] 909 = true := by decide +kernel
theorem D281_909 : decode T281.2.2.1 909 = .ok (.goto 408, 3) := by decide +kernel
theorem B281_912_917 : s_dk T281.2.2.1 912 [.aload_n 1, .aload_n 0, .iload_n 3, .iconst 1, .iadd] 917 = true := by decide +kernel
theorem D281_917 : decode T281.2.2.1 917 = .ok (.iaload, 1) := by decide +kernel
theorem D281_918 : decode T281.2.2.1 918 = .ok (.invokevirtual 108, 3) := by decide +kernel
theorem ck_12_virtual_108 : m_call 12 (.invokevirtual 108) = some (0, 118, 1) := by decide +kernel
theorem B281_921_927 : s_dk T281.2.2.1 921 [.pop2, .aload_n 2, .aload_n 0, .iload_n 3, .iconst 1, .iadd] 927 = true := by decide +kernel
theorem D281_927 : decode T281.2.2.1 927 = .ok (.iaload, 1) := by decide +kernel
theorem D281_928 : decode T281.2.2.1 928 = .ok (.invokevirtual 111, 3) := by decide +kernel
theorem ck_12_virtual_111 : m_call 12 (.invokevirtual 111) = some (0, 209, 1) := by decide +kernel
theorem B281_931_932 : s_dk T281.2.2.1 931 [.pop2] 932 = true := by decide +kernel
theorem D281_932 : decode T281.2.2.1 932 = .ok (.goto 385, 3) := by decide +kernel
theorem B281_935_940 : s_dk T281.2.2.1 935 [.aload_n 1, .aload_n 0, .iload_n 3, .iconst 1, .iadd] 940 = true := by decide +kernel
theorem D281_940 : decode T281.2.2.1 940 = .ok (.iaload, 1) := by decide +kernel
theorem B281_941_945 : s_dk T281.2.2.1 941 [.aload_n 0, .iload_n 3, .iconst 2, .iadd] 945 = true := by decide +kernel
theorem D281_945 : decode T281.2.2.1 945 = .ok (.iaload, 1) := by decide +kernel
theorem B281_946_950 : s_dk T281.2.2.1 946 [.aload_n 0, .iload_n 3, .iconst 3, .iadd] 950 = true := by decide +kernel
theorem D281_950 : decode T281.2.2.1 950 = .ok (.iaload, 1) := by decide +kernel
theorem D281_951 : decode T281.2.2.1 951 = .ok (.invokevirtual 112, 3) := by decide +kernel
theorem ck_12_virtual_112 : m_call 12 (.invokevirtual 112) = some (0, 119, 3) := by decide +kernel
theorem B281_954_960 : s_dk T281.2.2.1 954 [.pop, .aload_n 2, .aload_n 0, .iload_n 3, .iconst 1, .iadd] 960 = true := by decide +kernel
theorem D281_960 : decode T281.2.2.1 960 = .ok (.iaload, 1) := by decide +kernel
theorem B281_961_965 : s_dk T281.2.2.1 961 [.aload_n 0, .iload_n 3, .iconst 2, .iadd] 965 = true := by decide +kernel
theorem D281_965 : decode T281.2.2.1 965 = .ok (.iaload, 1) := by decide +kernel
theorem B281_966_970 : s_dk T281.2.2.1 966 [.aload_n 0, .iload_n 3, .iconst 3, .iadd] 970 = true := by decide +kernel
theorem D281_970 : decode T281.2.2.1 970 = .ok (.iaload, 1) := by decide +kernel
theorem D281_971 : decode T281.2.2.1 971 = .ok (.invokevirtual 115, 3) := by decide +kernel
theorem ck_12_virtual_115 : m_call 12 (.invokevirtual 115) = some (0, 251, 3) := by decide +kernel
theorem B281_974_975 : s_dk T281.2.2.1 974 [.pop] 975 = true := by decide +kernel
theorem D281_975 : decode T281.2.2.1 975 = .ok (.goto 342, 3) := by decide +kernel
theorem B281_978_979 : s_dk T281.2.2.1 978 [.aload_n 1] 979 = true := by decide +kernel
theorem D281_979 : decode T281.2.2.1 979 = .ok (.invokevirtual 116, 3) := by decide +kernel
theorem ck_12_virtual_116 : m_call 12 (.invokevirtual 116) = some (0, 120, 0) := by decide +kernel
theorem B281_982_984 : s_dk T281.2.2.1 982 [.pop, .aload_n 2] 984 = true := by decide +kernel
theorem D281_984 : decode T281.2.2.1 984 = .ok (.invokevirtual 119, 3) := by decide +kernel
theorem ck_12_virtual_119 : m_call 12 (.invokevirtual 119) = some (0, 254, 0) := by decide +kernel
theorem B281_987_988 : s_dk T281.2.2.1 987 [.pop] 988 = true := by decide +kernel
theorem D281_988 : decode T281.2.2.1 988 = .ok (.goto 329, 3) := by decide +kernel
theorem B281_991_996 : s_dk T281.2.2.1 991 [.aload_n 1, .aload_n 0, .iload_n 3, .iconst 1, .iadd] 996 = true := by decide +kernel
theorem D281_996 : decode T281.2.2.1 996 = .ok (.iaload, 1) := by decide +kernel
theorem D281_997 : decode T281.2.2.1 997 = .ok (.invokevirtual 120, 3) := by decide +kernel
theorem ck_12_virtual_120 : m_call 12 (.invokevirtual 120) = some (0, 121, 1) := by decide +kernel
theorem B281_1000_1006 : s_dk T281.2.2.1 1000 [.pop, .aload_n 2, .aload_n 0, .iload_n 3, .iconst 1, .iadd] 1006 = true := by decide +kernel
theorem D281_1006 : decode T281.2.2.1 1006 = .ok (.iaload, 1) := by decide +kernel
theorem D281_1007 : decode T281.2.2.1 1007 = .ok (.invokevirtual 123, 3) := by decide +kernel
theorem ck_12_virtual_123 : m_call 12 (.invokevirtual 123) = some (0, 255, 1) := by decide +kernel
theorem B281_1010_1011 : s_dk T281.2.2.1 1010 [.pop] 1011 = true := by decide +kernel
theorem D281_1011 : decode T281.2.2.1 1011 = .ok (.goto 306, 3) := by decide +kernel
theorem B281_1014_1019 : s_dk T281.2.2.1 1014 [.aload_n 1, .aload_n 0, .iload_n 3, .iconst 1, .iadd] 1019 = true := by decide +kernel
theorem D281_1019 : decode T281.2.2.1 1019 = .ok (.iaload, 1) := by decide +kernel
theorem B281_1020_1024 : s_dk T281.2.2.1 1020 [.aload_n 0, .iload_n 3, .iconst 2, .iadd] 1024 = true := by decide +kernel
theorem D281_1024 : decode T281.2.2.1 1024 = .ok (.iaload, 1) := by decide +kernel
theorem D281_1025 : decode T281.2.2.1 1025 = .ok (.invokevirtual 124, 3) := by decide +kernel
theorem ck_12_virtual_124 : m_call 12 (.invokevirtual 124) = some (0, 122, 2) := by decide +kernel
theorem B281_1028_1034 : s_dk T281.2.2.1 1028 [.pop, .aload_n 2, .aload_n 0, .iload_n 3, .iconst 1, .iadd] 1034 = true := by decide +kernel
theorem D281_1034 : decode T281.2.2.1 1034 = .ok (.iaload, 1) := by decide +kernel
theorem B281_1035_1039 : s_dk T281.2.2.1 1035 [.aload_n 0, .iload_n 3, .iconst 2, .iadd] 1039 = true := by decide +kernel
theorem D281_1039 : decode T281.2.2.1 1039 = .ok (.iaload, 1) := by decide +kernel
theorem D281_1040 : decode T281.2.2.1 1040 = .ok (.invokevirtual 127, 3) := by decide +kernel
theorem ck_12_virtual_127 : m_call 12 (.invokevirtual 127) = some (0, 256, 2) := by decide +kernel
theorem B281_1043_1044 : s_dk T281.2.2.1 1043 [.pop] 1044 = true := by decide +kernel
theorem D281_1044 : decode T281.2.2.1 1044 = .ok (.goto 273, 3) := by decide +kernel
theorem B281_1047_1052 : s_dk T281.2.2.1 1047 [.aload_n 1, .aload_n 0, .iload_n 3, .iconst 1, .iadd] 1052 = true := by decide +kernel
theorem D281_1052 : decode T281.2.2.1 1052 = .ok (.iaload, 1) := by decide +kernel
theorem D281_1053 : decode T281.2.2.1 1053 = .ok (.invokevirtual 128, 3) := by decide +kernel
theorem ck_12_virtual_128 : m_call 12 (.invokevirtual 128) = some (0, 123, 1) := by decide +kernel
theorem B281_1056_1062 : s_dk T281.2.2.1 1056 [.pop, .aload_n 2, .aload_n 0, .iload_n 3, .iconst 1, .iadd] 1062 = true := by decide +kernel
theorem D281_1062 : decode T281.2.2.1 1062 = .ok (.iaload, 1) := by decide +kernel
theorem D281_1063 : decode T281.2.2.1 1063 = .ok (.invokevirtual 131, 3) := by decide +kernel
theorem ck_12_virtual_131 : m_call 12 (.invokevirtual 131) = some (0, 257, 1) := by decide +kernel
theorem B281_1066_1067 : s_dk T281.2.2.1 1066 [.pop] 1067 = true := by decide +kernel
theorem D281_1067 : decode T281.2.2.1 1067 = .ok (.goto 250, 3) := by decide +kernel
theorem B281_1070_1075 : s_dk T281.2.2.1 1070 [.aload_n 1, .aload_n 0, .iload_n 3, .iconst 1, .iadd] 1075 = true := by decide +kernel
theorem D281_1075 : decode T281.2.2.1 1075 = .ok (.iaload, 1) := by decide +kernel
theorem D281_1076 : decode T281.2.2.1 1076 = .ok (.invokevirtual 132, 3) := by decide +kernel
theorem ck_12_virtual_132 : m_call 12 (.invokevirtual 132) = some (0, 124, 1) := by decide +kernel
theorem B281_1079_1085 : s_dk T281.2.2.1 1079 [.pop, .aload_n 2, .aload_n 0, .iload_n 3, .iconst 1, .iadd] 1085 = true := by decide +kernel
theorem D281_1085 : decode T281.2.2.1 1085 = .ok (.iaload, 1) := by decide +kernel
theorem D281_1086 : decode T281.2.2.1 1086 = .ok (.invokevirtual 135, 3) := by decide +kernel
theorem ck_12_virtual_135 : m_call 12 (.invokevirtual 135) = some (0, 258, 1) := by decide +kernel
theorem B281_1089_1090 : s_dk T281.2.2.1 1089 [.pop] 1090 = true := by decide +kernel
theorem D281_1090 : decode T281.2.2.1 1090 = .ok (.goto 227, 3) := by decide +kernel
theorem B281_1093_1098 : s_dk T281.2.2.1 1093 [.aload_n 1, .aload_n 0, .iload_n 3, .iconst 1, .iadd] 1098 = true := by decide +kernel
theorem D281_1098 : decode T281.2.2.1 1098 = .ok (.iaload, 1) := by decide +kernel
theorem B281_1099_1103 : s_dk T281.2.2.1 1099 [.aload_n 0, .iload_n 3, .iconst 2, .iadd] 1103 = true := by decide +kernel
theorem D281_1103 : decode T281.2.2.1 1103 = .ok (.iaload, 1) := by decide +kernel
theorem D281_1104 : decode T281.2.2.1 1104 = .ok (.invokevirtual 136, 3) := by decide +kernel
theorem ck_12_virtual_136 : m_call 12 (.invokevirtual 136) = some (0, 125, 2) := by decide +kernel
theorem B281_1107_1113 : s_dk T281.2.2.1 1107 [.pop, .aload_n 2, .aload_n 0, .iload_n 3, .iconst 1, .iadd] 1113 = true := by decide +kernel
theorem D281_1113 : decode T281.2.2.1 1113 = .ok (.iaload, 1) := by decide +kernel
theorem B281_1114_1118 : s_dk T281.2.2.1 1114 [.aload_n 0, .iload_n 3, .iconst 2, .iadd] 1118 = true := by decide +kernel
theorem D281_1118 : decode T281.2.2.1 1118 = .ok (.iaload, 1) := by decide +kernel
theorem D281_1119 : decode T281.2.2.1 1119 = .ok (.invokevirtual 139, 3) := by decide +kernel
theorem ck_12_virtual_139 : m_call 12 (.invokevirtual 139) = some (0, 260, 2) := by decide +kernel
theorem B281_1122_1123 : s_dk T281.2.2.1 1122 [.pop] 1123 = true := by decide +kernel
theorem D281_1123 : decode T281.2.2.1 1123 = .ok (.goto 194, 3) := by decide +kernel
theorem B281_1126_1131 : s_dk T281.2.2.1 1126 [.aload_n 1, .aload_n 0, .iload_n 3, .iconst 1, .iadd] 1131 = true := by decide +kernel
theorem D281_1131 : decode T281.2.2.1 1131 = .ok (.iaload, 1) := by decide +kernel
theorem B281_1132_1136 : s_dk T281.2.2.1 1132 [.aload_n 0, .iload_n 3, .iconst 2, .iadd] 1136 = true := by decide +kernel
theorem D281_1136 : decode T281.2.2.1 1136 = .ok (.iaload, 1) := by decide +kernel
theorem B281_1137_1141 : s_dk T281.2.2.1 1137 [.aload_n 0, .iload_n 3, .iconst 3, .iadd] 1141 = true := by decide +kernel
theorem D281_1141 : decode T281.2.2.1 1141 = .ok (.iaload, 1) := by decide +kernel
theorem B281_1142_1146 : s_dk T281.2.2.1 1142 [.aload_n 0, .iload_n 3, .iconst 4, .iadd] 1146 = true := by decide +kernel
theorem D281_1146 : decode T281.2.2.1 1146 = .ok (.iaload, 1) := by decide +kernel
theorem B281_1147_1151 : s_dk T281.2.2.1 1147 [.aload_n 0, .iload_n 3, .iconst 5, .iadd] 1151 = true := by decide +kernel
theorem D281_1151 : decode T281.2.2.1 1151 = .ok (.iaload, 1) := by decide +kernel
theorem D281_1152 : decode T281.2.2.1 1152 = .ok (.invokevirtual 140, 3) := by decide +kernel
theorem ck_12_virtual_140 : m_call 12 (.invokevirtual 140) = some (0, 126, 5) := by decide +kernel
theorem B281_1155_1161 : s_dk T281.2.2.1 1155 [.pop, .aload_n 2, .aload_n 0, .iload_n 3, .iconst 1, .iadd] 1161 = true := by decide +kernel
theorem D281_1161 : decode T281.2.2.1 1161 = .ok (.iaload, 1) := by decide +kernel
theorem B281_1162_1166 : s_dk T281.2.2.1 1162 [.aload_n 0, .iload_n 3, .iconst 2, .iadd] 1166 = true := by decide +kernel
theorem D281_1166 : decode T281.2.2.1 1166 = .ok (.iaload, 1) := by decide +kernel
theorem B281_1167_1171 : s_dk T281.2.2.1 1167 [.aload_n 0, .iload_n 3, .iconst 3, .iadd] 1171 = true := by decide +kernel
theorem D281_1171 : decode T281.2.2.1 1171 = .ok (.iaload, 1) := by decide +kernel
theorem B281_1172_1176 : s_dk T281.2.2.1 1172 [.aload_n 0, .iload_n 3, .iconst 4, .iadd] 1176 = true := by decide +kernel
theorem D281_1176 : decode T281.2.2.1 1176 = .ok (.iaload, 1) := by decide +kernel
theorem B281_1177_1181 : s_dk T281.2.2.1 1177 [.aload_n 0, .iload_n 3, .iconst 5, .iadd] 1181 = true := by decide +kernel
theorem D281_1181 : decode T281.2.2.1 1181 = .ok (.iaload, 1) := by decide +kernel
theorem D281_1182 : decode T281.2.2.1 1182 = .ok (.invokevirtual 143, 3) := by decide +kernel
theorem ck_12_virtual_143 : m_call 12 (.invokevirtual 143) = some (0, 261, 5) := by decide +kernel
theorem B281_1185_1186 : s_dk T281.2.2.1 1185 [.pop] 1186 = true := by decide +kernel
theorem D281_1186 : decode T281.2.2.1 1186 = .ok (.goto 131, 3) := by decide +kernel
theorem B281_1189_1194 : s_dk T281.2.2.1 1189 [.aload_n 1, .aload_n 0, .iload_n 3, .iconst 1, .iadd] 1194 = true := by decide +kernel
theorem D281_1194 : decode T281.2.2.1 1194 = .ok (.iaload, 1) := by decide +kernel
theorem D281_1195 : decode T281.2.2.1 1195 = .ok (.invokevirtual 144, 3) := by decide +kernel
theorem ck_12_virtual_144 : m_call 12 (.invokevirtual 144) = some (0, 127, 1) := by decide +kernel
theorem B281_1198_1204 : s_dk T281.2.2.1 1198 [.pop, .aload_n 2, .aload_n 0, .iload_n 3, .iconst 1, .iadd] 1204 = true := by decide +kernel
theorem D281_1204 : decode T281.2.2.1 1204 = .ok (.iaload, 1) := by decide +kernel
theorem D281_1205 : decode T281.2.2.1 1205 = .ok (.invokevirtual 147, 3) := by decide +kernel
theorem ck_12_virtual_147 : m_call 12 (.invokevirtual 147) = some (0, 262, 1) := by decide +kernel
theorem B281_1208_1209 : s_dk T281.2.2.1 1208 [.pop] 1209 = true := by decide +kernel
theorem D281_1209 : decode T281.2.2.1 1209 = .ok (.goto 108, 3) := by decide +kernel
theorem B281_1212_1217 : s_dk T281.2.2.1 1212 [.aload_n 1, .aload_n 0, .iload_n 3, .iconst 1, .iadd] 1217 = true := by decide +kernel
theorem D281_1217 : decode T281.2.2.1 1217 = .ok (.iaload, 1) := by decide +kernel
theorem D281_1218 : decode T281.2.2.1 1218 = .ok (.invokevirtual 148, 3) := by decide +kernel
theorem ck_12_virtual_148 : m_call 12 (.invokevirtual 148) = some (0, 128, 1) := by decide +kernel
theorem B281_1221_1227 : s_dk T281.2.2.1 1221 [.pop, .aload_n 2, .aload_n 0, .iload_n 3, .iconst 1, .iadd] 1227 = true := by decide +kernel
theorem D281_1227 : decode T281.2.2.1 1227 = .ok (.iaload, 1) := by decide +kernel
theorem D281_1228 : decode T281.2.2.1 1228 = .ok (.invokevirtual 151, 3) := by decide +kernel
theorem ck_12_virtual_151 : m_call 12 (.invokevirtual 151) = some (0, 264, 1) := by decide +kernel
theorem B281_1231_1232 : s_dk T281.2.2.1 1231 [.pop] 1232 = true := by decide +kernel
theorem D281_1232 : decode T281.2.2.1 1232 = .ok (.goto 85, 3) := by decide +kernel
theorem B281_1235_1240 : s_dk T281.2.2.1 1235 [.aload_n 1, .aload_n 0, .iload_n 3, .iconst 1, .iadd] 1240 = true := by decide +kernel
theorem D281_1240 : decode T281.2.2.1 1240 = .ok (.iaload, 1) := by decide +kernel
theorem D281_1241 : decode T281.2.2.1 1241 = .ok (.invokevirtual 152, 3) := by decide +kernel
theorem ck_12_virtual_152 : m_call 12 (.invokevirtual 152) = some (0, 129, 1) := by decide +kernel
theorem B281_1244_1250 : s_dk T281.2.2.1 1244 [.pop, .aload_n 2, .aload_n 0, .iload_n 3, .iconst 1, .iadd] 1250 = true := by decide +kernel
theorem D281_1250 : decode T281.2.2.1 1250 = .ok (.iaload, 1) := by decide +kernel
theorem D281_1251 : decode T281.2.2.1 1251 = .ok (.invokevirtual 155, 3) := by decide +kernel
theorem ck_12_virtual_155 : m_call 12 (.invokevirtual 155) = some (0, 151, 1) := by decide +kernel
theorem B281_1254_1255 : s_dk T281.2.2.1 1254 [.pop] 1255 = true := by decide +kernel
theorem D281_1255 : decode T281.2.2.1 1255 = .ok (.goto 62, 3) := by decide +kernel
theorem B281_1258_1263 : s_dk T281.2.2.1 1258 [.aload_n 1, .aload_n 0, .iload_n 3, .iconst 1, .iadd] 1263 = true := by decide +kernel
theorem D281_1263 : decode T281.2.2.1 1263 = .ok (.iaload, 1) := by decide +kernel
theorem D281_1264 : decode T281.2.2.1 1264 = .ok (.invokevirtual 156, 3) := by decide +kernel
theorem ck_12_virtual_156 : m_call 12 (.invokevirtual 156) = some (0, 130, 1) := by decide +kernel
theorem B281_1267_1273 : s_dk T281.2.2.1 1267 [.pop, .aload_n 2, .aload_n 0, .iload_n 3, .iconst 1, .iadd] 1273 = true := by decide +kernel
theorem D281_1273 : decode T281.2.2.1 1273 = .ok (.iaload, 1) := by decide +kernel
theorem D281_1274 : decode T281.2.2.1 1274 = .ok (.invokevirtual 159, 3) := by decide +kernel
theorem ck_12_virtual_159 : m_call 12 (.invokevirtual 159) = some (0, 152, 1) := by decide +kernel
theorem B281_1277_1278 : s_dk T281.2.2.1 1277 [.pop] 1278 = true := by decide +kernel
theorem D281_1278 : decode T281.2.2.1 1278 = .ok (.goto 39, 3) := by decide +kernel
theorem B281_1281_1286 : s_dk T281.2.2.1 1281 [.aload_n 1, .aload_n 0, .iload_n 3, .iconst 1, .iadd] 1286 = true := by decide +kernel
theorem D281_1286 : decode T281.2.2.1 1286 = .ok (.iaload, 1) := by decide +kernel
theorem D281_1287 : decode T281.2.2.1 1287 = .ok (.invokevirtual 160, 3) := by decide +kernel
theorem ck_12_virtual_160 : m_call 12 (.invokevirtual 160) = some (0, 131, 1) := by decide +kernel
theorem B281_1290_1296 : s_dk T281.2.2.1 1290 [.pop, .aload_n 2, .aload_n 0, .iload_n 3, .iconst 1, .iadd] 1296 = true := by decide +kernel
theorem D281_1296 : decode T281.2.2.1 1296 = .ok (.iaload, 1) := by decide +kernel
theorem D281_1297 : decode T281.2.2.1 1297 = .ok (.invokevirtual 163, 3) := by decide +kernel
theorem ck_12_virtual_163 : m_call 12 (.invokevirtual 163) = some (0, 265, 1) := by decide +kernel
theorem B281_1300_1301 : s_dk T281.2.2.1 1300 [.pop] 1301 = true := by decide +kernel
theorem D281_1301 : decode T281.2.2.1 1301 = .ok (.goto 16, 3) := by decide +kernel
theorem B281_1304_1305 : s_dk T281.2.2.1 1304 [.aload_n 1] 1305 = true := by decide +kernel
theorem D281_1305 : decode T281.2.2.1 1305 = .ok (.invokevirtual 164, 3) := by decide +kernel
theorem ck_12_virtual_164 : m_call 12 (.invokevirtual 164) = some (0, 132, 0) := by decide +kernel
theorem B281_1308_1310 : s_dk T281.2.2.1 1308 [.pop, .aload_n 2] 1310 = true := by decide +kernel
theorem D281_1310 : decode T281.2.2.1 1310 = .ok (.invokevirtual 167, 3) := by decide +kernel
theorem ck_12_virtual_167 : m_call 12 (.invokevirtual 167) = some (0, 266, 0) := by decide +kernel
theorem B281_1313_1314 : s_dk T281.2.2.1 1313 [.pop] 1314 = true := by decide +kernel
theorem D281_1314 : decode T281.2.2.1 1314 = .ok (.goto 3, 3) := by decide +kernel
set_option maxRecDepth 4000 in
set_option maxHeartbeats 4000000 in
theorem L_k281p {base : Nat} {X : Nat → Option mC} {G : Nat → Value} (E : EnvOK base X G) {b L : Nat} {f_ : Nat → Value} (ihr : SCR base X b L f_) {d : Nat} (hd : 179 ≤ d) {M : mH} (H : HI base M) (h0 : INVl base 0 M) (h1 : CSx base 0 z_T i_N 0 i_N 0 i_N M) (h2 : RSx 0 z_T i_N 0 i_N 0 i_N M) (h3 : HXc base (-1) 0 0 0 M) (h4 : HXr (-1) 0 0 0 M) : ∀ mz : Nat, (∀ (x3 gs ga gb hf hn hx hy : Int) (gT gN g0 g1 : Int → Int) (N : mH), HI base N → Ftr [(0, 0)] M N → (INVl base x3 N) → (CSx base gs gT gN ga g0 gb g1 N) → (RSx gs gT gN ga g0 gb g1 N) → (HXc base hf hn hx hy N) → (HXr hf hn hx hy N) → (0 ≤ x3 ∧ x3 ≤ 3072) → (0 ≤ x3) → (x3 ≤ 3072) → (3078 - x3) * 1 + 0 < (mz : Int) → sRn base X G d T281 18 [(0, vA b), (1, vR 0), (2, vR 77), (3, vI x3)] [] N (s_Q base (pI (fun v M' => HI base M' ∧ Ftr [(0, 0)] M M' ∧ (v = 0 ∨ v = 1) ∧ (v = 1) ∧ (M'.1 ≤ 600000 ∧ M'.2.1 ≤ 7302250))))) := by
  have f0 : Ftr [(0, 0)] M M := Ftr.rf
  intro mz
  induction mz with
  | zero => exact fun x3 gs ga gb hf hn hx hy gT gN g0 g1 N _ _ z0 z1 z2 z3 z4 z5 z6 z7 z8 => by omega
  | succ mz ih =>
    intro x3 gs ga gb hf hn hx hy gT gN g0 g1 N HN fN i0 i1 i2 i3 i4 i5 i6 i7 hmu
    have hL := ihr.2.2.1
    refine s_blx (lv' := [(0, vA b), (1, vR 0), (2, vR 77), (3, vI x3)]) (st' := [vA b, vI x3]) B281_18_20 rfl ?_
    refine r_lenS (pc' := 21) D281_20 rfl ihr ?_
    refine s_blx (lv' := [(0, vA b), (1, vR 0), (2, vR 77), (3, vI x3)]) (st' := [vI (((L : Nat) : Int) - 6), vI x3]) B281_21_24 rfl ?_
    refine r_icmp (tgt := 1323) (pc' := 27) D281_24 rfl rfl (by unfold inR; omega) (fun (c1 : (((L : Nat) : Int) - 6) < x3) => ?_) (fun (c1 : ¬ ((((L : Nat) : Int) - 6) < x3)) => ?_)
    · refine s_blx (lv' := [(0, vA b), (1, vR 0), (2, vR 77), (3, vI x3)]) (st' := [vI 1]) B281_1323_1324 rfl ?_
      exact r_zretI D281_1324 rfl (by omega) (⟨HN, fN, by omega, rfl, i0.room (by omega)⟩)
    · refine s_blx (lv' := [(0, vA b), (1, vR 0), (2, vR 77), (3, vI x3)]) (st' := [vI x3, vA b]) B281_27_29 rfl ?_
      refine r_aldE (pc' := 30) D281_29 rfl ihr (by omega) ?_
      intro r2; unfold inR at r2
      refine s_blx (lv' := [(0, vA b), (1, vR 0), (2, vR 77), (3, vI x3)]) (st' := [vI 63, vI (sv f_ x3)]) B281_30_32 rfl ?_
      refine r_and63 (pc' := 33) D281_32 rfl ?_
      refine r_tsw (tgt := fun k => if k = 0 then 196 else if k = 1 then 239 else if k = 2 then 272 else if k = 3 then 295 else if k = 4 then 338 else if k = 5 then 361 else if k = 6 then 404 else if k = 7 then 447 else if k = 8 then 480 else if k = 9 then 513 else if k = 10 then 576 else if k = 11 then 619 else if k = 12 then 632 else if k = 13 then 675 else if k = 14 then 708 else if k = 15 then 771 else if k = 16 then 794 else if k = 17 then 807 else if k = 18 then 820 else if k = 19 then 853 else if k = 20 then 876 else if k = 21 then 899 else if k = 22 then 912 else if k = 23 then 935 else if k = 24 then 978 else if k = 25 then 991 else if k = 26 then 1014 else if k = 27 then 1047 else if k = 28 then 1070 else if k = 29 then 1093 else if k = 30 then 1126 else if k = 31 then 1189 else if k = 32 then 1212 else if k = 33 then 1235 else if k = 34 then 1258 else if k = 35 then 1281 else if k = 36 then 1304 else 0) (td := 1317) D281_33 (by unfold inR; omega) ?_ rfl ?_ ?_
      · intro k h1 h2
        have hk : k = 0 ∨ k = 1 ∨ k = 2 ∨ k = 3 ∨ k = 4 ∨ k = 5 ∨ k = 6 ∨ k = 7 ∨ k = 8 ∨ k = 9 ∨ k = 10 ∨ k = 11 ∨ k = 12 ∨ k = 13 ∨ k = 14 ∨ k = 15 ∨ k = 16 ∨ k = 17 ∨ k = 18 ∨ k = 19 ∨ k = 20 ∨ k = 21 ∨ k = 22 ∨ k = 23 ∨ k = 24 ∨ k = 25 ∨ k = 26 ∨ k = 27 ∨ k = 28 ∨ k = 29 ∨ k = 30 ∨ k = 31 ∨ k = 32 ∨ k = 33 ∨ k = 34 ∨ k = 35 ∨ k = 36 := by omega
        rcases hk with rfl | rfl | rfl | rfl | rfl | rfl | rfl | rfl | rfl | rfl | rfl | rfl | rfl | rfl | rfl | rfl | rfl | rfl | rfl | rfl | rfl | rfl | rfl | rfl | rfl | rfl | rfl | rfl | rfl | rfl | rfl | rfl | rfl | rfl | rfl | rfl | rfl <;> exact ⟨_, rfl, rfl⟩
      · intro k h1 h2 c3
        have hk : k = 0 ∨ k = 1 ∨ k = 2 ∨ k = 3 ∨ k = 4 ∨ k = 5 ∨ k = 6 ∨ k = 7 ∨ k = 8 ∨ k = 9 ∨ k = 10 ∨ k = 11 ∨ k = 12 ∨ k = 13 ∨ k = 14 ∨ k = 15 ∨ k = 16 ∨ k = 17 ∨ k = 18 ∨ k = 19 ∨ k = 20 ∨ k = 21 ∨ k = 22 ∨ k = 23 ∨ k = 24 ∨ k = 25 ∨ k = 26 ∨ k = 27 ∨ k = 28 ∨ k = 29 ∨ k = 30 ∨ k = 31 ∨ k = 32 ∨ k = 33 ∨ k = 34 ∨ k = 35 ∨ k = 36 := by omega
        clear h1 h2
        rcases hk with rfl | rfl | rfl | rfl | rfl | rfl | rfl | rfl | rfl | rfl | rfl | rfl | rfl | rfl | rfl | rfl | rfl | rfl | rfl | rfl | rfl | rfl | rfl | rfl | rfl | rfl | rfl | rfl | rfl | rfl | rfl | rfl | rfl | rfl | rfl | rfl | rfl
        · show sRn _ _ _ _ _ 196 _ _ _ _
          refine s_blx (lv' := [(0, vA b), (1, vR 0), (2, vR 77), (3, vI x3)]) (st' := [vI (x3 + 1), vA b, vR 0]) B281_196_201 rfl ?_
          refine r_aldE (pc' := 202) D281_201 rfl ihr (by omega) ?_
          intro r4; unfold inR at r4
          refine s_blx (lv' := [(0, vA b), (1, vR 0), (2, vR 77), (3, vI x3)]) (st' := [vI (x3 + 2), vA b, vI (sv f_ (x3 + 1)), vR 0]) B281_202_206 rfl ?_
          refine r_aldE (pc' := 207) D281_206 rfl ihr (by omega) ?_
          intro r5; unfold inR at r5
          refine s_blx (lv' := [(0, vA b), (1, vR 0), (2, vR 77), (3, vI x3)]) (st' := [vI (x3 + 3), vA b, vI (sv f_ (x3 + 2)), vI (sv f_ (x3 + 1)), vR 0]) B281_207_211 rfl ?_
          refine r_aldE (pc' := 212) D281_211 rfl ihr (by omega) ?_
          intro r6; unfold inR at r6
          refine r_vI (c := 0) (args := [vI (sv f_ (x3 + 1)), vI (sv f_ (x3 + 2)), vI (sv f_ (x3 + 3))]) (rest := []) (pc' := 215) D281_212 rfl ck_12_virtual_13 TE96 rfl (Nat.le_of_ble_eq_true rfl) ⟨Nat.le_of_ble_eq_true rfl, Nat.le_of_ble_eq_true rfl⟩ sc_0 ⟨rfl, by decide⟩ HN.1 (by omega) (V96 E (by omega) HN (sv f_ (x3 + 1)) (sv f_ (x3 + 2)) (sv f_ (x3 + 3)) x3 gs gT gN ga g0 gb g1 hf hn hx hy (i0) (i1) (i2) (i3) (i4) (by omega) (by omega) (by omega)) ?_
          intro v7 M8 q18
          obtain ⟨H9, f10, q11, q12, q13, q14, q15, q16, q17⟩ := q18
          have f19 := fN.tr (f10.up rfl)
          refine s_blx (lv' := [(0, vA b), (1, vR 0), (2, vR 77), (3, vI x3)]) (st' := [vI (x3 + 1), vA b, vR 77]) B281_215_221 rfl ?_
          refine r_aldE (pc' := 222) D281_221 rfl ihr (by omega) ?_
          intro r20; unfold inR at r20
          refine s_blx (lv' := [(0, vA b), (1, vR 0), (2, vR 77), (3, vI x3)]) (st' := [vI (x3 + 2), vA b, vI (sv f_ (x3 + 1)), vR 77]) B281_222_226 rfl ?_
          refine r_aldE (pc' := 227) D281_226 rfl ihr (by omega) ?_
          intro r21; unfold inR at r21
          refine s_blx (lv' := [(0, vA b), (1, vR 0), (2, vR 77), (3, vI x3)]) (st' := [vI (x3 + 3), vA b, vI (sv f_ (x3 + 2)), vI (sv f_ (x3 + 1)), vR 77]) B281_227_231 rfl ?_
          refine r_aldE (pc' := 232) D281_231 rfl ihr (by omega) ?_
          intro r22; unfold inR at r22
          refine r_vI (c := 77) (args := [vI (sv f_ (x3 + 1)), vI (sv f_ (x3 + 2)), vI (sv f_ (x3 + 3))]) (rest := []) (pc' := 235) D281_232 rfl ck_12_virtual_17 TE161 rfl (Nat.le_of_ble_eq_true rfl) ⟨Nat.le_of_ble_eq_true rfl, Nat.le_of_ble_eq_true rfl⟩ sc_77 ⟨rfl, by decide⟩ H9.1 (by omega) (V161 E (by omega) H9 (sv f_ (x3 + 1)) (sv f_ (x3 + 2)) (sv f_ (x3 + 3)) (x3 + 6) gs gT gN ga g0 gb g1 hf hn hx hy (q11) (q12) (q13) (q14) (q15) (by omega) (by omega) (by omega)) ?_
          intro v23 M24 q34
          obtain ⟨H25, f26, q27, q28, q29, q30, q31, q32, q33⟩ := q34
          have f35 := f19.tr (f26.up rfl)
          refine s_blx (lv' := [(0, vA b), (1, vR 0), (2, vR 77), (3, vI x3)]) (st' := []) B281_235_236 rfl ?_
          refine r_goto (tgt := 1317) D281_236 rfl ?_
          refine s_blx (lv' := [(3, vI (x3 + 6)), (0, vA b), (1, vR 0), (2, vR 77)]) (st' := []) B281_1317_1320 rfl ?_
          refine r_goto (tgt := 18) D281_1320 rfl ?_
          refine r_loc (lv' := [(0, vA b), (1, vR 0), (2, vR 77), (3, vI (x3 + 6))]) ⟨rfl, rfl, rfl, rfl, trivial⟩ rfl rfl ?_
          exact ih (x3 + 6) gs ga gb hf hn hx hy gT (stN (WV (sv f_ (x3 + 1)) (sv f_ (x3 + 2)) (sv f_ (x3 + 3))) gN (30 * (sv f_ (x3 + 2)) + (sv f_ (x3 + 1))) (sv f_ (x3 + 3))) g0 g1 M24 H25 f35 (q27) (q28) (q29) (q30) (q31) (by omega) (by omega) (by omega) (by omega)
        · show sRn _ _ _ _ _ 239 _ _ _ _
          refine s_blx (lv' := [(0, vA b), (1, vR 0), (2, vR 77), (3, vI x3)]) (st' := [vI (x3 + 1), vA b, vR 0]) B281_239_244 rfl ?_
          refine r_aldE (pc' := 245) D281_244 rfl ihr (by omega) ?_
          intro r36; unfold inR at r36
          refine s_blx (lv' := [(0, vA b), (1, vR 0), (2, vR 77), (3, vI x3)]) (st' := [vI (x3 + 2), vA b, vI (sv f_ (x3 + 1)), vR 0]) B281_245_249 rfl ?_
          refine r_aldE (pc' := 250) D281_249 rfl ihr (by omega) ?_
          intro r37; unfold inR at r37
          refine r_vI (c := 0) (args := [vI (sv f_ (x3 + 1)), vI (sv f_ (x3 + 2))]) (rest := []) (pc' := 253) D281_250 rfl ck_12_virtual_18 TE97 rfl (Nat.le_of_ble_eq_true rfl) ⟨Nat.le_of_ble_eq_true rfl, Nat.le_of_ble_eq_true rfl⟩ sc_0 ⟨rfl, by decide⟩ HN.1 (by omega) (V97 E (by omega) HN (sv f_ (x3 + 1)) (sv f_ (x3 + 2)) x3 gs gT gN ga g0 gb g1 hf hn hx hy (i0) (i1) (i2) (i3) (i4) (by omega) (by omega)) ?_
          intro v38 M39 q49
          obtain ⟨H40, f41, q42, q43, q44, q45, q46, q47, q48⟩ := q49
          have f50 := fN.tr (f41.up rfl)
          refine s_blx (lv' := [(0, vA b), (1, vR 0), (2, vR 77), (3, vI x3)]) (st' := [vI (x3 + 1), vA b, vR 77]) B281_253_259 rfl ?_
          refine r_aldE (pc' := 260) D281_259 rfl ihr (by omega) ?_
          intro r51; unfold inR at r51
          refine s_blx (lv' := [(0, vA b), (1, vR 0), (2, vR 77), (3, vI x3)]) (st' := [vI (x3 + 2), vA b, vI (sv f_ (x3 + 1)), vR 77]) B281_260_264 rfl ?_
          refine r_aldE (pc' := 265) D281_264 rfl ihr (by omega) ?_
          intro r52; unfold inR at r52
          refine r_vI (c := 77) (args := [vI (sv f_ (x3 + 1)), vI (sv f_ (x3 + 2))]) (rest := []) (pc' := 268) D281_265 rfl ck_12_virtual_22 TE162 rfl (Nat.le_of_ble_eq_true rfl) ⟨Nat.le_of_ble_eq_true rfl, Nat.le_of_ble_eq_true rfl⟩ sc_77 ⟨rfl, by decide⟩ H40.1 (by omega) (V162 E (by omega) H40 (sv f_ (x3 + 1)) (sv f_ (x3 + 2)) (x3 + 6) gs gT gN ga g0 gb g1 hf hn hx hy (q42) (q43) (q44) (q45) (q46) (by omega) (by omega)) ?_
          intro v53 M54 q64
          obtain ⟨H55, f56, q57, q58, q59, q60, q61, q62, q63⟩ := q64
          have f65 := f50.tr (f56.up rfl)
          refine s_blx (lv' := [(0, vA b), (1, vR 0), (2, vR 77), (3, vI x3)]) (st' := []) B281_268_269 rfl ?_
          refine r_goto (tgt := 1317) D281_269 rfl ?_
          refine s_blx (lv' := [(3, vI (x3 + 6)), (0, vA b), (1, vR 0), (2, vR 77)]) (st' := []) B281_1317_1320 rfl ?_
          refine r_goto (tgt := 18) D281_1320 rfl ?_
          refine r_loc (lv' := [(0, vA b), (1, vR 0), (2, vR 77), (3, vI (x3 + 6))]) ⟨rfl, rfl, rfl, rfl, trivial⟩ rfl rfl ?_
          exact ih (x3 + 6) gs ga gb hf hn hx hy gT (stN (TV (sv f_ (x3 + 1)) (sv f_ (x3 + 2))) gN (90 + (sv f_ (x3 + 1))) (sv f_ (x3 + 2))) g0 g1 M54 H55 f65 (q57) (q58) (q59) (q60) (q61) (by omega) (by omega) (by omega) (by omega)
        · show sRn _ _ _ _ _ 272 _ _ _ _
          refine s_blx (lv' := [(0, vA b), (1, vR 0), (2, vR 77), (3, vI x3)]) (st' := [vI (x3 + 1), vA b, vR 0]) B281_272_277 rfl ?_
          refine r_aldE (pc' := 278) D281_277 rfl ihr (by omega) ?_
          intro r66; unfold inR at r66
          refine r_vI (c := 0) (args := [vI (sv f_ (x3 + 1))]) (rest := []) (pc' := 281) D281_278 rfl ck_12_virtual_23 TE98 rfl (Nat.le_of_ble_eq_true rfl) ⟨Nat.le_of_ble_eq_true rfl, Nat.le_of_ble_eq_true rfl⟩ sc_0 ⟨rfl, by decide⟩ HN.1 (by omega) (V98 E (by omega) HN (sv f_ (x3 + 1)) x3 gs gT gN ga g0 gb g1 hf hn hx hy (i0) (i1) (i2) (i3) (i4) (by omega)) ?_
          intro v67 M68 q78
          obtain ⟨H69, f70, q71, q72, q73, q74, q75, q76, q77⟩ := q78
          have f79 := fN.tr (f70.up rfl)
          refine s_blx (lv' := [(0, vA b), (1, vR 0), (2, vR 77), (3, vI x3)]) (st' := [vI (x3 + 1), vA b, vR 77]) B281_281_287 rfl ?_
          refine r_aldE (pc' := 288) D281_287 rfl ihr (by omega) ?_
          intro r80; unfold inR at r80
          refine r_vI (c := 77) (args := [vI (sv f_ (x3 + 1))]) (rest := []) (pc' := 291) D281_288 rfl ck_12_virtual_27 TE163 rfl (Nat.le_of_ble_eq_true rfl) ⟨Nat.le_of_ble_eq_true rfl, Nat.le_of_ble_eq_true rfl⟩ sc_77 ⟨rfl, by decide⟩ H69.1 (by omega) (V163 E (by omega) H69 (sv f_ (x3 + 1)) (x3 + 6) gs gT gN ga g0 gb g1 hf hn hx hy (q71) (q72) (q73) (q74) (q75) (by omega)) ?_
          intro v81 M82 q92
          obtain ⟨H83, f84, q85, q86, q87, q88, q89, q90, q91⟩ := q92
          have f93 := f79.tr (f84.up rfl)
          refine s_blx (lv' := [(0, vA b), (1, vR 0), (2, vR 77), (3, vI x3)]) (st' := []) B281_291_292 rfl ?_
          refine r_goto (tgt := 1317) D281_292 rfl ?_
          refine s_blx (lv' := [(3, vI (x3 + 6)), (0, vA b), (1, vR 0), (2, vR 77)]) (st' := []) B281_1317_1320 rfl ?_
          refine r_goto (tgt := 18) D281_1320 rfl ?_
          refine r_loc (lv' := [(0, vA b), (1, vR 0), (2, vR 77), (3, vI (x3 + 6))]) ⟨rfl, rfl, rfl, rfl, trivial⟩ rfl rfl ?_
          exact ih (x3 + 6) gs ga gb hf hn hx hy gT (stN (OV (sv f_ (x3 + 1))) gN 473 (sv f_ (x3 + 1))) g0 g1 M82 H83 f93 (q85) (q86) (q87) (q88) (q89) (by omega) (by omega) (by omega) (by omega)
        · show sRn _ _ _ _ _ 295 _ _ _ _
          refine s_blx (lv' := [(0, vA b), (1, vR 0), (2, vR 77), (3, vI x3)]) (st' := [vI (x3 + 1), vA b, vR 0]) B281_295_300 rfl ?_
          refine r_aldE (pc' := 301) D281_300 rfl ihr (by omega) ?_
          intro r94; unfold inR at r94
          refine s_blx (lv' := [(0, vA b), (1, vR 0), (2, vR 77), (3, vI x3)]) (st' := [vI (x3 + 2), vA b, vI (sv f_ (x3 + 1)), vR 0]) B281_301_305 rfl ?_
          refine r_aldE (pc' := 306) D281_305 rfl ihr (by omega) ?_
          intro r95; unfold inR at r95
          refine s_blx (lv' := [(0, vA b), (1, vR 0), (2, vR 77), (3, vI x3)]) (st' := [vI (x3 + 3), vA b, vI (sv f_ (x3 + 2)), vI (sv f_ (x3 + 1)), vR 0]) B281_306_310 rfl ?_
          refine r_aldE (pc' := 311) D281_310 rfl ihr (by omega) ?_
          intro r96; unfold inR at r96
          refine r_vI (c := 0) (args := [vI (sv f_ (x3 + 1)), vI (sv f_ (x3 + 2)), vI (sv f_ (x3 + 3))]) (rest := []) (pc' := 314) D281_311 rfl ck_12_virtual_28 TE99 rfl (Nat.le_of_ble_eq_true rfl) ⟨Nat.le_of_ble_eq_true rfl, Nat.le_of_ble_eq_true rfl⟩ sc_0 ⟨rfl, by decide⟩ HN.1 (by omega) (V99 E (by omega) HN (sv f_ (x3 + 1)) (sv f_ (x3 + 2)) (sv f_ (x3 + 3)) x3 gs gT gN ga g0 gb g1 hf hn hx hy (i0) (i1) (i2) (i3) (i4) (by omega) (by omega) (by omega)) ?_
          intro v97 M98 q108
          obtain ⟨H99, f100, q101, q102, q103, q104, q105, q106, q107⟩ := q108
          have f109 := fN.tr (f100.up rfl)
          refine s_blx (lv' := [(0, vA b), (1, vR 0), (2, vR 77), (3, vI x3)]) (st' := [vI (x3 + 1), vA b, vR 77]) B281_314_320 rfl ?_
          refine r_aldE (pc' := 321) D281_320 rfl ihr (by omega) ?_
          intro r110; unfold inR at r110
          refine s_blx (lv' := [(0, vA b), (1, vR 0), (2, vR 77), (3, vI x3)]) (st' := [vI (x3 + 2), vA b, vI (sv f_ (x3 + 1)), vR 77]) B281_321_325 rfl ?_
          refine r_aldE (pc' := 326) D281_325 rfl ihr (by omega) ?_
          intro r111; unfold inR at r111
          refine s_blx (lv' := [(0, vA b), (1, vR 0), (2, vR 77), (3, vI x3)]) (st' := [vI (x3 + 3), vA b, vI (sv f_ (x3 + 2)), vI (sv f_ (x3 + 1)), vR 77]) B281_326_330 rfl ?_
          refine r_aldE (pc' := 331) D281_330 rfl ihr (by omega) ?_
          intro r112; unfold inR at r112
          refine r_vI (c := 77) (args := [vI (sv f_ (x3 + 1)), vI (sv f_ (x3 + 2)), vI (sv f_ (x3 + 3))]) (rest := []) (pc' := 334) D281_331 rfl ck_12_virtual_31 TE164 rfl (Nat.le_of_ble_eq_true rfl) ⟨Nat.le_of_ble_eq_true rfl, Nat.le_of_ble_eq_true rfl⟩ sc_77 ⟨rfl, by decide⟩ H99.1 (by omega) (V164 E (by omega) H99 (sv f_ (x3 + 1)) (sv f_ (x3 + 2)) (sv f_ (x3 + 3)) (x3 + 6) gs gT gN ga g0 gb g1 hf hn hx hy (q101) (q102) (q103) (q104) (q105) (by omega) (by omega) (by omega)) ?_
          intro v113 M114 q124
          obtain ⟨H115, f116, q117, q118, q119, q120, q121, q122, q123⟩ := q124
          have f125 := f109.tr (f116.up rfl)
          refine s_blx (lv' := [(0, vA b), (1, vR 0), (2, vR 77), (3, vI x3)]) (st' := []) B281_334_335 rfl ?_
          refine r_goto (tgt := 1317) D281_335 rfl ?_
          refine s_blx (lv' := [(3, vI (x3 + 6)), (0, vA b), (1, vR 0), (2, vR 77)]) (st' := []) B281_1317_1320 rfl ?_
          refine r_goto (tgt := 18) D281_1320 rfl ?_
          refine r_loc (lv' := [(0, vA b), (1, vR 0), (2, vR 77), (3, vI (x3 + 6))]) ⟨rfl, rfl, rfl, rfl, trivial⟩ rfl rfl ?_
          exact ih (x3 + 6) gs ga gb hf hn hx hy gT (ctN (NV (sv f_ (x3 + 1)) (sv f_ (x3 + 2)) (sv f_ (x3 + 3))) gN 99 470 12 (sv f_ (x3 + 1)) (sv f_ (x3 + 2)) (sv f_ (x3 + 3))) g0 g1 M114 H115 f125 (q117) (q118) (q119) (q120) (q121) (by omega) (by omega) (by omega) (by omega)
        · show sRn _ _ _ _ _ 338 _ _ _ _
          refine s_blx (lv' := [(0, vA b), (1, vR 0), (2, vR 77), (3, vI x3)]) (st' := [vI (x3 + 1), vA b, vR 0]) B281_338_343 rfl ?_
          refine r_aldE (pc' := 344) D281_343 rfl ihr (by omega) ?_
          intro r126; unfold inR at r126
          refine r_vI (c := 0) (args := [vI (sv f_ (x3 + 1))]) (rest := []) (pc' := 347) D281_344 rfl ck_12_virtual_32 TE100 rfl (Nat.le_of_ble_eq_true rfl) ⟨Nat.le_of_ble_eq_true rfl, Nat.le_of_ble_eq_true rfl⟩ sc_0 ⟨rfl, by decide⟩ HN.1 (by omega) (V100 E (by omega) HN (sv f_ (x3 + 1)) x3 gs gT gN ga g0 gb g1 hf hn hx hy (i0) (i1) (i2) (i3) (i4) (by omega)) ?_
          intro v127 M128 q138
          obtain ⟨H129, f130, q131, q132, q133, q134, q135, q136, q137⟩ := q138
          have f139 := fN.tr (f130.up rfl)
          refine s_blx (lv' := [(0, vA b), (1, vR 0), (2, vR 77), (3, vI x3)]) (st' := [vI (x3 + 1), vA b, vR 77]) B281_347_353 rfl ?_
          refine r_aldE (pc' := 354) D281_353 rfl ihr (by omega) ?_
          intro r140; unfold inR at r140
          refine r_vI (c := 77) (args := [vI (sv f_ (x3 + 1))]) (rest := []) (pc' := 357) D281_354 rfl ck_12_virtual_35 TE165 rfl (Nat.le_of_ble_eq_true rfl) ⟨Nat.le_of_ble_eq_true rfl, Nat.le_of_ble_eq_true rfl⟩ sc_77 ⟨rfl, by decide⟩ H129.1 (by omega) (V165 E (by omega) H129 (sv f_ (x3 + 1)) (x3 + 6) gs gT gN ga g0 gb g1 hf hn hx hy (q131) (q132) (q133) (q134) (q135) (by omega)) ?_
          intro v141 M142 q152
          obtain ⟨H143, f144, q145, q146, q147, q148, q149, q150, q151⟩ := q152
          have f153 := f139.tr (f144.up rfl)
          refine s_blx (lv' := [(0, vA b), (1, vR 0), (2, vR 77), (3, vI x3)]) (st' := []) B281_357_358 rfl ?_
          refine r_goto (tgt := 1317) D281_358 rfl ?_
          refine s_blx (lv' := [(3, vI (x3 + 6)), (0, vA b), (1, vR 0), (2, vR 77)]) (st' := []) B281_1317_1320 rfl ?_
          refine r_goto (tgt := 18) D281_1320 rfl ?_
          refine r_loc (lv' := [(0, vA b), (1, vR 0), (2, vR 77), (3, vI (x3 + 6))]) ⟨rfl, rfl, rfl, rfl, trivial⟩ rfl rfl ?_
          exact ih (x3 + 6) gs ga gb hf hn hx hy gT (stN (PV (sv f_ (x3 + 1))) gN 474 (sv f_ (x3 + 1))) g0 g1 M142 H143 f153 (q145) (q146) (q147) (q148) (q149) (by omega) (by omega) (by omega) (by omega)
        · show sRn _ _ _ _ _ 361 _ _ _ _
          refine s_blx (lv' := [(0, vA b), (1, vR 0), (2, vR 77), (3, vI x3)]) (st' := [vI (x3 + 1), vA b, vR 0]) B281_361_366 rfl ?_
          refine r_aldE (pc' := 367) D281_366 rfl ihr (by omega) ?_
          intro r154; unfold inR at r154
          refine s_blx (lv' := [(0, vA b), (1, vR 0), (2, vR 77), (3, vI x3)]) (st' := [vI (x3 + 2), vA b, vI (sv f_ (x3 + 1)), vR 0]) B281_367_371 rfl ?_
          refine r_aldE (pc' := 372) D281_371 rfl ihr (by omega) ?_
          intro r155; unfold inR at r155
          refine s_blx (lv' := [(0, vA b), (1, vR 0), (2, vR 77), (3, vI x3)]) (st' := [vI (x3 + 3), vA b, vI (sv f_ (x3 + 2)), vI (sv f_ (x3 + 1)), vR 0]) B281_372_376 rfl ?_
          refine r_aldE (pc' := 377) D281_376 rfl ihr (by omega) ?_
          intro r156; unfold inR at r156
          refine r_vI (c := 0) (args := [vI (sv f_ (x3 + 1)), vI (sv f_ (x3 + 2)), vI (sv f_ (x3 + 3))]) (rest := []) (pc' := 380) D281_377 rfl ck_12_virtual_36 TE101 rfl (Nat.le_of_ble_eq_true rfl) ⟨Nat.le_of_ble_eq_true rfl, Nat.le_of_ble_eq_true rfl⟩ sc_0 ⟨rfl, by decide⟩ HN.1 (by omega) (V101 E (by omega) HN (sv f_ (x3 + 1)) (sv f_ (x3 + 2)) (sv f_ (x3 + 3)) x3 gs gT gN ga g0 gb g1 hf hn hx hy (i0) (i1) (i2) (i3) (i4) (by omega) (by omega) (by omega)) ?_
          intro v157 M158 q168
          obtain ⟨H159, f160, q161, q162, q163, q164, q165, q166, q167⟩ := q168
          have f169 := fN.tr (f160.up rfl)
          refine s_blx (lv' := [(0, vA b), (1, vR 0), (2, vR 77), (3, vI x3)]) (st' := [vI (x3 + 1), vA b, vR 77]) B281_380_386 rfl ?_
          refine r_aldE (pc' := 387) D281_386 rfl ihr (by omega) ?_
          intro r170; unfold inR at r170
          refine s_blx (lv' := [(0, vA b), (1, vR 0), (2, vR 77), (3, vI x3)]) (st' := [vI (x3 + 2), vA b, vI (sv f_ (x3 + 1)), vR 77]) B281_387_391 rfl ?_
          refine r_aldE (pc' := 392) D281_391 rfl ihr (by omega) ?_
          intro r171; unfold inR at r171
          refine s_blx (lv' := [(0, vA b), (1, vR 0), (2, vR 77), (3, vI x3)]) (st' := [vI (x3 + 3), vA b, vI (sv f_ (x3 + 2)), vI (sv f_ (x3 + 1)), vR 77]) B281_392_396 rfl ?_
          refine r_aldE (pc' := 397) D281_396 rfl ihr (by omega) ?_
          intro r172; unfold inR at r172
          refine r_vI (c := 77) (args := [vI (sv f_ (x3 + 1)), vI (sv f_ (x3 + 2)), vI (sv f_ (x3 + 3))]) (rest := []) (pc' := 400) D281_397 rfl ck_12_virtual_39 TE167 rfl (Nat.le_of_ble_eq_true rfl) ⟨Nat.le_of_ble_eq_true rfl, Nat.le_of_ble_eq_true rfl⟩ sc_77 ⟨rfl, by decide⟩ H159.1 (by omega) (V167 E (by omega) H159 (sv f_ (x3 + 1)) (sv f_ (x3 + 2)) (sv f_ (x3 + 3)) (x3 + 6) gs gT gN ga g0 gb g1 hf hn hx hy (q161) (q162) (q163) (q164) (q165) (by omega) (by omega) (by omega)) ?_
          intro v173 M174 q184
          obtain ⟨H175, f176, q177, q178, q179, q180, q181, q182, q183⟩ := q184
          have f185 := f169.tr (f176.up rfl)
          refine s_blx (lv' := [(0, vA b), (1, vR 0), (2, vR 77), (3, vI x3)]) (st' := []) B281_400_401 rfl ?_
          refine r_goto (tgt := 1317) D281_401 rfl ?_
          refine s_blx (lv' := [(3, vI (x3 + 6)), (0, vA b), (1, vR 0), (2, vR 77)]) (st' := []) B281_1317_1320 rfl ?_
          refine r_goto (tgt := 18) D281_1320 rfl ?_
          refine r_loc (lv' := [(0, vA b), (1, vR 0), (2, vR 77), (3, vI (x3 + 6))]) ⟨rfl, rfl, rfl, rfl, trivial⟩ rfl rfl ?_
          exact ih (x3 + 6) 0 ga gb hf hn hx hy gT (seN gT gN gs (sv f_ (x3 + 1)) (sv f_ (x3 + 2)) (sv f_ (x3 + 3))) g0 g1 M174 H175 f185 (q177) (q178) (q179) (q180) (q181) (by omega) (by omega) (by omega) (by omega)
        · show sRn _ _ _ _ _ 404 _ _ _ _
          refine s_blx (lv' := [(0, vA b), (1, vR 0), (2, vR 77), (3, vI x3)]) (st' := [vI (x3 + 1), vA b, vR 0]) B281_404_409 rfl ?_
          refine r_aldE (pc' := 410) D281_409 rfl ihr (by omega) ?_
          intro r186; unfold inR at r186
          refine s_blx (lv' := [(0, vA b), (1, vR 0), (2, vR 77), (3, vI x3)]) (st' := [vI (x3 + 2), vA b, vI (sv f_ (x3 + 1)), vR 0]) B281_410_414 rfl ?_
          refine r_aldE (pc' := 415) D281_414 rfl ihr (by omega) ?_
          intro r187; unfold inR at r187
          refine s_blx (lv' := [(0, vA b), (1, vR 0), (2, vR 77), (3, vI x3)]) (st' := [vI (x3 + 3), vA b, vI (sv f_ (x3 + 2)), vI (sv f_ (x3 + 1)), vR 0]) B281_415_419 rfl ?_
          refine r_aldE (pc' := 420) D281_419 rfl ihr (by omega) ?_
          intro r188; unfold inR at r188
          refine r_vI (c := 0) (args := [vI (sv f_ (x3 + 1)), vI (sv f_ (x3 + 2)), vI (sv f_ (x3 + 3))]) (rest := []) (pc' := 423) D281_420 rfl ck_12_virtual_40 TE102 rfl (Nat.le_of_ble_eq_true rfl) ⟨Nat.le_of_ble_eq_true rfl, Nat.le_of_ble_eq_true rfl⟩ sc_0 ⟨rfl, by decide⟩ HN.1 (by omega) (V102 E (by omega) HN (sv f_ (x3 + 1)) (sv f_ (x3 + 2)) (sv f_ (x3 + 3)) x3 gs gT gN ga g0 gb g1 hf hn hx hy (i0) (i1) (i2) (i3) (i4) (by omega) (by omega) (by omega)) ?_
          intro v189 M190 q198
          obtain ⟨H191, f192, q193, q194, q195, q196, q197⟩ := q198
          have f199 := fN.tr (f192.up rfl)
          refine s_blx (lv' := [(0, vA b), (1, vR 0), (2, vR 77), (3, vI x3)]) (st' := [vI (x3 + 1), vA b, vR 77]) B281_423_429 rfl ?_
          refine r_aldE (pc' := 430) D281_429 rfl ihr (by omega) ?_
          intro r200; unfold inR at r200
          refine s_blx (lv' := [(0, vA b), (1, vR 0), (2, vR 77), (3, vI x3)]) (st' := [vI (x3 + 2), vA b, vI (sv f_ (x3 + 1)), vR 77]) B281_430_434 rfl ?_
          refine r_aldE (pc' := 435) D281_434 rfl ihr (by omega) ?_
          intro r201; unfold inR at r201
          refine s_blx (lv' := [(0, vA b), (1, vR 0), (2, vR 77), (3, vI x3)]) (st' := [vI (x3 + 3), vA b, vI (sv f_ (x3 + 2)), vI (sv f_ (x3 + 1)), vR 77]) B281_435_439 rfl ?_
          refine r_aldE (pc' := 440) D281_439 rfl ihr (by omega) ?_
          intro r202; unfold inR at r202
          refine r_vI (c := 77) (args := [vI (sv f_ (x3 + 1)), vI (sv f_ (x3 + 2)), vI (sv f_ (x3 + 3))]) (rest := []) (pc' := 443) D281_440 rfl ck_12_virtual_43 TE168 rfl (Nat.le_of_ble_eq_true rfl) ⟨Nat.le_of_ble_eq_true rfl, Nat.le_of_ble_eq_true rfl⟩ sc_77 ⟨rfl, by decide⟩ H191.1 (by omega) (V168 E (by omega) H191 (sv f_ (x3 + 1)) (sv f_ (x3 + 2)) (sv f_ (x3 + 3)) (x3 + 6) gs gT gN ga g0 gb g1 hf hn hx hy (q193) (q194) (q195) (q196) (q197) (by omega) (by omega) (by omega)) ?_
          intro v203 M204 q212
          obtain ⟨H205, f206, q207, q208, q209, q210, q211⟩ := q212
          have f213 := f199.tr (f206.up rfl)
          refine s_blx (lv' := [(0, vA b), (1, vR 0), (2, vR 77), (3, vI x3)]) (st' := []) B281_443_444 rfl ?_
          refine r_goto (tgt := 1317) D281_444 rfl ?_
          refine s_blx (lv' := [(3, vI (x3 + 6)), (0, vA b), (1, vR 0), (2, vR 77)]) (st' := []) B281_1317_1320 rfl ?_
          refine r_goto (tgt := 18) D281_1320 rfl ?_
          refine r_loc (lv' := [(0, vA b), (1, vR 0), (2, vR 77), (3, vI (x3 + 6))]) ⟨rfl, rfl, rfl, rfl, trivial⟩ rfl rfl ?_
          exact ih (x3 + 6) gs ga gb hf hn hx hy gT (stN (GV (gN 469) (sv f_ (x3 + 1)) (sv f_ (x3 + 2)) (sv f_ (x3 + 3))) gN (147 + 16 * (sv f_ (x3 + 1)) + (sv f_ (x3 + 2))) (sv f_ (x3 + 3))) g0 g1 M204 H205 f213 (q207) (q208) (q209) (q210) (q211) (by omega) (by omega) (by omega) (by omega)
        · show sRn _ _ _ _ _ 447 _ _ _ _
          refine s_blx (lv' := [(0, vA b), (1, vR 0), (2, vR 77), (3, vI x3)]) (st' := [vI (x3 + 1), vA b, vR 0]) B281_447_452 rfl ?_
          refine r_aldE (pc' := 453) D281_452 rfl ihr (by omega) ?_
          intro r214; unfold inR at r214
          refine s_blx (lv' := [(0, vA b), (1, vR 0), (2, vR 77), (3, vI x3)]) (st' := [vI (x3 + 2), vA b, vI (sv f_ (x3 + 1)), vR 0]) B281_453_457 rfl ?_
          refine r_aldE (pc' := 458) D281_457 rfl ihr (by omega) ?_
          intro r215; unfold inR at r215
          refine r_vI (c := 0) (args := [vI (sv f_ (x3 + 1)), vI (sv f_ (x3 + 2))]) (rest := []) (pc' := 461) D281_458 rfl ck_12_virtual_44 TE103 rfl (Nat.le_of_ble_eq_true rfl) ⟨Nat.le_of_ble_eq_true rfl, Nat.le_of_ble_eq_true rfl⟩ sc_0 ⟨rfl, by decide⟩ HN.1 (by omega) (V103 E (by omega) HN (sv f_ (x3 + 1)) (sv f_ (x3 + 2)) x3 gs gT gN ga g0 gb g1 hf hn hx hy (i0) (i1) (i2) (i3) (i4) (by omega) (by omega)) ?_
          intro v216 M217 q227
          obtain ⟨H218, f219, q220, q221, q222, q223, q224, q225, q226⟩ := q227
          have f228 := fN.tr (f219.up rfl)
          refine s_blx (lv' := [(0, vA b), (1, vR 0), (2, vR 77), (3, vI x3)]) (st' := [vI (x3 + 1), vA b, vR 77]) B281_461_467 rfl ?_
          refine r_aldE (pc' := 468) D281_467 rfl ihr (by omega) ?_
          intro r229; unfold inR at r229
          refine s_blx (lv' := [(0, vA b), (1, vR 0), (2, vR 77), (3, vI x3)]) (st' := [vI (x3 + 2), vA b, vI (sv f_ (x3 + 1)), vR 77]) B281_468_472 rfl ?_
          refine r_aldE (pc' := 473) D281_472 rfl ihr (by omega) ?_
          intro r230; unfold inR at r230
          refine r_vI (c := 77) (args := [vI (sv f_ (x3 + 1)), vI (sv f_ (x3 + 2))]) (rest := []) (pc' := 476) D281_473 rfl ck_12_virtual_47 TE169 rfl (Nat.le_of_ble_eq_true rfl) ⟨Nat.le_of_ble_eq_true rfl, Nat.le_of_ble_eq_true rfl⟩ sc_77 ⟨rfl, by decide⟩ H218.1 (by omega) (V169 E (by omega) H218 (sv f_ (x3 + 1)) (sv f_ (x3 + 2)) (x3 + 6) gs gT gN ga g0 gb g1 hf hn hx hy (q220) (q221) (q222) (q223) (q224) (by omega) (by omega)) ?_
          intro v231 M232 q242
          obtain ⟨H233, f234, q235, q236, q237, q238, q239, q240, q241⟩ := q242
          have f243 := f228.tr (f234.up rfl)
          refine s_blx (lv' := [(0, vA b), (1, vR 0), (2, vR 77), (3, vI x3)]) (st' := []) B281_476_477 rfl ?_
          refine r_goto (tgt := 1317) D281_477 rfl ?_
          refine s_blx (lv' := [(3, vI (x3 + 6)), (0, vA b), (1, vR 0), (2, vR 77)]) (st' := []) B281_1317_1320 rfl ?_
          refine r_goto (tgt := 18) D281_1320 rfl ?_
          refine r_loc (lv' := [(0, vA b), (1, vR 0), (2, vR 77), (3, vI (x3 + 6))]) ⟨rfl, rfl, rfl, rfl, trivial⟩ rfl rfl ?_
          exact ih (x3 + 6) gs ga gb hf hn hx hy gT gN g0 g1 M232 H233 f243 (q235) (q236) (q237) (q238) (q239) (by omega) (by omega) (by omega) (by omega)
        · show sRn _ _ _ _ _ 480 _ _ _ _
          refine s_blx (lv' := [(0, vA b), (1, vR 0), (2, vR 77), (3, vI x3)]) (st' := [vI (x3 + 1), vA b, vR 0]) B281_480_485 rfl ?_
          refine r_aldE (pc' := 486) D281_485 rfl ihr (by omega) ?_
          intro r244; unfold inR at r244
          refine s_blx (lv' := [(0, vA b), (1, vR 0), (2, vR 77), (3, vI x3)]) (st' := [vI (x3 + 2), vA b, vI (sv f_ (x3 + 1)), vR 0]) B281_486_490 rfl ?_
          refine r_aldE (pc' := 491) D281_490 rfl ihr (by omega) ?_
          intro r245; unfold inR at r245
          refine r_vI (c := 0) (args := [vI (sv f_ (x3 + 1)), vI (sv f_ (x3 + 2))]) (rest := []) (pc' := 494) D281_491 rfl ck_12_virtual_48 TE104 rfl (Nat.le_of_ble_eq_true rfl) ⟨Nat.le_of_ble_eq_true rfl, Nat.le_of_ble_eq_true rfl⟩ sc_0 ⟨rfl, by decide⟩ HN.1 (by omega) (V104 E (by omega) HN (sv f_ (x3 + 1)) (sv f_ (x3 + 2)) x3 gs gT gN ga g0 gb g1 hf hn hx hy (i0) (i1) (i2) (i3) (i4) (by omega) (by omega)) ?_
          intro v246 M247 q255
          obtain ⟨H248, f249, q250, q251, q252, q253, q254⟩ := q255
          have f256 := fN.tr (f249.up rfl)
          refine s_blx (lv' := [(0, vA b), (1, vR 0), (2, vR 77), (3, vI x3)]) (st' := [vI (x3 + 1), vA b, vR 77]) B281_494_500 rfl ?_
          refine r_aldE (pc' := 501) D281_500 rfl ihr (by omega) ?_
          intro r257; unfold inR at r257
          refine s_blx (lv' := [(0, vA b), (1, vR 0), (2, vR 77), (3, vI x3)]) (st' := [vI (x3 + 2), vA b, vI (sv f_ (x3 + 1)), vR 77]) B281_501_505 rfl ?_
          refine r_aldE (pc' := 506) D281_505 rfl ihr (by omega) ?_
          intro r258; unfold inR at r258
          refine r_vI (c := 77) (args := [vI (sv f_ (x3 + 1)), vI (sv f_ (x3 + 2))]) (rest := []) (pc' := 509) D281_506 rfl ck_12_virtual_51 TE177 rfl (Nat.le_of_ble_eq_true rfl) ⟨Nat.le_of_ble_eq_true rfl, Nat.le_of_ble_eq_true rfl⟩ sc_77 ⟨rfl, by decide⟩ H248.1 (by omega) (V177 E (by omega) H248 (sv f_ (x3 + 1)) (sv f_ (x3 + 2)) (x3 + 6) gs gT gN ga g0 gb g1 hf hn hx hy (q250) (q251) (q252) (q253) (q254) (by omega) (by omega)) ?_
          intro v259 M260 q268
          obtain ⟨H261, f262, q263, q264, q265, q266, q267⟩ := q268
          have f269 := f256.tr (f262.up rfl)
          refine s_blx (lv' := [(0, vA b), (1, vR 0), (2, vR 77), (3, vI x3)]) (st' := []) B281_509_510 rfl ?_
          refine r_goto (tgt := 1317) D281_510 rfl ?_
          refine s_blx (lv' := [(3, vI (x3 + 6)), (0, vA b), (1, vR 0), (2, vR 77)]) (st' := []) B281_1317_1320 rfl ?_
          refine r_goto (tgt := 18) D281_1320 rfl ?_
          refine r_loc (lv' := [(0, vA b), (1, vR 0), (2, vR 77), (3, vI (x3 + 6))]) ⟨rfl, rfl, rfl, rfl, trivial⟩ rfl rfl ?_
          exact ih (x3 + 6) gs ga gb hf hn hx hy gT gN g0 g1 M260 H261 f269 (q263) (q264) (q265) (q266) (q267) (by omega) (by omega) (by omega) (by omega)
        · show sRn _ _ _ _ _ 513 _ _ _ _
          refine s_blx (lv' := [(0, vA b), (1, vR 0), (2, vR 77), (3, vI x3)]) (st' := [vI (x3 + 1), vA b, vR 0]) B281_513_518 rfl ?_
          refine r_aldE (pc' := 519) D281_518 rfl ihr (by omega) ?_
          intro r270; unfold inR at r270
          refine s_blx (lv' := [(0, vA b), (1, vR 0), (2, vR 77), (3, vI x3)]) (st' := [vI (x3 + 2), vA b, vI (sv f_ (x3 + 1)), vR 0]) B281_519_523 rfl ?_
          refine r_aldE (pc' := 524) D281_523 rfl ihr (by omega) ?_
          intro r271; unfold inR at r271
          refine s_blx (lv' := [(0, vA b), (1, vR 0), (2, vR 77), (3, vI x3)]) (st' := [vI (x3 + 3), vA b, vI (sv f_ (x3 + 2)), vI (sv f_ (x3 + 1)), vR 0]) B281_524_528 rfl ?_
          refine r_aldE (pc' := 529) D281_528 rfl ihr (by omega) ?_
          intro r272; unfold inR at r272
          refine s_blx (lv' := [(0, vA b), (1, vR 0), (2, vR 77), (3, vI x3)]) (st' := [vI (x3 + 4), vA b, vI (sv f_ (x3 + 3)), vI (sv f_ (x3 + 2)), vI (sv f_ (x3 + 1)), vR 0]) B281_529_533 rfl ?_
          refine r_aldE (pc' := 534) D281_533 rfl ihr (by omega) ?_
          intro r273; unfold inR at r273
          refine s_blx (lv' := [(0, vA b), (1, vR 0), (2, vR 77), (3, vI x3)]) (st' := [vI (x3 + 5), vA b, vI (sv f_ (x3 + 4)), vI (sv f_ (x3 + 3)), vI (sv f_ (x3 + 2)), vI (sv f_ (x3 + 1)), vR 0]) B281_534_538 rfl ?_
          refine r_aldE (pc' := 539) D281_538 rfl ihr (by omega) ?_
          intro r274; unfold inR at r274
          refine r_vI (c := 0) (args := [vI (sv f_ (x3 + 1)), vI (sv f_ (x3 + 2)), vI (sv f_ (x3 + 3)), vI (sv f_ (x3 + 4)), vI (sv f_ (x3 + 5))]) (rest := []) (pc' := 542) D281_539 rfl ck_12_virtual_52 TE105 rfl (Nat.le_of_ble_eq_true rfl) ⟨Nat.le_of_ble_eq_true rfl, Nat.le_of_ble_eq_true rfl⟩ sc_0 ⟨rfl, by decide⟩ HN.1 (by omega) (V105 E (by omega) HN (sv f_ (x3 + 1)) (sv f_ (x3 + 2)) (sv f_ (x3 + 3)) (sv f_ (x3 + 4)) (sv f_ (x3 + 5)) x3 gs gT gN ga g0 gb g1 hf hn hx hy (i0) (i1) (i2) (i3) (i4) (by omega) (by omega) (by omega) (by omega) (by omega)) ?_
          intro v275 M276 q284
          obtain ⟨H277, f278, q279, q280, q281, q282, q283⟩ := q284
          have f285 := fN.tr (f278.up rfl)
          refine s_blx (lv' := [(0, vA b), (1, vR 0), (2, vR 77), (3, vI x3)]) (st' := [vI (x3 + 1), vA b, vR 77]) B281_542_548 rfl ?_
          refine r_aldE (pc' := 549) D281_548 rfl ihr (by omega) ?_
          intro r286; unfold inR at r286
          refine s_blx (lv' := [(0, vA b), (1, vR 0), (2, vR 77), (3, vI x3)]) (st' := [vI (x3 + 2), vA b, vI (sv f_ (x3 + 1)), vR 77]) B281_549_553 rfl ?_
          refine r_aldE (pc' := 554) D281_553 rfl ihr (by omega) ?_
          intro r287; unfold inR at r287
          refine s_blx (lv' := [(0, vA b), (1, vR 0), (2, vR 77), (3, vI x3)]) (st' := [vI (x3 + 3), vA b, vI (sv f_ (x3 + 2)), vI (sv f_ (x3 + 1)), vR 77]) B281_554_558 rfl ?_
          refine r_aldE (pc' := 559) D281_558 rfl ihr (by omega) ?_
          intro r288; unfold inR at r288
          refine s_blx (lv' := [(0, vA b), (1, vR 0), (2, vR 77), (3, vI x3)]) (st' := [vI (x3 + 4), vA b, vI (sv f_ (x3 + 3)), vI (sv f_ (x3 + 2)), vI (sv f_ (x3 + 1)), vR 77]) B281_559_563 rfl ?_
          refine r_aldE (pc' := 564) D281_563 rfl ihr (by omega) ?_
          intro r289; unfold inR at r289
          refine s_blx (lv' := [(0, vA b), (1, vR 0), (2, vR 77), (3, vI x3)]) (st' := [vI (x3 + 5), vA b, vI (sv f_ (x3 + 4)), vI (sv f_ (x3 + 3)), vI (sv f_ (x3 + 2)), vI (sv f_ (x3 + 1)), vR 77]) B281_564_568 rfl ?_
          refine r_aldE (pc' := 569) D281_568 rfl ihr (by omega) ?_
          intro r290; unfold inR at r290
          refine r_vI (c := 77) (args := [vI (sv f_ (x3 + 1)), vI (sv f_ (x3 + 2)), vI (sv f_ (x3 + 3)), vI (sv f_ (x3 + 4)), vI (sv f_ (x3 + 5))]) (rest := []) (pc' := 572) D281_569 rfl ck_12_virtual_56 TE179 rfl (Nat.le_of_ble_eq_true rfl) ⟨Nat.le_of_ble_eq_true rfl, Nat.le_of_ble_eq_true rfl⟩ sc_77 ⟨rfl, by decide⟩ H277.1 (by omega) (V179 E (by omega) H277 (sv f_ (x3 + 1)) (sv f_ (x3 + 2)) (sv f_ (x3 + 3)) (sv f_ (x3 + 4)) (sv f_ (x3 + 5)) (x3 + 6) gs gT gN ga g0 gb g1 hf hn hx hy (q279) (q280) (q281) (q282) (q283) (by omega) (by omega) (by omega) (by omega) (by omega)) ?_
          intro v291 M292 q300
          obtain ⟨H293, f294, q295, q296, q297, q298, q299⟩ := q300
          have f301 := f285.tr (f294.up rfl)
          refine s_blx (lv' := [(0, vA b), (1, vR 0), (2, vR 77), (3, vI x3)]) (st' := []) B281_572_573 rfl ?_
          refine r_goto (tgt := 1317) D281_573 rfl ?_
          refine s_blx (lv' := [(3, vI (x3 + 6)), (0, vA b), (1, vR 0), (2, vR 77)]) (st' := []) B281_1317_1320 rfl ?_
          refine r_goto (tgt := 18) D281_1320 rfl ?_
          refine r_loc (lv' := [(0, vA b), (1, vR 0), (2, vR 77), (3, vI (x3 + 6))]) ⟨rfl, rfl, rfl, rfl, trivial⟩ rfl rfl ?_
          exact ih (x3 + 6) gs ga gb hf hn hx hy gT gN g0 g1 M292 H293 f301 (q295) (q296) (q297) (q298) (q299) (by omega) (by omega) (by omega) (by omega)
        · show sRn _ _ _ _ _ 576 _ _ _ _
          refine s_blx (lv' := [(0, vA b), (1, vR 0), (2, vR 77), (3, vI x3)]) (st' := [vI (x3 + 1), vA b, vR 0]) B281_576_581 rfl ?_
          refine r_aldE (pc' := 582) D281_581 rfl ihr (by omega) ?_
          intro r302; unfold inR at r302
          refine s_blx (lv' := [(0, vA b), (1, vR 0), (2, vR 77), (3, vI x3)]) (st' := [vI (x3 + 2), vA b, vI (sv f_ (x3 + 1)), vR 0]) B281_582_586 rfl ?_
          refine r_aldE (pc' := 587) D281_586 rfl ihr (by omega) ?_
          intro r303; unfold inR at r303
          refine s_blx (lv' := [(0, vA b), (1, vR 0), (2, vR 77), (3, vI x3)]) (st' := [vI (x3 + 3), vA b, vI (sv f_ (x3 + 2)), vI (sv f_ (x3 + 1)), vR 0]) B281_587_591 rfl ?_
          refine r_aldE (pc' := 592) D281_591 rfl ihr (by omega) ?_
          intro r304; unfold inR at r304
          refine r_vI (c := 0) (args := [vI (sv f_ (x3 + 1)), vI (sv f_ (x3 + 2)), vI (sv f_ (x3 + 3))]) (rest := []) (pc' := 595) D281_592 rfl ck_12_virtual_57 TE106 rfl (Nat.le_of_ble_eq_true rfl) ⟨Nat.le_of_ble_eq_true rfl, Nat.le_of_ble_eq_true rfl⟩ sc_0 ⟨rfl, by decide⟩ HN.1 (by omega) (V106 E (by omega) HN (sv f_ (x3 + 1)) (sv f_ (x3 + 2)) (sv f_ (x3 + 3)) x3 gs gT gN ga g0 gb g1 hf hn hx hy (i0) (i1) (i2) (i3) (i4) (by omega) (by omega) (by omega)) ?_
          intro v305 M306 q314
          obtain ⟨H307, f308, q309, q310, q311, q312, q313⟩ := q314
          have f315 := fN.tr (f308.up rfl)
          refine s_blx (lv' := [(0, vA b), (1, vR 0), (2, vR 77), (3, vI x3)]) (st' := [vI (x3 + 1), vA b, vR 77]) B281_595_601 rfl ?_
          refine r_aldE (pc' := 602) D281_601 rfl ihr (by omega) ?_
          intro r316; unfold inR at r316
          refine s_blx (lv' := [(0, vA b), (1, vR 0), (2, vR 77), (3, vI x3)]) (st' := [vI (x3 + 2), vA b, vI (sv f_ (x3 + 1)), vR 77]) B281_602_606 rfl ?_
          refine r_aldE (pc' := 607) D281_606 rfl ihr (by omega) ?_
          intro r317; unfold inR at r317
          refine s_blx (lv' := [(0, vA b), (1, vR 0), (2, vR 77), (3, vI x3)]) (st' := [vI (x3 + 3), vA b, vI (sv f_ (x3 + 2)), vI (sv f_ (x3 + 1)), vR 77]) B281_607_611 rfl ?_
          refine r_aldE (pc' := 612) D281_611 rfl ihr (by omega) ?_
          intro r318; unfold inR at r318
          refine r_vI (c := 77) (args := [vI (sv f_ (x3 + 1)), vI (sv f_ (x3 + 2)), vI (sv f_ (x3 + 3))]) (rest := []) (pc' := 615) D281_612 rfl ck_12_virtual_60 TE181 rfl (Nat.le_of_ble_eq_true rfl) ⟨Nat.le_of_ble_eq_true rfl, Nat.le_of_ble_eq_true rfl⟩ sc_77 ⟨rfl, by decide⟩ H307.1 (by omega) (V181 E (by omega) H307 (sv f_ (x3 + 1)) (sv f_ (x3 + 2)) (sv f_ (x3 + 3)) (x3 + 6) gs gT gN ga g0 gb g1 hf hn hx hy (q309) (q310) (q311) (q312) (q313) (by omega) (by omega) (by omega)) ?_
          intro v319 M320 q328
          obtain ⟨H321, f322, q323, q324, q325, q326, q327⟩ := q328
          have f329 := f315.tr (f322.up rfl)
          refine s_blx (lv' := [(0, vA b), (1, vR 0), (2, vR 77), (3, vI x3)]) (st' := []) B281_615_616 rfl ?_
          refine r_goto (tgt := 1317) D281_616 rfl ?_
          refine s_blx (lv' := [(3, vI (x3 + 6)), (0, vA b), (1, vR 0), (2, vR 77)]) (st' := []) B281_1317_1320 rfl ?_
          refine r_goto (tgt := 18) D281_1320 rfl ?_
          refine r_loc (lv' := [(0, vA b), (1, vR 0), (2, vR 77), (3, vI (x3 + 6))]) ⟨rfl, rfl, rfl, rfl, trivial⟩ rfl rfl ?_
          exact ih (x3 + 6) gs ga gb hf hn hx hy gT gN g0 g1 M320 H321 f329 (q323) (q324) (q325) (q326) (q327) (by omega) (by omega) (by omega) (by omega)
        · show sRn _ _ _ _ _ 619 _ _ _ _
          refine s_blx (lv' := [(0, vA b), (1, vR 0), (2, vR 77), (3, vI x3)]) (st' := [vR 0]) B281_619_620 rfl ?_
          refine r_vL (c := 0) (args := []) (rest := []) (pc' := 623) D281_620 rfl ck_12_virtual_61 TE107 rfl (Nat.le_of_ble_eq_true rfl) ⟨Nat.le_of_ble_eq_true rfl, Nat.le_of_ble_eq_true rfl⟩ sc_0 ⟨rfl, by decide⟩ HN.1 (by omega) (V107 E (by omega) HN x3 gs gT gN ga g0 gb g1 hf hn hx hy (i0) (i1) (i2) (i3) (i4)) ?_
          intro v330 M331 q339
          obtain ⟨H332, f333, q334, q335, q336, q337, q338⟩ := q339
          have f340 := fN.tr (f333.up rfl)
          refine s_blx (lv' := [(0, vA b), (1, vR 0), (2, vR 77), (3, vI x3)]) (st' := [vR 77]) B281_623_625 rfl ?_
          refine r_vL (c := 77) (args := []) (rest := []) (pc' := 628) D281_625 rfl ck_12_virtual_65 TE202 rfl (Nat.le_of_ble_eq_true rfl) ⟨Nat.le_of_ble_eq_true rfl, Nat.le_of_ble_eq_true rfl⟩ sc_77 ⟨rfl, by decide⟩ H332.1 (by omega) (V202 E (by omega) H332 (x3 + 6) gs gT gN ga g0 gb g1 hf hn hx hy (q334) (q335) (q336) (q337) (q338)) ?_
          intro v341 M342 q350
          obtain ⟨H343, f344, q345, q346, q347, q348, q349⟩ := q350
          have f351 := f340.tr (f344.up rfl)
          refine s_blx (lv' := [(0, vA b), (1, vR 0), (2, vR 77), (3, vI x3)]) (st' := []) B281_628_629 rfl ?_
          refine r_goto (tgt := 1317) D281_629 rfl ?_
          refine s_blx (lv' := [(3, vI (x3 + 6)), (0, vA b), (1, vR 0), (2, vR 77)]) (st' := []) B281_1317_1320 rfl ?_
          refine r_goto (tgt := 18) D281_1320 rfl ?_
          refine r_loc (lv' := [(0, vA b), (1, vR 0), (2, vR 77), (3, vI (x3 + 6))]) ⟨rfl, rfl, rfl, rfl, trivial⟩ rfl rfl ?_
          exact ih (x3 + 6) gs ga gb hf hn hx hy gT gN g0 g1 M342 H343 f351 (q345) (q346) (q347) (q348) (q349) (by omega) (by omega) (by omega) (by omega)
        · show sRn _ _ _ _ _ 632 _ _ _ _
          refine s_blx (lv' := [(0, vA b), (1, vR 0), (2, vR 77), (3, vI x3)]) (st' := [vI (x3 + 1), vA b, vR 0]) B281_632_637 rfl ?_
          refine r_aldE (pc' := 638) D281_637 rfl ihr (by omega) ?_
          intro r352; unfold inR at r352
          refine s_blx (lv' := [(0, vA b), (1, vR 0), (2, vR 77), (3, vI x3)]) (st' := [vI (x3 + 2), vA b, vI (sv f_ (x3 + 1)), vR 0]) B281_638_642 rfl ?_
          refine r_aldE (pc' := 643) D281_642 rfl ihr (by omega) ?_
          intro r353; unfold inR at r353
          refine s_blx (lv' := [(0, vA b), (1, vR 0), (2, vR 77), (3, vI x3)]) (st' := [vI (x3 + 3), vA b, vI (sv f_ (x3 + 2)), vI (sv f_ (x3 + 1)), vR 0]) B281_643_647 rfl ?_
          refine r_aldE (pc' := 648) D281_647 rfl ihr (by omega) ?_
          intro r354; unfold inR at r354
          refine r_vI (c := 0) (args := [vI (sv f_ (x3 + 1)), vI (sv f_ (x3 + 2)), vI (sv f_ (x3 + 3))]) (rest := []) (pc' := 651) D281_648 rfl ck_12_virtual_66 TE108 rfl (Nat.le_of_ble_eq_true rfl) ⟨Nat.le_of_ble_eq_true rfl, Nat.le_of_ble_eq_true rfl⟩ sc_0 ⟨rfl, by decide⟩ HN.1 (by omega) (V108 E (by omega) HN (sv f_ (x3 + 1)) (sv f_ (x3 + 2)) (sv f_ (x3 + 3)) x3 gs gT gN ga g0 gb g1 hf hn hx hy (i0) (i1) (i2) (i3) (i4) (by omega) (by omega) (by omega)) ?_
          intro v355 M356 q364
          obtain ⟨H357, f358, q359, q360, q361, q362, q363⟩ := q364
          have f365 := fN.tr (f358.up rfl)
          refine s_blx (lv' := [(0, vA b), (1, vR 0), (2, vR 77), (3, vI x3)]) (st' := [vI (x3 + 1), vA b, vR 77]) B281_651_657 rfl ?_
          refine r_aldE (pc' := 658) D281_657 rfl ihr (by omega) ?_
          intro r366; unfold inR at r366
          refine s_blx (lv' := [(0, vA b), (1, vR 0), (2, vR 77), (3, vI x3)]) (st' := [vI (x3 + 2), vA b, vI (sv f_ (x3 + 1)), vR 77]) B281_658_662 rfl ?_
          refine r_aldE (pc' := 663) D281_662 rfl ihr (by omega) ?_
          intro r367; unfold inR at r367
          refine s_blx (lv' := [(0, vA b), (1, vR 0), (2, vR 77), (3, vI x3)]) (st' := [vI (x3 + 3), vA b, vI (sv f_ (x3 + 2)), vI (sv f_ (x3 + 1)), vR 77]) B281_663_667 rfl ?_
          refine r_aldE (pc' := 668) D281_667 rfl ihr (by omega) ?_
          intro r368; unfold inR at r368
          refine r_vI (c := 77) (args := [vI (sv f_ (x3 + 1)), vI (sv f_ (x3 + 2)), vI (sv f_ (x3 + 3))]) (rest := []) (pc' := 671) D281_668 rfl ck_12_virtual_69 TE204 rfl (Nat.le_of_ble_eq_true rfl) ⟨Nat.le_of_ble_eq_true rfl, Nat.le_of_ble_eq_true rfl⟩ sc_77 ⟨rfl, by decide⟩ H357.1 (by omega) (V204 E (by omega) H357 (sv f_ (x3 + 1)) (sv f_ (x3 + 2)) (sv f_ (x3 + 3)) (x3 + 6) gs gT gN ga g0 gb g1 hf hn hx hy (q359) (q360) (q361) (q362) (q363) (by omega) (by omega) (by omega)) ?_
          intro v369 M370 q378
          obtain ⟨H371, f372, q373, q374, q375, q376, q377⟩ := q378
          have f379 := f365.tr (f372.up rfl)
          refine s_blx (lv' := [(0, vA b), (1, vR 0), (2, vR 77), (3, vI x3)]) (st' := []) B281_671_672 rfl ?_
          refine r_goto (tgt := 1317) D281_672 rfl ?_
          refine s_blx (lv' := [(3, vI (x3 + 6)), (0, vA b), (1, vR 0), (2, vR 77)]) (st' := []) B281_1317_1320 rfl ?_
          refine r_goto (tgt := 18) D281_1320 rfl ?_
          refine r_loc (lv' := [(0, vA b), (1, vR 0), (2, vR 77), (3, vI (x3 + 6))]) ⟨rfl, rfl, rfl, rfl, trivial⟩ rfl rfl ?_
          exact ih (x3 + 6) gs ga gb hf hn hx hy gT gN g0 g1 M370 H371 f379 (q373) (q374) (q375) (q376) (q377) (by omega) (by omega) (by omega) (by omega)
        · show sRn _ _ _ _ _ 675 _ _ _ _
          refine s_blx (lv' := [(0, vA b), (1, vR 0), (2, vR 77), (3, vI x3)]) (st' := [vI (x3 + 1), vA b, vR 0]) B281_675_680 rfl ?_
          refine r_aldE (pc' := 681) D281_680 rfl ihr (by omega) ?_
          intro r380; unfold inR at r380
          refine s_blx (lv' := [(0, vA b), (1, vR 0), (2, vR 77), (3, vI x3)]) (st' := [vI (x3 + 2), vA b, vI (sv f_ (x3 + 1)), vR 0]) B281_681_685 rfl ?_
          refine r_aldE (pc' := 686) D281_685 rfl ihr (by omega) ?_
          intro r381; unfold inR at r381
          refine r_vI (c := 0) (args := [vI (sv f_ (x3 + 1)), vI (sv f_ (x3 + 2))]) (rest := []) (pc' := 689) D281_686 rfl ck_12_virtual_70 TE109 rfl (Nat.le_of_ble_eq_true rfl) ⟨Nat.le_of_ble_eq_true rfl, Nat.le_of_ble_eq_true rfl⟩ sc_0 ⟨rfl, by decide⟩ HN.1 (by omega) (V109 E (by omega) HN (sv f_ (x3 + 1)) (sv f_ (x3 + 2)) x3 gs gT gN ga g0 gb g1 hf hn hx hy (i0) (i1) (i2) (i3) (i4) (by omega) (by omega)) ?_
          intro v382 M383 q391
          obtain ⟨H384, f385, q386, q387, q388, q389, q390⟩ := q391
          have f392 := fN.tr (f385.up rfl)
          refine s_blx (lv' := [(0, vA b), (1, vR 0), (2, vR 77), (3, vI x3)]) (st' := [vI (x3 + 1), vA b, vR 77]) B281_689_695 rfl ?_
          refine r_aldE (pc' := 696) D281_695 rfl ihr (by omega) ?_
          intro r393; unfold inR at r393
          refine s_blx (lv' := [(0, vA b), (1, vR 0), (2, vR 77), (3, vI x3)]) (st' := [vI (x3 + 2), vA b, vI (sv f_ (x3 + 1)), vR 77]) B281_696_700 rfl ?_
          refine r_aldE (pc' := 701) D281_700 rfl ihr (by omega) ?_
          intro r394; unfold inR at r394
          refine r_vI (c := 77) (args := [vI (sv f_ (x3 + 1)), vI (sv f_ (x3 + 2))]) (rest := []) (pc' := 704) D281_701 rfl ck_12_virtual_73 TE205 rfl (Nat.le_of_ble_eq_true rfl) ⟨Nat.le_of_ble_eq_true rfl, Nat.le_of_ble_eq_true rfl⟩ sc_77 ⟨rfl, by decide⟩ H384.1 (by omega) (V205 E (by omega) H384 (sv f_ (x3 + 1)) (sv f_ (x3 + 2)) (x3 + 6) gs gT gN ga g0 gb g1 hf hn hx hy (q386) (q387) (q388) (q389) (q390) (by omega) (by omega)) ?_
          intro v395 M396 q404
          obtain ⟨H397, f398, q399, q400, q401, q402, q403⟩ := q404
          have f405 := f392.tr (f398.up rfl)
          refine s_blx (lv' := [(0, vA b), (1, vR 0), (2, vR 77), (3, vI x3)]) (st' := []) B281_704_705 rfl ?_
          refine r_goto (tgt := 1317) D281_705 rfl ?_
          refine s_blx (lv' := [(3, vI (x3 + 6)), (0, vA b), (1, vR 0), (2, vR 77)]) (st' := []) B281_1317_1320 rfl ?_
          refine r_goto (tgt := 18) D281_1320 rfl ?_
          refine r_loc (lv' := [(0, vA b), (1, vR 0), (2, vR 77), (3, vI (x3 + 6))]) ⟨rfl, rfl, rfl, rfl, trivial⟩ rfl rfl ?_
          exact ih (x3 + 6) gs ga gb hf hn hx hy gT gN g0 g1 M396 H397 f405 (q399) (q400) (q401) (q402) (q403) (by omega) (by omega) (by omega) (by omega)
        · show sRn _ _ _ _ _ 708 _ _ _ _
          refine s_blx (lv' := [(0, vA b), (1, vR 0), (2, vR 77), (3, vI x3)]) (st' := [vI (x3 + 1), vA b, vR 0]) B281_708_713 rfl ?_
          refine r_aldE (pc' := 714) D281_713 rfl ihr (by omega) ?_
          intro r406; unfold inR at r406
          refine s_blx (lv' := [(0, vA b), (1, vR 0), (2, vR 77), (3, vI x3)]) (st' := [vI (x3 + 2), vA b, vI (sv f_ (x3 + 1)), vR 0]) B281_714_718 rfl ?_
          refine r_aldE (pc' := 719) D281_718 rfl ihr (by omega) ?_
          intro r407; unfold inR at r407
          refine s_blx (lv' := [(0, vA b), (1, vR 0), (2, vR 77), (3, vI x3)]) (st' := [vI (x3 + 3), vA b, vI (sv f_ (x3 + 2)), vI (sv f_ (x3 + 1)), vR 0]) B281_719_723 rfl ?_
          refine r_aldE (pc' := 724) D281_723 rfl ihr (by omega) ?_
          intro r408; unfold inR at r408
          refine s_blx (lv' := [(0, vA b), (1, vR 0), (2, vR 77), (3, vI x3)]) (st' := [vI (x3 + 4), vA b, vI (sv f_ (x3 + 3)), vI (sv f_ (x3 + 2)), vI (sv f_ (x3 + 1)), vR 0]) B281_724_728 rfl ?_
          refine r_aldE (pc' := 729) D281_728 rfl ihr (by omega) ?_
          intro r409; unfold inR at r409
          refine s_blx (lv' := [(0, vA b), (1, vR 0), (2, vR 77), (3, vI x3)]) (st' := [vI (x3 + 5), vA b, vI (sv f_ (x3 + 4)), vI (sv f_ (x3 + 3)), vI (sv f_ (x3 + 2)), vI (sv f_ (x3 + 1)), vR 0]) B281_729_733 rfl ?_
          refine r_aldE (pc' := 734) D281_733 rfl ihr (by omega) ?_
          intro r410; unfold inR at r410
          refine r_vI (c := 0) (args := [vI (sv f_ (x3 + 1)), vI (sv f_ (x3 + 2)), vI (sv f_ (x3 + 3)), vI (sv f_ (x3 + 4)), vI (sv f_ (x3 + 5))]) (rest := []) (pc' := 737) D281_734 rfl ck_12_virtual_74 TE110 rfl (Nat.le_of_ble_eq_true rfl) ⟨Nat.le_of_ble_eq_true rfl, Nat.le_of_ble_eq_true rfl⟩ sc_0 ⟨rfl, by decide⟩ HN.1 (by omega) (V110 E (by omega) HN (sv f_ (x3 + 1)) (sv f_ (x3 + 2)) (sv f_ (x3 + 3)) (sv f_ (x3 + 4)) (sv f_ (x3 + 5)) x3 gs gT gN ga g0 gb g1 hf hn hx hy (i0) (i1) (i2) (i3) (i4) (by omega) (by omega) (by omega) (by omega) (by omega)) ?_
          intro v411 M412 q422
          obtain ⟨H413, f414, q415, q416, q417, q418, q419, q420, q421⟩ := q422
          have f423 := fN.tr (f414.up rfl)
          refine s_blx (lv' := [(0, vA b), (1, vR 0), (2, vR 77), (3, vI x3)]) (st' := [vI (x3 + 1), vA b, vR 77]) B281_737_743 rfl ?_
          refine r_aldE (pc' := 744) D281_743 rfl ihr (by omega) ?_
          intro r424; unfold inR at r424
          refine s_blx (lv' := [(0, vA b), (1, vR 0), (2, vR 77), (3, vI x3)]) (st' := [vI (x3 + 2), vA b, vI (sv f_ (x3 + 1)), vR 77]) B281_744_748 rfl ?_
          refine r_aldE (pc' := 749) D281_748 rfl ihr (by omega) ?_
          intro r425; unfold inR at r425
          refine s_blx (lv' := [(0, vA b), (1, vR 0), (2, vR 77), (3, vI x3)]) (st' := [vI (x3 + 3), vA b, vI (sv f_ (x3 + 2)), vI (sv f_ (x3 + 1)), vR 77]) B281_749_753 rfl ?_
          refine r_aldE (pc' := 754) D281_753 rfl ihr (by omega) ?_
          intro r426; unfold inR at r426
          refine s_blx (lv' := [(0, vA b), (1, vR 0), (2, vR 77), (3, vI x3)]) (st' := [vI (x3 + 4), vA b, vI (sv f_ (x3 + 3)), vI (sv f_ (x3 + 2)), vI (sv f_ (x3 + 1)), vR 77]) B281_754_758 rfl ?_
          refine r_aldE (pc' := 759) D281_758 rfl ihr (by omega) ?_
          intro r427; unfold inR at r427
          refine s_blx (lv' := [(0, vA b), (1, vR 0), (2, vR 77), (3, vI x3)]) (st' := [vI (x3 + 5), vA b, vI (sv f_ (x3 + 4)), vI (sv f_ (x3 + 3)), vI (sv f_ (x3 + 2)), vI (sv f_ (x3 + 1)), vR 77]) B281_759_763 rfl ?_
          refine r_aldE (pc' := 764) D281_763 rfl ihr (by omega) ?_
          intro r428; unfold inR at r428
          refine r_vI (c := 77) (args := [vI (sv f_ (x3 + 1)), vI (sv f_ (x3 + 2)), vI (sv f_ (x3 + 3)), vI (sv f_ (x3 + 4)), vI (sv f_ (x3 + 5))]) (rest := []) (pc' := 767) D281_764 rfl ck_12_virtual_77 TE210 rfl (Nat.le_of_ble_eq_true rfl) ⟨Nat.le_of_ble_eq_true rfl, Nat.le_of_ble_eq_true rfl⟩ sc_77 ⟨rfl, by decide⟩ H413.1 (by omega) (V210 E (by omega) H413 (sv f_ (x3 + 1)) (sv f_ (x3 + 2)) (sv f_ (x3 + 3)) (sv f_ (x3 + 4)) (sv f_ (x3 + 5)) (x3 + 6) gs gT gN ga g0 gb g1 hf hn hx hy (q415) (q416) (q417) (q418) (q419) (by omega) (by omega) (by omega) (by omega) (by omega)) ?_
          intro v429 M430 q440
          obtain ⟨H431, f432, q433, q434, q435, q436, q437, q438, q439⟩ := q440
          have f441 := f423.tr (f432.up rfl)
          refine s_blx (lv' := [(0, vA b), (1, vR 0), (2, vR 77), (3, vI x3)]) (st' := []) B281_767_768 rfl ?_
          refine r_goto (tgt := 1317) D281_768 rfl ?_
          refine s_blx (lv' := [(3, vI (x3 + 6)), (0, vA b), (1, vR 0), (2, vR 77)]) (st' := []) B281_1317_1320 rfl ?_
          refine r_goto (tgt := 18) D281_1320 rfl ?_
          refine r_loc (lv' := [(0, vA b), (1, vR 0), (2, vR 77), (3, vI (x3 + 6))]) ⟨rfl, rfl, rfl, rfl, trivial⟩ rfl rfl ?_
          exact ih (x3 + 6) (fdS gs) ga gb hf hn hx hy (fdT gT gs (sv f_ (x3 + 1)) (sv f_ (x3 + 2)) (sv f_ (x3 + 3)) (sv f_ (x3 + 4)) (sv f_ (x3 + 5))) gN g0 g1 M430 H431 f441 (q433) (q434) (q435) (q436) (q437) (by omega) (by omega) (by omega) (by omega)
        · show sRn _ _ _ _ _ 771 _ _ _ _
          refine s_blx (lv' := [(0, vA b), (1, vR 0), (2, vR 77), (3, vI x3)]) (st' := [vI (x3 + 1), vA b, vR 0]) B281_771_776 rfl ?_
          refine r_aldE (pc' := 777) D281_776 rfl ihr (by omega) ?_
          intro r442; unfold inR at r442
          refine r_vI (c := 0) (args := [vI (sv f_ (x3 + 1))]) (rest := []) (pc' := 780) D281_777 rfl ck_12_virtual_78 TE111 rfl (Nat.le_of_ble_eq_true rfl) ⟨Nat.le_of_ble_eq_true rfl, Nat.le_of_ble_eq_true rfl⟩ sc_0 ⟨rfl, by decide⟩ HN.1 (by omega) (V111 E (by omega) HN (sv f_ (x3 + 1)) x3 gs gT gN ga g0 gb g1 hf hn hx hy (i0) (i1) (i2) (i3) (i4) (by omega)) ?_
          intro v443 M444 q454
          obtain ⟨H445, f446, q447, q448, q449, q450, q451, q452, q453⟩ := q454
          have f455 := fN.tr (f446.up rfl)
          refine s_blx (lv' := [(0, vA b), (1, vR 0), (2, vR 77), (3, vI x3)]) (st' := [vI (x3 + 1), vA b, vR 77]) B281_780_786 rfl ?_
          refine r_aldE (pc' := 787) D281_786 rfl ihr (by omega) ?_
          intro r456; unfold inR at r456
          refine r_vI (c := 77) (args := [vI (sv f_ (x3 + 1))]) (rest := []) (pc' := 790) D281_787 rfl ck_12_virtual_81 TE211 rfl (Nat.le_of_ble_eq_true rfl) ⟨Nat.le_of_ble_eq_true rfl, Nat.le_of_ble_eq_true rfl⟩ sc_77 ⟨rfl, by decide⟩ H445.1 (by omega) (V211 E (by omega) H445 (sv f_ (x3 + 1)) (x3 + 6) gs gT gN ga g0 gb g1 hf hn hx hy (q447) (q448) (q449) (q450) (q451) (by omega)) ?_
          intro v457 M458 q468
          obtain ⟨H459, f460, q461, q462, q463, q464, q465, q466, q467⟩ := q468
          have f469 := f455.tr (f460.up rfl)
          refine s_blx (lv' := [(0, vA b), (1, vR 0), (2, vR 77), (3, vI x3)]) (st' := []) B281_790_791 rfl ?_
          refine r_goto (tgt := 1317) D281_791 rfl ?_
          refine s_blx (lv' := [(3, vI (x3 + 6)), (0, vA b), (1, vR 0), (2, vR 77)]) (st' := []) B281_1317_1320 rfl ?_
          refine r_goto (tgt := 18) D281_1320 rfl ?_
          refine r_loc (lv' := [(0, vA b), (1, vR 0), (2, vR 77), (3, vI (x3 + 6))]) ⟨rfl, rfl, rfl, rfl, trivial⟩ rfl rfl ?_
          exact ih (x3 + 6) (enS gs (sv f_ (x3 + 1))) ga gb hf hn hx hy gT gN g0 g1 M458 H459 f469 (q461) (q462) (q463) (q464) (q465) (by omega) (by omega) (by omega) (by omega)
        · show sRn _ _ _ _ _ 794 _ _ _ _
          refine s_blx (lv' := [(0, vA b), (1, vR 0), (2, vR 77), (3, vI x3)]) (st' := [vR 0]) B281_794_795 rfl ?_
          refine r_vI (c := 0) (args := []) (rest := []) (pc' := 798) D281_795 rfl ck_12_virtual_82 TE112 rfl (Nat.le_of_ble_eq_true rfl) ⟨Nat.le_of_ble_eq_true rfl, Nat.le_of_ble_eq_true rfl⟩ sc_0 ⟨rfl, by decide⟩ HN.1 (by omega) (V112 E (by omega) HN x3 gs gT gN ga g0 gb g1 hf hn hx hy (i0) (i1) (i2) (i3) (i4)) ?_
          intro v470 M471 q481
          obtain ⟨H472, f473, q474, q475, q476, q477, q478, q479, q480⟩ := q481
          have f482 := fN.tr (f473.up rfl)
          refine s_blx (lv' := [(0, vA b), (1, vR 0), (2, vR 77), (3, vI x3)]) (st' := [vR 77, vI v470]) B281_798_799 rfl ?_
          refine r_vI (c := 77) (args := []) (rest := [vI v470]) (pc' := 802) D281_799 rfl ck_12_virtual_86 TE230 rfl (Nat.le_of_ble_eq_true rfl) ⟨Nat.le_of_ble_eq_true rfl, Nat.le_of_ble_eq_true rfl⟩ sc_77 ⟨rfl, by decide⟩ H472.1 (by omega) (V230 E (by omega) H472 (x3 + 6) gs gT gN ga g0 gb g1 hf hn hx hy (q474) (q475) (q476) (q477) (q478)) ?_
          intro v483 M484 q494
          obtain ⟨H485, f486, q487, q488, q489, q490, q491, q492, q493⟩ := q494
          have f495 := f482.tr (f486.up rfl)
          refine r_icmp (tgt := 1317) (pc' := 805) D281_802 rfl rfl (by unfold inR; omega) (fun (c496 : v470 = v483) => ?_) (fun (c496 : ¬ (v470 = v483)) => ?_)
          · refine s_blx (lv' := [(3, vI (x3 + 6)), (0, vA b), (1, vR 0), (2, vR 77)]) (st' := []) B281_1317_1320 rfl ?_
            refine r_goto (tgt := 18) D281_1320 rfl ?_
            refine r_loc (lv' := [(0, vA b), (1, vR 0), (2, vR 77), (3, vI (x3 + 6))]) ⟨rfl, rfl, rfl, rfl, trivial⟩ rfl rfl ?_
            exact ih (x3 + 6) 0 ga gb (hbF gT gs hf hn) (hbN gT gs hn) hx hy gT gN g0 g1 M484 H485 f495 (q487) (q488) (q489) (q490) (q491) (by omega) (by omega) (by omega) (by omega)
          · refine s_blx (lv' := [(0, vA b), (1, vR 0), (2, vR 77), (3, vI x3)]) (st' := [vI 0]) B281_805_806 rfl ?_
            exact r_zretI D281_806 rfl (by omega) (⟨H485, f495, by omega, by omega, by exfalso; omega⟩)
        · show sRn _ _ _ _ _ 807 _ _ _ _
          refine s_blx (lv' := [(0, vA b), (1, vR 0), (2, vR 77), (3, vI x3)]) (st' := [vR 0]) B281_807_808 rfl ?_
          refine r_vI (c := 0) (args := []) (rest := []) (pc' := 811) D281_808 rfl ck_12_virtual_87 TE113 rfl (Nat.le_of_ble_eq_true rfl) ⟨Nat.le_of_ble_eq_true rfl, Nat.le_of_ble_eq_true rfl⟩ sc_0 ⟨rfl, by decide⟩ HN.1 (by omega) (V113 E (by omega) HN x3 gs gT gN ga g0 gb g1 hf hn hx hy (i0) (i1) (i2) (i3) (i4)) ?_
          intro v497 M498 q508
          obtain ⟨H499, f500, q501, q502, q503, q504, q505, q506, q507⟩ := q508
          have f509 := fN.tr (f500.up rfl)
          refine s_blx (lv' := [(0, vA b), (1, vR 0), (2, vR 77), (3, vI x3)]) (st' := [vR 77]) B281_811_813 rfl ?_
          refine r_vI (c := 77) (args := []) (rest := []) (pc' := 816) D281_813 rfl ck_12_virtual_90 TE231 rfl (Nat.le_of_ble_eq_true rfl) ⟨Nat.le_of_ble_eq_true rfl, Nat.le_of_ble_eq_true rfl⟩ sc_77 ⟨rfl, by decide⟩ H499.1 (by omega) (V231 E (by omega) H499 (x3 + 6) gs gT gN ga g0 gb g1 hf hn hx hy (q501) (q502) (q503) (q504) (q505)) ?_
          intro v510 M511 q521
          obtain ⟨H512, f513, q514, q515, q516, q517, q518, q519, q520⟩ := q521
          have f522 := f509.tr (f513.up rfl)
          refine s_blx (lv' := [(0, vA b), (1, vR 0), (2, vR 77), (3, vI x3)]) (st' := []) B281_816_817 rfl ?_
          refine r_goto (tgt := 1317) D281_817 rfl ?_
          refine s_blx (lv' := [(3, vI (x3 + 6)), (0, vA b), (1, vR 0), (2, vR 77)]) (st' := []) B281_1317_1320 rfl ?_
          refine r_goto (tgt := 18) D281_1320 rfl ?_
          refine r_loc (lv' := [(0, vA b), (1, vR 0), (2, vR 77), (3, vI (x3 + 6))]) ⟨rfl, rfl, rfl, rfl, trivial⟩ rfl rfl ?_
          exact ih (x3 + 6) gs ga gb hf hn hx hy gT gN g0 g1 M511 H512 f522 (q514) (q515) (q516) (q517) (q518) (by omega) (by omega) (by omega) (by omega)
        · show sRn _ _ _ _ _ 820 _ _ _ _
          refine s_blx (lv' := [(0, vA b), (1, vR 0), (2, vR 77), (3, vI x3)]) (st' := [vI (x3 + 1), vA b, vR 0]) B281_820_825 rfl ?_
          refine r_aldE (pc' := 826) D281_825 rfl ihr (by omega) ?_
          intro r523; unfold inR at r523
          refine s_blx (lv' := [(0, vA b), (1, vR 0), (2, vR 77), (3, vI x3)]) (st' := [vI (x3 + 2), vA b, vI (sv f_ (x3 + 1)), vR 0]) B281_826_830 rfl ?_
          refine r_aldE (pc' := 831) D281_830 rfl ihr (by omega) ?_
          intro r524; unfold inR at r524
          refine r_vI (c := 0) (args := [vI (sv f_ (x3 + 1)), vI (sv f_ (x3 + 2))]) (rest := []) (pc' := 834) D281_831 rfl ck_12_virtual_91 TE114 rfl (Nat.le_of_ble_eq_true rfl) ⟨Nat.le_of_ble_eq_true rfl, Nat.le_of_ble_eq_true rfl⟩ sc_0 ⟨rfl, by decide⟩ HN.1 (by omega) (V114 E (by omega) HN (sv f_ (x3 + 1)) (sv f_ (x3 + 2)) x3 gs gT gN ga g0 gb g1 hf hn hx hy (i0) (i1) (i2) (i3) (i4) (by omega) (by omega)) ?_
          intro v525 M526 q534
          obtain ⟨H527, f528, q529, q530, q531, q532, q533⟩ := q534
          have f535 := fN.tr (f528.up rfl)
          refine s_blx (lv' := [(0, vA b), (1, vR 0), (2, vR 77), (3, vI x3)]) (st' := [vI (x3 + 1), vA b, vR 77]) B281_834_840 rfl ?_
          refine r_aldE (pc' := 841) D281_840 rfl ihr (by omega) ?_
          intro r536; unfold inR at r536
          refine s_blx (lv' := [(0, vA b), (1, vR 0), (2, vR 77), (3, vI x3)]) (st' := [vI (x3 + 2), vA b, vI (sv f_ (x3 + 1)), vR 77]) B281_841_845 rfl ?_
          refine r_aldE (pc' := 846) D281_845 rfl ihr (by omega) ?_
          intro r537; unfold inR at r537
          refine r_vI (c := 77) (args := [vI (sv f_ (x3 + 1)), vI (sv f_ (x3 + 2))]) (rest := []) (pc' := 849) D281_846 rfl ck_12_virtual_94 TE248 rfl (Nat.le_of_ble_eq_true rfl) ⟨Nat.le_of_ble_eq_true rfl, Nat.le_of_ble_eq_true rfl⟩ sc_77 ⟨rfl, by decide⟩ H527.1 (by omega) (V248 E (by omega) H527 (sv f_ (x3 + 1)) (sv f_ (x3 + 2)) (x3 + 6) gs gT gN ga g0 gb g1 hf hn hx hy (q529) (q530) (q531) (q532) (q533) (by omega) (by omega)) ?_
          intro v538 M539 q547
          obtain ⟨H540, f541, q542, q543, q544, q545, q546⟩ := q547
          have f548 := f535.tr (f541.up rfl)
          refine s_blx (lv' := [(0, vA b), (1, vR 0), (2, vR 77), (3, vI x3)]) (st' := []) B281_849_850 rfl ?_
          refine r_goto (tgt := 1317) D281_850 rfl ?_
          refine s_blx (lv' := [(3, vI (x3 + 6)), (0, vA b), (1, vR 0), (2, vR 77)]) (st' := []) B281_1317_1320 rfl ?_
          refine r_goto (tgt := 18) D281_1320 rfl ?_
          refine r_loc (lv' := [(0, vA b), (1, vR 0), (2, vR 77), (3, vI (x3 + 6))]) ⟨rfl, rfl, rfl, rfl, trivial⟩ rfl rfl ?_
          exact ih (x3 + 6) gs ga gb hf hn hx hy gT gN g0 g1 M539 H540 f548 (q542) (q543) (q544) (q545) (q546) (by omega) (by omega) (by omega) (by omega)
        · show sRn _ _ _ _ _ 853 _ _ _ _
          refine s_blx (lv' := [(0, vA b), (1, vR 0), (2, vR 77), (3, vI x3)]) (st' := [vI (x3 + 1), vA b, vR 0]) B281_853_858 rfl ?_
          refine r_aldE (pc' := 859) D281_858 rfl ihr (by omega) ?_
          intro r549; unfold inR at r549
          refine r_vI (c := 0) (args := [vI (sv f_ (x3 + 1))]) (rest := []) (pc' := 862) D281_859 rfl ck_12_virtual_95 TE115 rfl (Nat.le_of_ble_eq_true rfl) ⟨Nat.le_of_ble_eq_true rfl, Nat.le_of_ble_eq_true rfl⟩ sc_0 ⟨rfl, by decide⟩ HN.1 (by omega) (V115 E (by omega) HN (sv f_ (x3 + 1)) x3 gs gT gN ga g0 gb g1 hf hn hx hy (i0) (i1) (i2) (i3) (i4) (by omega)) ?_
          intro v550 M551 q559
          obtain ⟨H552, f553, q554, q555, q556, q557, q558⟩ := q559
          have f560 := fN.tr (f553.up rfl)
          refine s_blx (lv' := [(0, vA b), (1, vR 0), (2, vR 77), (3, vI x3)]) (st' := [vI (x3 + 1), vA b, vR 77]) B281_862_868 rfl ?_
          refine r_aldE (pc' := 869) D281_868 rfl ihr (by omega) ?_
          intro r561; unfold inR at r561
          refine r_vI (c := 77) (args := [vI (sv f_ (x3 + 1))]) (rest := []) (pc' := 872) D281_869 rfl ck_12_virtual_98 TE249 rfl (Nat.le_of_ble_eq_true rfl) ⟨Nat.le_of_ble_eq_true rfl, Nat.le_of_ble_eq_true rfl⟩ sc_77 ⟨rfl, by decide⟩ H552.1 (by omega) (V249 E (by omega) H552 (sv f_ (x3 + 1)) (x3 + 6) gs gT gN ga g0 gb g1 hf hn hx hy (q554) (q555) (q556) (q557) (q558) (by omega)) ?_
          intro v562 M563 q571
          obtain ⟨H564, f565, q566, q567, q568, q569, q570⟩ := q571
          have f572 := f560.tr (f565.up rfl)
          refine s_blx (lv' := [(0, vA b), (1, vR 0), (2, vR 77), (3, vI x3)]) (st' := []) B281_872_873 rfl ?_
          refine r_goto (tgt := 1317) D281_873 rfl ?_
          refine s_blx (lv' := [(3, vI (x3 + 6)), (0, vA b), (1, vR 0), (2, vR 77)]) (st' := []) B281_1317_1320 rfl ?_
          refine r_goto (tgt := 18) D281_1320 rfl ?_
          refine r_loc (lv' := [(0, vA b), (1, vR 0), (2, vR 77), (3, vI (x3 + 6))]) ⟨rfl, rfl, rfl, rfl, trivial⟩ rfl rfl ?_
          exact ih (x3 + 6) gs ga gb hf hn hx hy gT gN g0 g1 M563 H564 f572 (q566) (q567) (q568) (q569) (q570) (by omega) (by omega) (by omega) (by omega)
        · show sRn _ _ _ _ _ 876 _ _ _ _
          refine s_blx (lv' := [(0, vA b), (1, vR 0), (2, vR 77), (3, vI x3)]) (st' := [vI (x3 + 1), vA b, vR 0]) B281_876_881 rfl ?_
          refine r_aldE (pc' := 882) D281_881 rfl ihr (by omega) ?_
          intro r573; unfold inR at r573
          refine r_vL (c := 0) (args := [vI (sv f_ (x3 + 1))]) (rest := []) (pc' := 885) D281_882 rfl ck_12_virtual_99 TE116 rfl (Nat.le_of_ble_eq_true rfl) ⟨Nat.le_of_ble_eq_true rfl, Nat.le_of_ble_eq_true rfl⟩ sc_0 ⟨rfl, by decide⟩ HN.1 (by omega) (V116 E (by omega) HN (sv f_ (x3 + 1)) x3 gs gT gN ga g0 gb g1 hf hn hx hy (i0) (i1) (i2) (i3) (i4) (by omega)) ?_
          intro v574 M575 q583
          obtain ⟨H576, f577, q578, q579, q580, q581, q582⟩ := q583
          have f584 := fN.tr (f577.up rfl)
          refine s_blx (lv' := [(0, vA b), (1, vR 0), (2, vR 77), (3, vI x3)]) (st' := [vI (x3 + 1), vA b, vR 77]) B281_885_891 rfl ?_
          refine r_aldE (pc' := 892) D281_891 rfl ihr (by omega) ?_
          intro r585; unfold inR at r585
          refine r_vL (c := 77) (args := [vI (sv f_ (x3 + 1))]) (rest := []) (pc' := 895) D281_892 rfl ck_12_virtual_103 TE250 rfl (Nat.le_of_ble_eq_true rfl) ⟨Nat.le_of_ble_eq_true rfl, Nat.le_of_ble_eq_true rfl⟩ sc_77 ⟨rfl, by decide⟩ H576.1 (by omega) (V250 E (by omega) H576 (sv f_ (x3 + 1)) (x3 + 6) gs gT gN ga g0 gb g1 hf hn hx hy (q578) (q579) (q580) (q581) (q582) (by omega)) ?_
          intro v586 M587 q595
          obtain ⟨H588, f589, q590, q591, q592, q593, q594⟩ := q595
          have f596 := f584.tr (f589.up rfl)
          refine s_blx (lv' := [(0, vA b), (1, vR 0), (2, vR 77), (3, vI x3)]) (st' := []) B281_895_896 rfl ?_
          refine r_goto (tgt := 1317) D281_896 rfl ?_
          refine s_blx (lv' := [(3, vI (x3 + 6)), (0, vA b), (1, vR 0), (2, vR 77)]) (st' := []) B281_1317_1320 rfl ?_
          refine r_goto (tgt := 18) D281_1320 rfl ?_
          refine r_loc (lv' := [(0, vA b), (1, vR 0), (2, vR 77), (3, vI (x3 + 6))]) ⟨rfl, rfl, rfl, rfl, trivial⟩ rfl rfl ?_
          exact ih (x3 + 6) gs ga gb hf hn hx hy gT gN g0 g1 M587 H588 f596 (q590) (q591) (q592) (q593) (q594) (by omega) (by omega) (by omega) (by omega)
        · show sRn _ _ _ _ _ 899 _ _ _ _
          refine s_blx (lv' := [(0, vA b), (1, vR 0), (2, vR 77), (3, vI x3)]) (st' := [vR 0]) B281_899_900 rfl ?_
          refine r_vL (c := 0) (args := []) (rest := []) (pc' := 903) D281_900 rfl ck_12_virtual_104 TE117 rfl (Nat.le_of_ble_eq_true rfl) ⟨Nat.le_of_ble_eq_true rfl, Nat.le_of_ble_eq_true rfl⟩ sc_0 ⟨rfl, by decide⟩ HN.1 (by omega) (V117 E (by omega) HN x3 gs gT gN ga g0 gb g1 hf hn hx hy (i0) (i1) (i2) (i3) (i4)) ?_
          intro v597 M598 q606
          obtain ⟨H599, f600, q601, q602, q603, q604, q605⟩ := q606
          have f607 := fN.tr (f600.up rfl)
          refine s_blx (lv' := [(0, vA b), (1, vR 0), (2, vR 77), (3, vI x3)]) (st' := [vR 77]) B281_903_905 rfl ?_
          refine r_vL (c := 77) (args := []) (rest := []) (pc' := 908) D281_905 rfl ck_12_virtual_107 TE206 rfl (Nat.le_of_ble_eq_true rfl) ⟨Nat.le_of_ble_eq_true rfl, Nat.le_of_ble_eq_true rfl⟩ sc_77 ⟨rfl, by decide⟩ H599.1 (by omega) (V206 E (by omega) H599 (x3 + 6) gs gT gN ga g0 gb g1 hf hn hx hy (q601) (q602) (q603) (q604) (q605)) ?_
          intro v608 M609 q617
          obtain ⟨H610, f611, q612, q613, q614, q615, q616⟩ := q617
          have f618 := f607.tr (f611.up rfl)
          refine s_blx (lv' := [(0, vA b), (1, vR 0), (2, vR 77), (3, vI x3)]) (st' := []) B281_908_909 rfl ?_
          refine r_goto (tgt := 1317) D281_909 rfl ?_
          refine s_blx (lv' := [(3, vI (x3 + 6)), (0, vA b), (1, vR 0), (2, vR 77)]) (st' := []) B281_1317_1320 rfl ?_
          refine r_goto (tgt := 18) D281_1320 rfl ?_
          refine r_loc (lv' := [(0, vA b), (1, vR 0), (2, vR 77), (3, vI (x3 + 6))]) ⟨rfl, rfl, rfl, rfl, trivial⟩ rfl rfl ?_
          exact ih (x3 + 6) gs ga gb hf hn hx hy gT gN g0 g1 M609 H610 f618 (q612) (q613) (q614) (q615) (q616) (by omega) (by omega) (by omega) (by omega)
        · show sRn _ _ _ _ _ 912 _ _ _ _
          refine s_blx (lv' := [(0, vA b), (1, vR 0), (2, vR 77), (3, vI x3)]) (st' := [vI (x3 + 1), vA b, vR 0]) B281_912_917 rfl ?_
          refine r_aldE (pc' := 918) D281_917 rfl ihr (by omega) ?_
          intro r619; unfold inR at r619
          refine r_vL (c := 0) (args := [vI (sv f_ (x3 + 1))]) (rest := []) (pc' := 921) D281_918 rfl ck_12_virtual_108 TE118 rfl (Nat.le_of_ble_eq_true rfl) ⟨Nat.le_of_ble_eq_true rfl, Nat.le_of_ble_eq_true rfl⟩ sc_0 ⟨rfl, by decide⟩ HN.1 (by omega) (V118 E (by omega) HN (sv f_ (x3 + 1)) x3 gs gT gN ga g0 gb g1 hf hn hx hy (i0) (i1) (i2) (i3) (i4) (by omega)) ?_
          intro v620 M621 q629
          obtain ⟨H622, f623, q624, q625, q626, q627, q628⟩ := q629
          have f630 := fN.tr (f623.up rfl)
          refine s_blx (lv' := [(0, vA b), (1, vR 0), (2, vR 77), (3, vI x3)]) (st' := [vI (x3 + 1), vA b, vR 77]) B281_921_927 rfl ?_
          refine r_aldE (pc' := 928) D281_927 rfl ihr (by omega) ?_
          intro r631; unfold inR at r631
          refine r_vL (c := 77) (args := [vI (sv f_ (x3 + 1))]) (rest := []) (pc' := 931) D281_928 rfl ck_12_virtual_111 TE209 rfl (Nat.le_of_ble_eq_true rfl) ⟨Nat.le_of_ble_eq_true rfl, Nat.le_of_ble_eq_true rfl⟩ sc_77 ⟨rfl, by decide⟩ H622.1 (by omega) (V209 E (by omega) H622 (sv f_ (x3 + 1)) (x3 + 6) gs gT gN ga g0 gb g1 hf hn hx hy (q624) (q625) (q626) (q627) (q628) (by omega)) ?_
          intro v632 M633 q641
          obtain ⟨H634, f635, q636, q637, q638, q639, q640⟩ := q641
          have f642 := f630.tr (f635.up rfl)
          refine s_blx (lv' := [(0, vA b), (1, vR 0), (2, vR 77), (3, vI x3)]) (st' := []) B281_931_932 rfl ?_
          refine r_goto (tgt := 1317) D281_932 rfl ?_
          refine s_blx (lv' := [(3, vI (x3 + 6)), (0, vA b), (1, vR 0), (2, vR 77)]) (st' := []) B281_1317_1320 rfl ?_
          refine r_goto (tgt := 18) D281_1320 rfl ?_
          refine r_loc (lv' := [(0, vA b), (1, vR 0), (2, vR 77), (3, vI (x3 + 6))]) ⟨rfl, rfl, rfl, rfl, trivial⟩ rfl rfl ?_
          exact ih (x3 + 6) gs ga gb hf hn hx hy gT gN g0 g1 M633 H634 f642 (q636) (q637) (q638) (q639) (q640) (by omega) (by omega) (by omega) (by omega)
        · show sRn _ _ _ _ _ 935 _ _ _ _
          refine s_blx (lv' := [(0, vA b), (1, vR 0), (2, vR 77), (3, vI x3)]) (st' := [vI (x3 + 1), vA b, vR 0]) B281_935_940 rfl ?_
          refine r_aldE (pc' := 941) D281_940 rfl ihr (by omega) ?_
          intro r643; unfold inR at r643
          refine s_blx (lv' := [(0, vA b), (1, vR 0), (2, vR 77), (3, vI x3)]) (st' := [vI (x3 + 2), vA b, vI (sv f_ (x3 + 1)), vR 0]) B281_941_945 rfl ?_
          refine r_aldE (pc' := 946) D281_945 rfl ihr (by omega) ?_
          intro r644; unfold inR at r644
          refine s_blx (lv' := [(0, vA b), (1, vR 0), (2, vR 77), (3, vI x3)]) (st' := [vI (x3 + 3), vA b, vI (sv f_ (x3 + 2)), vI (sv f_ (x3 + 1)), vR 0]) B281_946_950 rfl ?_
          refine r_aldE (pc' := 951) D281_950 rfl ihr (by omega) ?_
          intro r645; unfold inR at r645
          refine r_vI (c := 0) (args := [vI (sv f_ (x3 + 1)), vI (sv f_ (x3 + 2)), vI (sv f_ (x3 + 3))]) (rest := []) (pc' := 954) D281_951 rfl ck_12_virtual_112 TE119 rfl (Nat.le_of_ble_eq_true rfl) ⟨Nat.le_of_ble_eq_true rfl, Nat.le_of_ble_eq_true rfl⟩ sc_0 ⟨rfl, by decide⟩ HN.1 (by omega) (V119 E (by omega) HN (sv f_ (x3 + 1)) (sv f_ (x3 + 2)) (sv f_ (x3 + 3)) x3 gs gT gN ga g0 gb g1 hf hn hx hy (i0) (i1) (i2) (i3) (i4) (by omega) (by omega) (by omega)) ?_
          intro v646 M647 q657
          obtain ⟨H648, f649, q650, q651, q652, q653, q654, q655, q656⟩ := q657
          have f658 := fN.tr (f649.up rfl)
          refine s_blx (lv' := [(0, vA b), (1, vR 0), (2, vR 77), (3, vI x3)]) (st' := [vI (x3 + 1), vA b, vR 77]) B281_954_960 rfl ?_
          refine r_aldE (pc' := 961) D281_960 rfl ihr (by omega) ?_
          intro r659; unfold inR at r659
          refine s_blx (lv' := [(0, vA b), (1, vR 0), (2, vR 77), (3, vI x3)]) (st' := [vI (x3 + 2), vA b, vI (sv f_ (x3 + 1)), vR 77]) B281_961_965 rfl ?_
          refine r_aldE (pc' := 966) D281_965 rfl ihr (by omega) ?_
          intro r660; unfold inR at r660
          refine s_blx (lv' := [(0, vA b), (1, vR 0), (2, vR 77), (3, vI x3)]) (st' := [vI (x3 + 3), vA b, vI (sv f_ (x3 + 2)), vI (sv f_ (x3 + 1)), vR 77]) B281_966_970 rfl ?_
          refine r_aldE (pc' := 971) D281_970 rfl ihr (by omega) ?_
          intro r661; unfold inR at r661
          refine r_vI (c := 77) (args := [vI (sv f_ (x3 + 1)), vI (sv f_ (x3 + 2)), vI (sv f_ (x3 + 3))]) (rest := []) (pc' := 974) D281_971 rfl ck_12_virtual_115 TE251 rfl (Nat.le_of_ble_eq_true rfl) ⟨Nat.le_of_ble_eq_true rfl, Nat.le_of_ble_eq_true rfl⟩ sc_77 ⟨rfl, by decide⟩ H648.1 (by omega) (V251 E (by omega) H648 (sv f_ (x3 + 1)) (sv f_ (x3 + 2)) (sv f_ (x3 + 3)) (x3 + 6) gs gT gN ga g0 gb g1 hf hn hx hy (q650) (q651) (q652) (q653) (q654) (by omega) (by omega) (by omega)) ?_
          intro v662 M663 q673
          obtain ⟨H664, f665, q666, q667, q668, q669, q670, q671, q672⟩ := q673
          have f674 := f658.tr (f665.up rfl)
          refine s_blx (lv' := [(0, vA b), (1, vR 0), (2, vR 77), (3, vI x3)]) (st' := []) B281_974_975 rfl ?_
          refine r_goto (tgt := 1317) D281_975 rfl ?_
          refine s_blx (lv' := [(3, vI (x3 + 6)), (0, vA b), (1, vR 0), (2, vR 77)]) (st' := []) B281_1317_1320 rfl ?_
          refine r_goto (tgt := 18) D281_1320 rfl ?_
          refine r_loc (lv' := [(0, vA b), (1, vR 0), (2, vR 77), (3, vI (x3 + 6))]) ⟨rfl, rfl, rfl, rfl, trivial⟩ rfl rfl ?_
          exact ih (x3 + 6) gs ga gb hf hn hx hy gT (ctN (BV (sv f_ (x3 + 1)) (sv f_ (x3 + 2)) (sv f_ (x3 + 3))) gN 391 472 6 (sv f_ (x3 + 1)) (sv f_ (x3 + 2)) (sv f_ (x3 + 3))) g0 g1 M663 H664 f674 (q666) (q667) (q668) (q669) (q670) (by omega) (by omega) (by omega) (by omega)
        · show sRn _ _ _ _ _ 978 _ _ _ _
          refine s_blx (lv' := [(0, vA b), (1, vR 0), (2, vR 77), (3, vI x3)]) (st' := [vR 0]) B281_978_979 rfl ?_
          refine r_vI (c := 0) (args := []) (rest := []) (pc' := 982) D281_979 rfl ck_12_virtual_116 TE120 rfl (Nat.le_of_ble_eq_true rfl) ⟨Nat.le_of_ble_eq_true rfl, Nat.le_of_ble_eq_true rfl⟩ sc_0 ⟨rfl, by decide⟩ HN.1 (by omega) (V120 E (by omega) HN x3 gs gT gN ga g0 gb g1 hf hn hx hy (i0) (i1) (i2) (i3) (i4)) ?_
          intro v675 M676 q684
          obtain ⟨H677, f678, q679, q680, q681, q682, q683⟩ := q684
          have f685 := fN.tr (f678.up rfl)
          refine s_blx (lv' := [(0, vA b), (1, vR 0), (2, vR 77), (3, vI x3)]) (st' := [vR 77]) B281_982_984 rfl ?_
          refine r_vI (c := 77) (args := []) (rest := []) (pc' := 987) D281_984 rfl ck_12_virtual_119 TE254 rfl (Nat.le_of_ble_eq_true rfl) ⟨Nat.le_of_ble_eq_true rfl, Nat.le_of_ble_eq_true rfl⟩ sc_77 ⟨rfl, by decide⟩ H677.1 (by omega) (V254 E (by omega) H677 (x3 + 6) gs gT gN ga g0 gb g1 hf hn hx hy (q679) (q680) (q681) (q682) (q683)) ?_
          intro v686 M687 q695
          obtain ⟨H688, f689, q690, q691, q692, q693, q694⟩ := q695
          have f696 := f685.tr (f689.up rfl)
          refine s_blx (lv' := [(0, vA b), (1, vR 0), (2, vR 77), (3, vI x3)]) (st' := []) B281_987_988 rfl ?_
          refine r_goto (tgt := 1317) D281_988 rfl ?_
          refine s_blx (lv' := [(3, vI (x3 + 6)), (0, vA b), (1, vR 0), (2, vR 77)]) (st' := []) B281_1317_1320 rfl ?_
          refine r_goto (tgt := 18) D281_1320 rfl ?_
          refine r_loc (lv' := [(0, vA b), (1, vR 0), (2, vR 77), (3, vI (x3 + 6))]) ⟨rfl, rfl, rfl, rfl, trivial⟩ rfl rfl ?_
          exact ih (x3 + 6) gs ga gb hf hn hx hy gT gN g0 g1 M687 H688 f696 (q690) (q691) (q692) (q693) (q694) (by omega) (by omega) (by omega) (by omega)
        · show sRn _ _ _ _ _ 991 _ _ _ _
          refine s_blx (lv' := [(0, vA b), (1, vR 0), (2, vR 77), (3, vI x3)]) (st' := [vI (x3 + 1), vA b, vR 0]) B281_991_996 rfl ?_
          refine r_aldE (pc' := 997) D281_996 rfl ihr (by omega) ?_
          intro r697; unfold inR at r697
          refine r_vI (c := 0) (args := [vI (sv f_ (x3 + 1))]) (rest := []) (pc' := 1000) D281_997 rfl ck_12_virtual_120 TE121 rfl (Nat.le_of_ble_eq_true rfl) ⟨Nat.le_of_ble_eq_true rfl, Nat.le_of_ble_eq_true rfl⟩ sc_0 ⟨rfl, by decide⟩ HN.1 (by omega) (V121 E (by omega) HN (sv f_ (x3 + 1)) x3 gs gT gN ga g0 gb g1 hf hn hx hy (i0) (i1) (i2) (i3) (i4) (by omega)) ?_
          intro v698 M699 q707
          obtain ⟨H700, f701, q702, q703, q704, q705, q706⟩ := q707
          have f708 := fN.tr (f701.up rfl)
          refine s_blx (lv' := [(0, vA b), (1, vR 0), (2, vR 77), (3, vI x3)]) (st' := [vI (x3 + 1), vA b, vR 77]) B281_1000_1006 rfl ?_
          refine r_aldE (pc' := 1007) D281_1006 rfl ihr (by omega) ?_
          intro r709; unfold inR at r709
          refine r_vI (c := 77) (args := [vI (sv f_ (x3 + 1))]) (rest := []) (pc' := 1010) D281_1007 rfl ck_12_virtual_123 TE255 rfl (Nat.le_of_ble_eq_true rfl) ⟨Nat.le_of_ble_eq_true rfl, Nat.le_of_ble_eq_true rfl⟩ sc_77 ⟨rfl, by decide⟩ H700.1 (by omega) (V255 E (by omega) H700 (sv f_ (x3 + 1)) (x3 + 6) gs gT gN ga g0 gb g1 hf hn hx hy (q702) (q703) (q704) (q705) (q706) (by omega)) ?_
          intro v710 M711 q719
          obtain ⟨H712, f713, q714, q715, q716, q717, q718⟩ := q719
          have f720 := f708.tr (f713.up rfl)
          refine s_blx (lv' := [(0, vA b), (1, vR 0), (2, vR 77), (3, vI x3)]) (st' := []) B281_1010_1011 rfl ?_
          refine r_goto (tgt := 1317) D281_1011 rfl ?_
          refine s_blx (lv' := [(3, vI (x3 + 6)), (0, vA b), (1, vR 0), (2, vR 77)]) (st' := []) B281_1317_1320 rfl ?_
          refine r_goto (tgt := 18) D281_1320 rfl ?_
          refine r_loc (lv' := [(0, vA b), (1, vR 0), (2, vR 77), (3, vI (x3 + 6))]) ⟨rfl, rfl, rfl, rfl, trivial⟩ rfl rfl ?_
          exact ih (x3 + 6) gs ga gb hf hn hx hy gT gN g0 g1 M711 H712 f720 (q714) (q715) (q716) (q717) (q718) (by omega) (by omega) (by omega) (by omega)
        · show sRn _ _ _ _ _ 1014 _ _ _ _
          refine s_blx (lv' := [(0, vA b), (1, vR 0), (2, vR 77), (3, vI x3)]) (st' := [vI (x3 + 1), vA b, vR 0]) B281_1014_1019 rfl ?_
          refine r_aldE (pc' := 1020) D281_1019 rfl ihr (by omega) ?_
          intro r721; unfold inR at r721
          refine s_blx (lv' := [(0, vA b), (1, vR 0), (2, vR 77), (3, vI x3)]) (st' := [vI (x3 + 2), vA b, vI (sv f_ (x3 + 1)), vR 0]) B281_1020_1024 rfl ?_
          refine r_aldE (pc' := 1025) D281_1024 rfl ihr (by omega) ?_
          intro r722; unfold inR at r722
          refine r_vI (c := 0) (args := [vI (sv f_ (x3 + 1)), vI (sv f_ (x3 + 2))]) (rest := []) (pc' := 1028) D281_1025 rfl ck_12_virtual_124 TE122 rfl (Nat.le_of_ble_eq_true rfl) ⟨Nat.le_of_ble_eq_true rfl, Nat.le_of_ble_eq_true rfl⟩ sc_0 ⟨rfl, by decide⟩ HN.1 (by omega) (V122 E (by omega) HN (sv f_ (x3 + 1)) (sv f_ (x3 + 2)) x3 gs gT gN ga g0 gb g1 hf hn hx hy (i0) (i1) (i2) (i3) (i4) (by omega) (by omega)) ?_
          intro v723 M724 q734
          obtain ⟨H725, f726, q727, q728, q729, q730, q731, q732, q733⟩ := q734
          have f735 := fN.tr (f726.up rfl)
          refine s_blx (lv' := [(0, vA b), (1, vR 0), (2, vR 77), (3, vI x3)]) (st' := [vI (x3 + 1), vA b, vR 77]) B281_1028_1034 rfl ?_
          refine r_aldE (pc' := 1035) D281_1034 rfl ihr (by omega) ?_
          intro r736; unfold inR at r736
          refine s_blx (lv' := [(0, vA b), (1, vR 0), (2, vR 77), (3, vI x3)]) (st' := [vI (x3 + 2), vA b, vI (sv f_ (x3 + 1)), vR 77]) B281_1035_1039 rfl ?_
          refine r_aldE (pc' := 1040) D281_1039 rfl ihr (by omega) ?_
          intro r737; unfold inR at r737
          refine r_vI (c := 77) (args := [vI (sv f_ (x3 + 1)), vI (sv f_ (x3 + 2))]) (rest := []) (pc' := 1043) D281_1040 rfl ck_12_virtual_127 TE256 rfl (Nat.le_of_ble_eq_true rfl) ⟨Nat.le_of_ble_eq_true rfl, Nat.le_of_ble_eq_true rfl⟩ sc_77 ⟨rfl, by decide⟩ H725.1 (by omega) (V256 E (by omega) H725 (sv f_ (x3 + 1)) (sv f_ (x3 + 2)) (x3 + 6) gs gT gN ga g0 gb g1 hf hn hx hy (q727) (q728) (q729) (q730) (q731) (by omega) (by omega)) ?_
          intro v738 M739 q749
          obtain ⟨H740, f741, q742, q743, q744, q745, q746, q747, q748⟩ := q749
          have f750 := f735.tr (f741.up rfl)
          refine s_blx (lv' := [(0, vA b), (1, vR 0), (2, vR 77), (3, vI x3)]) (st' := []) B281_1043_1044 rfl ?_
          refine r_goto (tgt := 1317) D281_1044 rfl ?_
          refine s_blx (lv' := [(3, vI (x3 + 6)), (0, vA b), (1, vR 0), (2, vR 77)]) (st' := []) B281_1317_1320 rfl ?_
          refine r_goto (tgt := 18) D281_1320 rfl ?_
          refine r_loc (lv' := [(0, vA b), (1, vR 0), (2, vR 77), (3, vI (x3 + 6))]) ⟨rfl, rfl, rfl, rfl, trivial⟩ rfl rfl ?_
          exact ih (x3 + 6) gs ga gb hf hn hx hy gT (stN (MV (sv f_ (x3 + 1)) (sv f_ (x3 + 2))) gN (409 + (sv f_ (x3 + 1))) (sv f_ (x3 + 2))) g0 g1 M739 H740 f750 (q742) (q743) (q744) (q745) (q746) (by omega) (by omega) (by omega) (by omega)
        · show sRn _ _ _ _ _ 1047 _ _ _ _
          refine s_blx (lv' := [(0, vA b), (1, vR 0), (2, vR 77), (3, vI x3)]) (st' := [vI (x3 + 1), vA b, vR 0]) B281_1047_1052 rfl ?_
          refine r_aldE (pc' := 1053) D281_1052 rfl ihr (by omega) ?_
          intro r751; unfold inR at r751
          refine r_vI (c := 0) (args := [vI (sv f_ (x3 + 1))]) (rest := []) (pc' := 1056) D281_1053 rfl ck_12_virtual_128 TE123 rfl (Nat.le_of_ble_eq_true rfl) ⟨Nat.le_of_ble_eq_true rfl, Nat.le_of_ble_eq_true rfl⟩ sc_0 ⟨rfl, by decide⟩ HN.1 (by omega) (V123 E (by omega) HN (sv f_ (x3 + 1)) x3 gs gT gN ga g0 gb g1 hf hn hx hy (i0) (i1) (i2) (i3) (i4) (by omega)) ?_
          intro v752 M753 q761
          obtain ⟨H754, f755, q756, q757, q758, q759, q760⟩ := q761
          have f762 := fN.tr (f755.up rfl)
          refine s_blx (lv' := [(0, vA b), (1, vR 0), (2, vR 77), (3, vI x3)]) (st' := [vI (x3 + 1), vA b, vR 77]) B281_1056_1062 rfl ?_
          refine r_aldE (pc' := 1063) D281_1062 rfl ihr (by omega) ?_
          intro r763; unfold inR at r763
          refine r_vI (c := 77) (args := [vI (sv f_ (x3 + 1))]) (rest := []) (pc' := 1066) D281_1063 rfl ck_12_virtual_131 TE257 rfl (Nat.le_of_ble_eq_true rfl) ⟨Nat.le_of_ble_eq_true rfl, Nat.le_of_ble_eq_true rfl⟩ sc_77 ⟨rfl, by decide⟩ H754.1 (by omega) (V257 E (by omega) H754 (sv f_ (x3 + 1)) (x3 + 6) gs gT gN ga g0 gb g1 hf hn hx hy (q756) (q757) (q758) (q759) (q760) (by omega)) ?_
          intro v764 M765 q773
          obtain ⟨H766, f767, q768, q769, q770, q771, q772⟩ := q773
          have f774 := f762.tr (f767.up rfl)
          refine s_blx (lv' := [(0, vA b), (1, vR 0), (2, vR 77), (3, vI x3)]) (st' := []) B281_1066_1067 rfl ?_
          refine r_goto (tgt := 1317) D281_1067 rfl ?_
          refine s_blx (lv' := [(3, vI (x3 + 6)), (0, vA b), (1, vR 0), (2, vR 77)]) (st' := []) B281_1317_1320 rfl ?_
          refine r_goto (tgt := 18) D281_1320 rfl ?_
          refine r_loc (lv' := [(0, vA b), (1, vR 0), (2, vR 77), (3, vI (x3 + 6))]) ⟨rfl, rfl, rfl, rfl, trivial⟩ rfl rfl ?_
          exact ih (x3 + 6) gs ga gb hf hn hx hy gT gN g0 g1 M765 H766 f774 (q768) (q769) (q770) (q771) (q772) (by omega) (by omega) (by omega) (by omega)
        · show sRn _ _ _ _ _ 1070 _ _ _ _
          refine s_blx (lv' := [(0, vA b), (1, vR 0), (2, vR 77), (3, vI x3)]) (st' := [vI (x3 + 1), vA b, vR 0]) B281_1070_1075 rfl ?_
          refine r_aldE (pc' := 1076) D281_1075 rfl ihr (by omega) ?_
          intro r775; unfold inR at r775
          refine r_vI (c := 0) (args := [vI (sv f_ (x3 + 1))]) (rest := []) (pc' := 1079) D281_1076 rfl ck_12_virtual_132 TE124 rfl (Nat.le_of_ble_eq_true rfl) ⟨Nat.le_of_ble_eq_true rfl, Nat.le_of_ble_eq_true rfl⟩ sc_0 ⟨rfl, by decide⟩ HN.1 (by omega) (V124 E (by omega) HN (sv f_ (x3 + 1)) x3 gs gT gN ga g0 gb g1 hf hn hx hy (i0) (i1) (i2) (i3) (i4) (by omega)) ?_
          intro v776 M777 q785
          obtain ⟨H778, f779, q780, q781, q782, q783, q784⟩ := q785
          have f786 := fN.tr (f779.up rfl)
          refine s_blx (lv' := [(0, vA b), (1, vR 0), (2, vR 77), (3, vI x3)]) (st' := [vI (x3 + 1), vA b, vR 77]) B281_1079_1085 rfl ?_
          refine r_aldE (pc' := 1086) D281_1085 rfl ihr (by omega) ?_
          intro r787; unfold inR at r787
          refine r_vI (c := 77) (args := [vI (sv f_ (x3 + 1))]) (rest := []) (pc' := 1089) D281_1086 rfl ck_12_virtual_135 TE258 rfl (Nat.le_of_ble_eq_true rfl) ⟨Nat.le_of_ble_eq_true rfl, Nat.le_of_ble_eq_true rfl⟩ sc_77 ⟨rfl, by decide⟩ H778.1 (by omega) (V258 E (by omega) H778 (sv f_ (x3 + 1)) (x3 + 6) gs gT gN ga g0 gb g1 hf hn hx hy (q780) (q781) (q782) (q783) (q784) (by omega)) ?_
          intro v788 M789 q797
          obtain ⟨H790, f791, q792, q793, q794, q795, q796⟩ := q797
          have f798 := f786.tr (f791.up rfl)
          refine s_blx (lv' := [(0, vA b), (1, vR 0), (2, vR 77), (3, vI x3)]) (st' := []) B281_1089_1090 rfl ?_
          refine r_goto (tgt := 1317) D281_1090 rfl ?_
          refine s_blx (lv' := [(3, vI (x3 + 6)), (0, vA b), (1, vR 0), (2, vR 77)]) (st' := []) B281_1317_1320 rfl ?_
          refine r_goto (tgt := 18) D281_1320 rfl ?_
          refine r_loc (lv' := [(0, vA b), (1, vR 0), (2, vR 77), (3, vI (x3 + 6))]) ⟨rfl, rfl, rfl, rfl, trivial⟩ rfl rfl ?_
          exact ih (x3 + 6) gs ga gb hf hn hx hy gT gN g0 g1 M789 H790 f798 (q792) (q793) (q794) (q795) (q796) (by omega) (by omega) (by omega) (by omega)
        · show sRn _ _ _ _ _ 1093 _ _ _ _
          refine s_blx (lv' := [(0, vA b), (1, vR 0), (2, vR 77), (3, vI x3)]) (st' := [vI (x3 + 1), vA b, vR 0]) B281_1093_1098 rfl ?_
          refine r_aldE (pc' := 1099) D281_1098 rfl ihr (by omega) ?_
          intro r799; unfold inR at r799
          refine s_blx (lv' := [(0, vA b), (1, vR 0), (2, vR 77), (3, vI x3)]) (st' := [vI (x3 + 2), vA b, vI (sv f_ (x3 + 1)), vR 0]) B281_1099_1103 rfl ?_
          refine r_aldE (pc' := 1104) D281_1103 rfl ihr (by omega) ?_
          intro r800; unfold inR at r800
          refine r_vI (c := 0) (args := [vI (sv f_ (x3 + 1)), vI (sv f_ (x3 + 2))]) (rest := []) (pc' := 1107) D281_1104 rfl ck_12_virtual_136 TE125 rfl (Nat.le_of_ble_eq_true rfl) ⟨Nat.le_of_ble_eq_true rfl, Nat.le_of_ble_eq_true rfl⟩ sc_0 ⟨rfl, by decide⟩ HN.1 (by omega) (V125 E (by omega) HN (sv f_ (x3 + 1)) (sv f_ (x3 + 2)) x3 gs gT gN ga g0 gb g1 hf hn hx hy (i0) (i1) (i2) (i3) (i4) (by omega) (by omega)) ?_
          intro v801 M802 q810
          obtain ⟨H803, f804, q805, q806, q807, q808, q809⟩ := q810
          have f811 := fN.tr (f804.up rfl)
          refine s_blx (lv' := [(0, vA b), (1, vR 0), (2, vR 77), (3, vI x3)]) (st' := [vI (x3 + 1), vA b, vR 77]) B281_1107_1113 rfl ?_
          refine r_aldE (pc' := 1114) D281_1113 rfl ihr (by omega) ?_
          intro r812; unfold inR at r812
          refine s_blx (lv' := [(0, vA b), (1, vR 0), (2, vR 77), (3, vI x3)]) (st' := [vI (x3 + 2), vA b, vI (sv f_ (x3 + 1)), vR 77]) B281_1114_1118 rfl ?_
          refine r_aldE (pc' := 1119) D281_1118 rfl ihr (by omega) ?_
          intro r813; unfold inR at r813
          refine r_vI (c := 77) (args := [vI (sv f_ (x3 + 1)), vI (sv f_ (x3 + 2))]) (rest := []) (pc' := 1122) D281_1119 rfl ck_12_virtual_139 TE260 rfl (Nat.le_of_ble_eq_true rfl) ⟨Nat.le_of_ble_eq_true rfl, Nat.le_of_ble_eq_true rfl⟩ sc_77 ⟨rfl, by decide⟩ H803.1 (by omega) (V260 E (by omega) H803 (sv f_ (x3 + 1)) (sv f_ (x3 + 2)) (x3 + 6) gs gT gN ga g0 gb g1 hf hn hx hy (q805) (q806) (q807) (q808) (q809) (by omega) (by omega)) ?_
          intro v814 M815 q823
          obtain ⟨H816, f817, q818, q819, q820, q821, q822⟩ := q823
          have f824 := f811.tr (f817.up rfl)
          refine s_blx (lv' := [(0, vA b), (1, vR 0), (2, vR 77), (3, vI x3)]) (st' := []) B281_1122_1123 rfl ?_
          refine r_goto (tgt := 1317) D281_1123 rfl ?_
          refine s_blx (lv' := [(3, vI (x3 + 6)), (0, vA b), (1, vR 0), (2, vR 77)]) (st' := []) B281_1317_1320 rfl ?_
          refine r_goto (tgt := 18) D281_1320 rfl ?_
          refine r_loc (lv' := [(0, vA b), (1, vR 0), (2, vR 77), (3, vI (x3 + 6))]) ⟨rfl, rfl, rfl, rfl, trivial⟩ rfl rfl ?_
          exact ih (x3 + 6) gs ga gb hf hn hx hy gT gN g0 g1 M815 H816 f824 (q818) (q819) (q820) (q821) (q822) (by omega) (by omega) (by omega) (by omega)
        · show sRn _ _ _ _ _ 1126 _ _ _ _
          refine s_blx (lv' := [(0, vA b), (1, vR 0), (2, vR 77), (3, vI x3)]) (st' := [vI (x3 + 1), vA b, vR 0]) B281_1126_1131 rfl ?_
          refine r_aldE (pc' := 1132) D281_1131 rfl ihr (by omega) ?_
          intro r825; unfold inR at r825
          refine s_blx (lv' := [(0, vA b), (1, vR 0), (2, vR 77), (3, vI x3)]) (st' := [vI (x3 + 2), vA b, vI (sv f_ (x3 + 1)), vR 0]) B281_1132_1136 rfl ?_
          refine r_aldE (pc' := 1137) D281_1136 rfl ihr (by omega) ?_
          intro r826; unfold inR at r826
          refine s_blx (lv' := [(0, vA b), (1, vR 0), (2, vR 77), (3, vI x3)]) (st' := [vI (x3 + 3), vA b, vI (sv f_ (x3 + 2)), vI (sv f_ (x3 + 1)), vR 0]) B281_1137_1141 rfl ?_
          refine r_aldE (pc' := 1142) D281_1141 rfl ihr (by omega) ?_
          intro r827; unfold inR at r827
          refine s_blx (lv' := [(0, vA b), (1, vR 0), (2, vR 77), (3, vI x3)]) (st' := [vI (x3 + 4), vA b, vI (sv f_ (x3 + 3)), vI (sv f_ (x3 + 2)), vI (sv f_ (x3 + 1)), vR 0]) B281_1142_1146 rfl ?_
          refine r_aldE (pc' := 1147) D281_1146 rfl ihr (by omega) ?_
          intro r828; unfold inR at r828
          refine s_blx (lv' := [(0, vA b), (1, vR 0), (2, vR 77), (3, vI x3)]) (st' := [vI (x3 + 5), vA b, vI (sv f_ (x3 + 4)), vI (sv f_ (x3 + 3)), vI (sv f_ (x3 + 2)), vI (sv f_ (x3 + 1)), vR 0]) B281_1147_1151 rfl ?_
          refine r_aldE (pc' := 1152) D281_1151 rfl ihr (by omega) ?_
          intro r829; unfold inR at r829
          refine r_vI (c := 0) (args := [vI (sv f_ (x3 + 1)), vI (sv f_ (x3 + 2)), vI (sv f_ (x3 + 3)), vI (sv f_ (x3 + 4)), vI (sv f_ (x3 + 5))]) (rest := []) (pc' := 1155) D281_1152 rfl ck_12_virtual_140 TE126 rfl (Nat.le_of_ble_eq_true rfl) ⟨Nat.le_of_ble_eq_true rfl, Nat.le_of_ble_eq_true rfl⟩ sc_0 ⟨rfl, by decide⟩ HN.1 (by omega) (V126 E (by omega) HN (sv f_ (x3 + 1)) (sv f_ (x3 + 2)) (sv f_ (x3 + 3)) (sv f_ (x3 + 4)) (sv f_ (x3 + 5)) x3 gs gT gN ga g0 gb g1 hf hn hx hy (i0) (i1) (i2) (i3) (i4) (by omega) (by omega) (by omega) (by omega) (by omega)) ?_
          intro v830 M831 q839
          obtain ⟨H832, f833, q834, q835, q836, q837, q838⟩ := q839
          have f840 := fN.tr (f833.up rfl)
          refine s_blx (lv' := [(0, vA b), (1, vR 0), (2, vR 77), (3, vI x3)]) (st' := [vI (x3 + 1), vA b, vR 77]) B281_1155_1161 rfl ?_
          refine r_aldE (pc' := 1162) D281_1161 rfl ihr (by omega) ?_
          intro r841; unfold inR at r841
          refine s_blx (lv' := [(0, vA b), (1, vR 0), (2, vR 77), (3, vI x3)]) (st' := [vI (x3 + 2), vA b, vI (sv f_ (x3 + 1)), vR 77]) B281_1162_1166 rfl ?_
          refine r_aldE (pc' := 1167) D281_1166 rfl ihr (by omega) ?_
          intro r842; unfold inR at r842
          refine s_blx (lv' := [(0, vA b), (1, vR 0), (2, vR 77), (3, vI x3)]) (st' := [vI (x3 + 3), vA b, vI (sv f_ (x3 + 2)), vI (sv f_ (x3 + 1)), vR 77]) B281_1167_1171 rfl ?_
          refine r_aldE (pc' := 1172) D281_1171 rfl ihr (by omega) ?_
          intro r843; unfold inR at r843
          refine s_blx (lv' := [(0, vA b), (1, vR 0), (2, vR 77), (3, vI x3)]) (st' := [vI (x3 + 4), vA b, vI (sv f_ (x3 + 3)), vI (sv f_ (x3 + 2)), vI (sv f_ (x3 + 1)), vR 77]) B281_1172_1176 rfl ?_
          refine r_aldE (pc' := 1177) D281_1176 rfl ihr (by omega) ?_
          intro r844; unfold inR at r844
          refine s_blx (lv' := [(0, vA b), (1, vR 0), (2, vR 77), (3, vI x3)]) (st' := [vI (x3 + 5), vA b, vI (sv f_ (x3 + 4)), vI (sv f_ (x3 + 3)), vI (sv f_ (x3 + 2)), vI (sv f_ (x3 + 1)), vR 77]) B281_1177_1181 rfl ?_
          refine r_aldE (pc' := 1182) D281_1181 rfl ihr (by omega) ?_
          intro r845; unfold inR at r845
          refine r_vI (c := 77) (args := [vI (sv f_ (x3 + 1)), vI (sv f_ (x3 + 2)), vI (sv f_ (x3 + 3)), vI (sv f_ (x3 + 4)), vI (sv f_ (x3 + 5))]) (rest := []) (pc' := 1185) D281_1182 rfl ck_12_virtual_143 TE261 rfl (Nat.le_of_ble_eq_true rfl) ⟨Nat.le_of_ble_eq_true rfl, Nat.le_of_ble_eq_true rfl⟩ sc_77 ⟨rfl, by decide⟩ H832.1 (by omega) (V261 E (by omega) H832 (sv f_ (x3 + 1)) (sv f_ (x3 + 2)) (sv f_ (x3 + 3)) (sv f_ (x3 + 4)) (sv f_ (x3 + 5)) (x3 + 6) gs gT gN ga g0 gb g1 hf hn hx hy (q834) (q835) (q836) (q837) (q838) (by omega) (by omega) (by omega) (by omega) (by omega)) ?_
          intro v846 M847 q855
          obtain ⟨H848, f849, q850, q851, q852, q853, q854⟩ := q855
          have f856 := f840.tr (f849.up rfl)
          refine s_blx (lv' := [(0, vA b), (1, vR 0), (2, vR 77), (3, vI x3)]) (st' := []) B281_1185_1186 rfl ?_
          refine r_goto (tgt := 1317) D281_1186 rfl ?_
          refine s_blx (lv' := [(3, vI (x3 + 6)), (0, vA b), (1, vR 0), (2, vR 77)]) (st' := []) B281_1317_1320 rfl ?_
          refine r_goto (tgt := 18) D281_1320 rfl ?_
          refine r_loc (lv' := [(0, vA b), (1, vR 0), (2, vR 77), (3, vI (x3 + 6))]) ⟨rfl, rfl, rfl, rfl, trivial⟩ rfl rfl ?_
          exact ih (x3 + 6) gs ga gb hf hn hx hy gT gN g0 g1 M847 H848 f856 (q850) (q851) (q852) (q853) (q854) (by omega) (by omega) (by omega) (by omega)
        · show sRn _ _ _ _ _ 1189 _ _ _ _
          refine s_blx (lv' := [(0, vA b), (1, vR 0), (2, vR 77), (3, vI x3)]) (st' := [vI (x3 + 1), vA b, vR 0]) B281_1189_1194 rfl ?_
          refine r_aldE (pc' := 1195) D281_1194 rfl ihr (by omega) ?_
          intro r857; unfold inR at r857
          refine r_vI (c := 0) (args := [vI (sv f_ (x3 + 1))]) (rest := []) (pc' := 1198) D281_1195 rfl ck_12_virtual_144 TE127 rfl (Nat.le_of_ble_eq_true rfl) ⟨Nat.le_of_ble_eq_true rfl, Nat.le_of_ble_eq_true rfl⟩ sc_0 ⟨rfl, by decide⟩ HN.1 (by omega) (V127 E (by omega) HN (sv f_ (x3 + 1)) x3 gs gT gN ga g0 gb g1 hf hn hx hy (i0) (i1) (i2) (i3) (i4) (by omega)) ?_
          intro v858 M859 q867
          obtain ⟨H860, f861, q862, q863, q864, q865, q866⟩ := q867
          have f868 := fN.tr (f861.up rfl)
          refine s_blx (lv' := [(0, vA b), (1, vR 0), (2, vR 77), (3, vI x3)]) (st' := [vI (x3 + 1), vA b, vR 77]) B281_1198_1204 rfl ?_
          refine r_aldE (pc' := 1205) D281_1204 rfl ihr (by omega) ?_
          intro r869; unfold inR at r869
          refine r_vI (c := 77) (args := [vI (sv f_ (x3 + 1))]) (rest := []) (pc' := 1208) D281_1205 rfl ck_12_virtual_147 TE262 rfl (Nat.le_of_ble_eq_true rfl) ⟨Nat.le_of_ble_eq_true rfl, Nat.le_of_ble_eq_true rfl⟩ sc_77 ⟨rfl, by decide⟩ H860.1 (by omega) (V262 E (by omega) H860 (sv f_ (x3 + 1)) (x3 + 6) gs gT gN ga g0 gb g1 hf hn hx hy (q862) (q863) (q864) (q865) (q866) (by omega)) ?_
          intro v870 M871 q879
          obtain ⟨H872, f873, q874, q875, q876, q877, q878⟩ := q879
          have f880 := f868.tr (f873.up rfl)
          refine s_blx (lv' := [(0, vA b), (1, vR 0), (2, vR 77), (3, vI x3)]) (st' := []) B281_1208_1209 rfl ?_
          refine r_goto (tgt := 1317) D281_1209 rfl ?_
          refine s_blx (lv' := [(3, vI (x3 + 6)), (0, vA b), (1, vR 0), (2, vR 77)]) (st' := []) B281_1317_1320 rfl ?_
          refine r_goto (tgt := 18) D281_1320 rfl ?_
          refine r_loc (lv' := [(0, vA b), (1, vR 0), (2, vR 77), (3, vI (x3 + 6))]) ⟨rfl, rfl, rfl, rfl, trivial⟩ rfl rfl ?_
          exact ih (x3 + 6) 0 ga gb hf hn hx hy gT gN g0 g1 M871 H872 f880 (q874) (q875) (q876) (q877) (q878) (by omega) (by omega) (by omega) (by omega)
        · show sRn _ _ _ _ _ 1212 _ _ _ _
          refine s_blx (lv' := [(0, vA b), (1, vR 0), (2, vR 77), (3, vI x3)]) (st' := [vI (x3 + 1), vA b, vR 0]) B281_1212_1217 rfl ?_
          refine r_aldE (pc' := 1218) D281_1217 rfl ihr (by omega) ?_
          intro r881; unfold inR at r881
          refine r_vI (c := 0) (args := [vI (sv f_ (x3 + 1))]) (rest := []) (pc' := 1221) D281_1218 rfl ck_12_virtual_148 TE128 rfl (Nat.le_of_ble_eq_true rfl) ⟨Nat.le_of_ble_eq_true rfl, Nat.le_of_ble_eq_true rfl⟩ sc_0 ⟨rfl, by decide⟩ HN.1 (by omega) (V128 E (by omega) HN (sv f_ (x3 + 1)) x3 gs gT gN ga g0 gb g1 hf hn hx hy (i0) (i1) (i2) (i3) (i4) (by omega)) ?_
          intro v882 M883 q891
          obtain ⟨H884, f885, q886, q887, q888, q889, q890⟩ := q891
          have f892 := fN.tr (f885.up rfl)
          refine s_blx (lv' := [(0, vA b), (1, vR 0), (2, vR 77), (3, vI x3)]) (st' := [vI (x3 + 1), vA b, vR 77]) B281_1221_1227 rfl ?_
          refine r_aldE (pc' := 1228) D281_1227 rfl ihr (by omega) ?_
          intro r893; unfold inR at r893
          refine r_vI (c := 77) (args := [vI (sv f_ (x3 + 1))]) (rest := []) (pc' := 1231) D281_1228 rfl ck_12_virtual_151 TE264 rfl (Nat.le_of_ble_eq_true rfl) ⟨Nat.le_of_ble_eq_true rfl, Nat.le_of_ble_eq_true rfl⟩ sc_77 ⟨rfl, by decide⟩ H884.1 (by omega) (V264 E (by omega) H884 (sv f_ (x3 + 1)) (x3 + 6) gs gT gN ga g0 gb g1 hf hn hx hy (q886) (q887) (q888) (q889) (q890) (by omega)) ?_
          intro v894 M895 q903
          obtain ⟨H896, f897, q898, q899, q900, q901, q902⟩ := q903
          have f904 := f892.tr (f897.up rfl)
          refine s_blx (lv' := [(0, vA b), (1, vR 0), (2, vR 77), (3, vI x3)]) (st' := []) B281_1231_1232 rfl ?_
          refine r_goto (tgt := 1317) D281_1232 rfl ?_
          refine s_blx (lv' := [(3, vI (x3 + 6)), (0, vA b), (1, vR 0), (2, vR 77)]) (st' := []) B281_1317_1320 rfl ?_
          refine r_goto (tgt := 18) D281_1320 rfl ?_
          refine r_loc (lv' := [(0, vA b), (1, vR 0), (2, vR 77), (3, vI (x3 + 6))]) ⟨rfl, rfl, rfl, rfl, trivial⟩ rfl rfl ?_
          exact ih (x3 + 6) gs ga gb hf hn hx hy gT gN g0 g1 M895 H896 f904 (q898) (q899) (q900) (q901) (q902) (by omega) (by omega) (by omega) (by omega)
        · show sRn _ _ _ _ _ 1235 _ _ _ _
          refine s_blx (lv' := [(0, vA b), (1, vR 0), (2, vR 77), (3, vI x3)]) (st' := [vI (x3 + 1), vA b, vR 0]) B281_1235_1240 rfl ?_
          refine r_aldE (pc' := 1241) D281_1240 rfl ihr (by omega) ?_
          intro r905; unfold inR at r905
          refine r_vI (c := 0) (args := [vI (sv f_ (x3 + 1))]) (rest := []) (pc' := 1244) D281_1241 rfl ck_12_virtual_152 TE129 rfl (Nat.le_of_ble_eq_true rfl) ⟨Nat.le_of_ble_eq_true rfl, Nat.le_of_ble_eq_true rfl⟩ sc_0 ⟨rfl, by decide⟩ HN.1 (by omega) (V129 E (by omega) HN (sv f_ (x3 + 1)) x3 gs gT gN ga g0 gb g1 hf hn hx hy (i0) (i1) (i2) (i3) (i4) (by omega)) ?_
          intro v906 M907 q917
          obtain ⟨H908, f909, q910, q911, q912, q913, q914, q915, q916⟩ := q917
          have f918 := fN.tr (f909.up rfl)
          refine s_blx (lv' := [(0, vA b), (1, vR 0), (2, vR 77), (3, vI x3)]) (st' := [vI (x3 + 1), vA b, vR 77]) B281_1244_1250 rfl ?_
          refine r_aldE (pc' := 1251) D281_1250 rfl ihr (by omega) ?_
          intro r919; unfold inR at r919
          refine r_vI (c := 77) (args := [vI (sv f_ (x3 + 1))]) (rest := []) (pc' := 1254) D281_1251 rfl ck_12_virtual_155 TE151 rfl (Nat.le_of_ble_eq_true rfl) ⟨Nat.le_of_ble_eq_true rfl, Nat.le_of_ble_eq_true rfl⟩ sc_77 ⟨rfl, by decide⟩ H908.1 (by omega) (V151 E (by omega) H908 (sv f_ (x3 + 1)) (x3 + 6) gs gT gN ga g0 gb g1 hf hn hx hy (q910) (q911) (q912) (q913) (q914) (by omega)) ?_
          intro v920 M921 q931
          obtain ⟨H922, f923, q924, q925, q926, q927, q928, q929, q930⟩ := q931
          have f932 := f918.tr (f923.up rfl)
          refine s_blx (lv' := [(0, vA b), (1, vR 0), (2, vR 77), (3, vI x3)]) (st' := []) B281_1254_1255 rfl ?_
          refine r_goto (tgt := 1317) D281_1255 rfl ?_
          refine s_blx (lv' := [(3, vI (x3 + 6)), (0, vA b), (1, vR 0), (2, vR 77)]) (st' := []) B281_1317_1320 rfl ?_
          refine r_goto (tgt := 18) D281_1320 rfl ?_
          refine r_loc (lv' := [(0, vA b), (1, vR 0), (2, vR 77), (3, vI (x3 + 6))]) ⟨rfl, rfl, rfl, rfl, trivial⟩ rfl rfl ?_
          exact ih (x3 + 6) gs (imA 0 (sv f_ (x3 + 1)) ga) (imA 1 (sv f_ (x3 + 1)) gb) hf hn (imI 0 (sv f_ (x3 + 1)) hn hx) (imI 1 (sv f_ (x3 + 1)) hn hy) gT gN (imF 0 (sv f_ (x3 + 1)) gN g0) (imF 1 (sv f_ (x3 + 1)) gN g1) M921 H922 f932 (q924) (q925) (q926) (q927) (q928) (by omega) (by omega) (by omega) (by omega)
        · show sRn _ _ _ _ _ 1258 _ _ _ _
          refine s_blx (lv' := [(0, vA b), (1, vR 0), (2, vR 77), (3, vI x3)]) (st' := [vI (x3 + 1), vA b, vR 0]) B281_1258_1263 rfl ?_
          refine r_aldE (pc' := 1264) D281_1263 rfl ihr (by omega) ?_
          intro r933; unfold inR at r933
          refine r_vI (c := 0) (args := [vI (sv f_ (x3 + 1))]) (rest := []) (pc' := 1267) D281_1264 rfl ck_12_virtual_156 TE130 rfl (Nat.le_of_ble_eq_true rfl) ⟨Nat.le_of_ble_eq_true rfl, Nat.le_of_ble_eq_true rfl⟩ sc_0 ⟨rfl, by decide⟩ HN.1 (by omega) (V130 E (by omega) HN (sv f_ (x3 + 1)) x3 gs gT gN ga g0 gb g1 hf hn hx hy (i0) (i1) (i2) (i3) (i4) (by omega)) ?_
          intro v934 M935 q945
          obtain ⟨H936, f937, q938, q939, q940, q941, q942, q943, q944⟩ := q945
          have f946 := fN.tr (f937.up rfl)
          refine s_blx (lv' := [(0, vA b), (1, vR 0), (2, vR 77), (3, vI x3)]) (st' := [vI (x3 + 1), vA b, vR 77]) B281_1267_1273 rfl ?_
          refine r_aldE (pc' := 1274) D281_1273 rfl ihr (by omega) ?_
          intro r947; unfold inR at r947
          refine r_vI (c := 77) (args := [vI (sv f_ (x3 + 1))]) (rest := []) (pc' := 1277) D281_1274 rfl ck_12_virtual_159 TE152 rfl (Nat.le_of_ble_eq_true rfl) ⟨Nat.le_of_ble_eq_true rfl, Nat.le_of_ble_eq_true rfl⟩ sc_77 ⟨rfl, by decide⟩ H936.1 (by omega) (V152 E (by omega) H936 (sv f_ (x3 + 1)) (x3 + 6) gs gT gN ga g0 gb g1 hf hn hx hy (q938) (q939) (q940) (q941) (q942) (by omega)) ?_
          intro v948 M949 q959
          obtain ⟨H950, f951, q952, q953, q954, q955, q956, q957, q958⟩ := q959
          have f960 := f946.tr (f951.up rfl)
          refine s_blx (lv' := [(0, vA b), (1, vR 0), (2, vR 77), (3, vI x3)]) (st' := []) B281_1277_1278 rfl ?_
          refine r_goto (tgt := 1317) D281_1278 rfl ?_
          refine s_blx (lv' := [(3, vI (x3 + 6)), (0, vA b), (1, vR 0), (2, vR 77)]) (st' := []) B281_1317_1320 rfl ?_
          refine r_goto (tgt := 18) D281_1320 rfl ?_
          refine r_loc (lv' := [(0, vA b), (1, vR 0), (2, vR 77), (3, vI (x3 + 6))]) ⟨rfl, rfl, rfl, rfl, trivial⟩ rfl rfl ?_
          exact ih (x3 + 6) gs ga gb hf (bkI (sv f_ (x3 + 1)) ga gb hx hy hn) hx hy gT (bkN (sv f_ (x3 + 1)) ga gb g0 g1 gN) g0 g1 M949 H950 f960 (q952) (q953) (q954) (q955) (q956) (by omega) (by omega) (by omega) (by omega)
        · show sRn _ _ _ _ _ 1281 _ _ _ _
          refine s_blx (lv' := [(0, vA b), (1, vR 0), (2, vR 77), (3, vI x3)]) (st' := [vI (x3 + 1), vA b, vR 0]) B281_1281_1286 rfl ?_
          refine r_aldE (pc' := 1287) D281_1286 rfl ihr (by omega) ?_
          intro r961; unfold inR at r961
          refine r_vI (c := 0) (args := [vI (sv f_ (x3 + 1))]) (rest := []) (pc' := 1290) D281_1287 rfl ck_12_virtual_160 TE131 rfl (Nat.le_of_ble_eq_true rfl) ⟨Nat.le_of_ble_eq_true rfl, Nat.le_of_ble_eq_true rfl⟩ sc_0 ⟨rfl, by decide⟩ HN.1 (by omega) (V131 E (by omega) HN (sv f_ (x3 + 1)) x3 gs gT gN ga g0 gb g1 hf hn hx hy (i0) (i1) (i2) (i3) (i4) (by omega)) ?_
          intro v962 M963 q973
          obtain ⟨H964, f965, q966, q967, q968, q969, q970, q971, q972⟩ := q973
          have f974 := fN.tr (f965.up rfl)
          refine s_blx (lv' := [(0, vA b), (1, vR 0), (2, vR 77), (3, vI x3)]) (st' := [vI (x3 + 1), vA b, vR 77]) B281_1290_1296 rfl ?_
          refine r_aldE (pc' := 1297) D281_1296 rfl ihr (by omega) ?_
          intro r975; unfold inR at r975
          refine r_vI (c := 77) (args := [vI (sv f_ (x3 + 1))]) (rest := []) (pc' := 1300) D281_1297 rfl ck_12_virtual_163 TE265 rfl (Nat.le_of_ble_eq_true rfl) ⟨Nat.le_of_ble_eq_true rfl, Nat.le_of_ble_eq_true rfl⟩ sc_77 ⟨rfl, by decide⟩ H964.1 (by omega) (V265 E (by omega) H964 (sv f_ (x3 + 1)) (x3 + 6) gs gT gN ga g0 gb g1 hf hn hx hy (q966) (q967) (q968) (q969) (q970) (by omega)) ?_
          intro v976 M977 q987
          obtain ⟨H978, f979, q980, q981, q982, q983, q984, q985, q986⟩ := q987
          have f988 := f974.tr (f979.up rfl)
          refine s_blx (lv' := [(0, vA b), (1, vR 0), (2, vR 77), (3, vI x3)]) (st' := []) B281_1300_1301 rfl ?_
          refine r_goto (tgt := 1317) D281_1301 rfl ?_
          refine s_blx (lv' := [(3, vI (x3 + 6)), (0, vA b), (1, vR 0), (2, vR 77)]) (st' := []) B281_1317_1320 rfl ?_
          refine r_goto (tgt := 18) D281_1320 rfl ?_
          refine r_loc (lv' := [(0, vA b), (1, vR 0), (2, vR 77), (3, vI (x3 + 6))]) ⟨rfl, rfl, rfl, rfl, trivial⟩ rfl rfl ?_
          exact ih (x3 + 6) gs ga gb hf hn hx hy gT gN g0 g1 M977 H978 f988 (q980) (q981) (q982) (q983) (q984) (by omega) (by omega) (by omega) (by omega)
        · show sRn _ _ _ _ _ 1304 _ _ _ _
          refine s_blx (lv' := [(0, vA b), (1, vR 0), (2, vR 77), (3, vI x3)]) (st' := [vR 0]) B281_1304_1305 rfl ?_
          refine r_vI (c := 0) (args := []) (rest := []) (pc' := 1308) D281_1305 rfl ck_12_virtual_164 TE132 rfl (Nat.le_of_ble_eq_true rfl) ⟨Nat.le_of_ble_eq_true rfl, Nat.le_of_ble_eq_true rfl⟩ sc_0 ⟨rfl, by decide⟩ HN.1 (by omega) (V132 E (by omega) HN x3 gs gT gN ga g0 gb g1 hf hn hx hy (i0) (i1) (i2) (i3) (i4)) ?_
          intro v989 M990 q998
          obtain ⟨H991, f992, q993, q994, q995, q996, q997⟩ := q998
          have f999 := fN.tr (f992.up rfl)
          refine s_blx (lv' := [(0, vA b), (1, vR 0), (2, vR 77), (3, vI x3)]) (st' := [vR 77]) B281_1308_1310 rfl ?_
          refine r_vI (c := 77) (args := []) (rest := []) (pc' := 1313) D281_1310 rfl ck_12_virtual_167 TE266 rfl (Nat.le_of_ble_eq_true rfl) ⟨Nat.le_of_ble_eq_true rfl, Nat.le_of_ble_eq_true rfl⟩ sc_77 ⟨rfl, by decide⟩ H991.1 (by omega) (V266 E (by omega) H991 (x3 + 6) gs gT gN ga g0 gb g1 hf hn hx hy (q993) (q994) (q995) (q996) (q997)) ?_
          intro v1000 M1001 q1009
          obtain ⟨H1002, f1003, q1004, q1005, q1006, q1007, q1008⟩ := q1009
          have f1010 := f999.tr (f1003.up rfl)
          refine s_blx (lv' := [(0, vA b), (1, vR 0), (2, vR 77), (3, vI x3)]) (st' := []) B281_1313_1314 rfl ?_
          refine r_goto (tgt := 1317) D281_1314 rfl ?_
          refine s_blx (lv' := [(3, vI (x3 + 6)), (0, vA b), (1, vR 0), (2, vR 77)]) (st' := []) B281_1317_1320 rfl ?_
          refine r_goto (tgt := 18) D281_1320 rfl ?_
          refine r_loc (lv' := [(0, vA b), (1, vR 0), (2, vR 77), (3, vI (x3 + 6))]) ⟨rfl, rfl, rfl, rfl, trivial⟩ rfl rfl ?_
          exact ih (x3 + 6) gs ga gb hf hn hx hy gT gN g0 g1 M1001 H1002 f1010 (q1004) (q1005) (q1006) (q1007) (q1008) (by omega) (by omega) (by omega) (by omega)
      · intro c3
        refine s_blx (lv' := [(3, vI (x3 + 6)), (0, vA b), (1, vR 0), (2, vR 77)]) (st' := []) B281_1317_1320 rfl ?_
        refine r_goto (tgt := 18) D281_1320 rfl ?_
        refine r_loc (lv' := [(0, vA b), (1, vR 0), (2, vR 77), (3, vI (x3 + 6))]) ⟨rfl, rfl, rfl, rfl, trivial⟩ rfl rfl ?_
        exact ih (x3 + 6) gs ga gb hf hn hx hy gT gN g0 g1 N HN fN (i0.up) (i1) (i2) (i3) (i4) (by omega) (by omega) (by omega) (by omega)
set_option maxRecDepth 4000 in
set_option maxHeartbeats 4000000 in
theorem k281p {base : Nat} {X : Nat → Option mC} {G : Nat → Value} (E : EnvOK base X G) {b L : Nat} {f_ : Nat → Value} (ihr : SCR base X b L f_) {d : Nat} (hd : 179 ≤ d) {M : mH} (H : HI base M) (h0 : INVl base 0 M) (h1 : CSx base 0 z_T i_N 0 i_N 0 i_N M) (h2 : RSx 0 z_T i_N 0 i_N 0 i_N M) (h3 : HXc base (-1) 0 0 0 M) (h4 : HXr (-1) 0 0 0 M) : sRn base X G d T281 16 [(0, vA b), (1, vR 0), (2, vR 77)] [] M (s_Q base (pI (fun v M' => HI base M' ∧ Ftr [(0, 0)] M M' ∧ (v = 0 ∨ v = 1) ∧ (v = 1) ∧ (M'.1 ≤ 600000 ∧ M'.2.1 ≤ 7302250)))) := by
  have f0 : Ftr [(0, 0)] M M := Ftr.rf
  refine s_blx (lv' := [(3, vI 0), (0, vA b), (1, vR 0), (2, vR 77)]) (st' := []) B281_16_18 rfl ?_
  refine r_loc (lv' := [(0, vA b), (1, vR 0), (2, vR 77), (3, vI 0)]) ⟨rfl, rfl, rfl, rfl, trivial⟩ rfl rfl ?_
  exact (L_k281p E ihr hd H h0 h1 h2 h3 h4 (((3078 - 0) * 1 + 0 : Int) + 1).toNat) 0 0 0 0 (-1) 0 0 0 z_T i_N i_N i_N M H f0 (h0) (h1) (h2) (h3) (h4) (by omega) (by omega) (by omega) (by omega)
