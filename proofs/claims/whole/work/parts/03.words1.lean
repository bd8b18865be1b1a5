theorem kw_373 : Cond.methodLink R_Signing 60 y_Hasher_takeAll ∈ WA := wt_2 (List.mem_of_getElem? (i := 133) (by decide +kernel)) rfl
theorem kw_374 : Cond.methodLink R_Signing 64 y_Hasher_takeLong ∈ WA := wt_2 (List.mem_of_getElem? (i := 134) (by decide +kernel)) rfl
theorem kw_375 : Cond.methodLink R_Signing 71 y_Hasher_finish ∈ WA := wt_2 (List.mem_of_getElem? (i := 135) (by decide +kernel)) rfl
theorem kw_376 : Cond.methodLink R_Signing 75 arraycopyName ∈ WA := wt_2 (List.mem_of_getElem? (i := 136) (by decide +kernel)) rfl
theorem kw_377 : Cond.methodLink R_SVS 83 y_Signing_trySucceeds ∈ WA := wt_2 (List.mem_of_getElem? (i := 137) (by decide +kernel)) rfl
theorem kw_378 : Cond.instanceMethod y_Signing_trySucceeds ∈ WA := wt_2 (List.mem_of_getElem? (i := 138) (by decide +kernel)) rfl
theorem kw_379 : Cond.selects R_Signing y_Signing_trySucceeds y_Signing_trySucceeds ∈ WA := wt_2 (List.mem_of_getElem? (i := 139) (by decide +kernel)) rfl
theorem kw_380 : Cond.code y_Signing_trySucceeds b_Signing_trySucceeds 4 (some .boolean) ∈ WA := wt_2 (List.mem_of_getElem? (i := 140) (by decide +kernel)) rfl
theorem kw_381 : Cond.methodLink R_Signing 81 y_Samples_fillWideVector ∈ WA := wt_2 (List.mem_of_getElem? (i := 141) (by decide +kernel)) rfl
theorem kw_382 : Cond.static y_Samples_fillWideVector ∈ WA := wt_2 (List.mem_of_getElem? (i := 142) (by decide +kernel)) rfl
theorem kw_383 : Cond.code y_Samples_fillWideVector b_Samples_fillWideVector 4 none ∈ WA := wt_2 (List.mem_of_getElem? (i := 143) (by decide +kernel)) rfl
theorem kw_384 : Cond.methodLink R_Samples 22 y_Samples_fillWide ∈ WA := wt_2 (List.mem_of_getElem? (i := 144) (by decide +kernel)) rfl
theorem kw_385 : Cond.static y_Samples_fillWide ∈ WA := wt_2 (List.mem_of_getElem? (i := 145) (by decide +kernel)) rfl
theorem kw_386 : Cond.code y_Samples_fillWide b_Samples_fillWide 4 none ∈ WA := wt_2 (List.mem_of_getElem? (i := 146) (by decide +kernel)) rfl
theorem kw_387 : Cond.methodLink R_Samples 56 y_Packing_read ∈ WA := wt_2 (List.mem_of_getElem? (i := 147) (by decide +kernel)) rfl
theorem kw_388 : Cond.static y_Packing_read ∈ WA := wt_2 (List.mem_of_getElem? (i := 148) (by decide +kernel)) rfl
theorem kw_389 : Cond.code y_Packing_read b_Packing_read 7 (some .int) ∈ WA := wt_2 (List.mem_of_getElem? (i := 149) (by decide +kernel)) rfl
theorem kw_390 : Cond.methodLink R_Signing 90 y_Ring_applyMatrix ∈ WA := wt_2 (List.mem_of_getElem? (i := 150) (by decide +kernel)) rfl
theorem kw_391 : Cond.methodLink R_Signing 96 y_Signing_noteHighs ∈ WA := wt_2 (List.mem_of_getElem? (i := 151) (by decide +kernel)) rfl
theorem kw_393 : Cond.instanceMethod y_Signing_noteHighs ∈ WA := wt_2 (List.mem_of_getElem? (i := 153) (by decide +kernel)) rfl
theorem kw_394 : Cond.code y_Signing_noteHighs b_Signing_noteHighs 2 none ∈ WA := wt_2 (List.mem_of_getElem? (i := 154) (by decide +kernel)) rfl
theorem kw_395 : Cond.methodLink R_Signing 139 y_Rounding_highOf ∈ WA := wt_2 (List.mem_of_getElem? (i := 155) (by decide +kernel)) rfl
theorem kw_396 : Cond.static y_Rounding_highOf ∈ WA := wt_2 (List.mem_of_getElem? (i := 156) (by decide +kernel)) rfl
theorem kw_397 : Cond.code y_Rounding_highOf b_Rounding_highOf 2 (some .int) ∈ WA := wt_2 (List.mem_of_getElem? (i := 157) (by decide +kernel)) rfl
theorem kw_398 : Cond.constant R_Rounding 15 (8380416) ∈ WA := wt_2 (List.mem_of_getElem? (i := 158) (by decide +kernel)) rfl
theorem kw_399 : Cond.methodLink R_Signing 145 y_Transcript_setHigh ∈ WA := wt_2 (List.mem_of_getElem? (i := 159) (by decide +kernel)) rfl
theorem kw_400 : Cond.instanceMethod y_Transcript_setHigh ∈ WA := wt_2 (List.mem_of_getElem? (i := 160) (by decide +kernel)) rfl
theorem kw_401 : Cond.selects R_Transcript y_Transcript_setHigh y_Transcript_setHigh ∈ WA := wt_2 (List.mem_of_getElem? (i := 161) (by decide +kernel)) rfl
theorem kw_402 : Cond.code y_Transcript_setHigh b_Transcript_setHigh 3 none ∈ WA := wt_2 (List.mem_of_getElem? (i := 162) (by decide +kernel)) rfl
theorem kw_403 : Cond.methodLink R_Transcript 46 y_Packing_write ∈ WA := wt_2 (List.mem_of_getElem? (i := 163) (by decide +kernel)) rfl
theorem kw_404 : Cond.methodLink R_Signing 99 y_Transcript_close ∈ WA := wt_2 (List.mem_of_getElem? (i := 164) (by decide +kernel)) rfl
theorem kw_405 : Cond.instanceMethod y_Transcript_close ∈ WA := wt_2 (List.mem_of_getElem? (i := 165) (by decide +kernel)) rfl
theorem kw_406 : Cond.selects R_Transcript y_Transcript_close y_Transcript_close ∈ WA := wt_2 (List.mem_of_getElem? (i := 166) (by decide +kernel)) rfl
theorem kw_407 : Cond.code y_Transcript_close b_Transcript_close 2 none ∈ WA := wt_2 (List.mem_of_getElem? (i := 167) (by decide +kernel)) rfl
theorem kw_408 : Cond.methodLink R_Signing 106 y_Samples_fillBall ∈ WA := wt_2 (List.mem_of_getElem? (i := 168) (by decide +kernel)) rfl
theorem kw_409 : Cond.static y_Samples_fillBall ∈ WA := wt_2 (List.mem_of_getElem? (i := 169) (by decide +kernel)) rfl
theorem kw_410 : Cond.code y_Samples_fillBall b_Samples_fillBall 3 none ∈ WA := wt_2 (List.mem_of_getElem? (i := 170) (by decide +kernel)) rfl
theorem kw_411 : Cond.methodLink R_Samples 38 y_Samples_fillSigns ∈ WA := wt_2 (List.mem_of_getElem? (i := 171) (by decide +kernel)) rfl
theorem kw_412 : Cond.static y_Samples_fillSigns ∈ WA := wt_2 (List.mem_of_getElem? (i := 172) (by decide +kernel)) rfl
theorem kw_413 : Cond.code y_Samples_fillSigns b_Samples_fillSigns 5 none ∈ WA := wt_2 (List.mem_of_getElem? (i := 173) (by decide +kernel)) rfl
theorem kw_414 : Cond.methodLink R_Samples 42 y_Arrays_fill_II ∈ WA := wt_2 (List.mem_of_getElem? (i := 174) (by decide +kernel)) rfl
theorem kw_415 : Cond.static y_Arrays_fill_II ∈ WA := wt_2 (List.mem_of_getElem? (i := 175) (by decide +kernel)) rfl
theorem kw_416 : Cond.code y_Arrays_fill_II b_Arrays_fill_II 4 none ∈ WA := wt_2 (List.mem_of_getElem? (i := 176) (by decide +kernel)) rfl
theorem kw_417 : Cond.methodLink R_Signing 110 y_Signing_answer ∈ WA := wt_2 (List.mem_of_getElem? (i := 177) (by decide +kernel)) rfl
theorem kw_419 : Cond.instanceMethod y_Signing_answer ∈ WA := wt_2 (List.mem_of_getElem? (i := 179) (by decide +kernel)) rfl
theorem kw_420 : Cond.code y_Signing_answer b_Signing_answer 3 none ∈ WA := wt_2 (List.mem_of_getElem? (i := 180) (by decide +kernel)) rfl
theorem kw_421 : Cond.methodLink R_Signing 152 y_Ring_applyPolynomial ∈ WA := wt_2 (List.mem_of_getElem? (i := 181) (by decide +kernel)) rfl
theorem kw_422 : Cond.static y_Ring_applyPolynomial ∈ WA := wt_2 (List.mem_of_getElem? (i := 182) (by decide +kernel)) rfl
theorem kw_423 : Cond.code y_Ring_applyPolynomial b_Ring_applyPolynomial 4 none ∈ WA := wt_2 (List.mem_of_getElem? (i := 183) (by decide +kernel)) rfl
theorem kw_424 : Cond.methodLink R_Signing 161 y_Ring_reduce ∈ WA := wt_2 (List.mem_of_getElem? (i := 184) (by decide +kernel)) rfl
theorem kw_425 : Cond.methodLink R_Signing 114 y_Ring_size ∈ WA := wt_2 (List.mem_of_getElem? (i := 185) (by decide +kernel)) rfl
theorem kw_426 : Cond.static y_Ring_size ∈ WA := wt_2 (List.mem_of_getElem? (i := 186) (by decide +kernel)) rfl
theorem kw_427 : Cond.code y_Ring_size b_Ring_size 3 (some .int) ∈ WA := wt_2 (List.mem_of_getElem? (i := 187) (by decide +kernel)) rfl
theorem kw_428 : Cond.methodLink R_Ring 19 y_Ring_centered ∈ WA := wt_2 (List.mem_of_getElem? (i := 188) (by decide +kernel)) rfl
theorem kw_429 : Cond.static y_Ring_centered ∈ WA := wt_2 (List.mem_of_getElem? (i := 189) (by decide +kernel)) rfl
theorem kw_430 : Cond.code y_Ring_centered b_Ring_centered 3 (some .int) ∈ WA := wt_2 (List.mem_of_getElem? (i := 190) (by decide +kernel)) rfl
theorem kw_431 : Cond.constant R_Ring 17 (4190208) ∈ WA := wt_2 (List.mem_of_getElem? (i := 191) (by decide +kernel)) rfl
theorem kw_432 : Cond.constant R_Ring 18 (8380417) ∈ WA := wt_2 (List.mem_of_getElem? (i := 192) (by decide +kernel)) rfl
theorem kw_433 : Cond.methodLink R_Ring 22 y_Math_abs ∈ WA := wt_2 (List.mem_of_getElem? (i := 193) (by decide +kernel)) rfl
theorem kw_434 : Cond.static y_Math_abs ∈ WA := wt_2 (List.mem_of_getElem? (i := 194) (by decide +kernel)) rfl
theorem kw_435 : Cond.code y_Math_abs b_Math_abs 1 (some .int) ∈ WA := wt_2 (List.mem_of_getElem? (i := 195) (by decide +kernel)) rfl
theorem kw_436 : Cond.methodLink R_Ring 28 y_Math_max ∈ WA := wt_2 (List.mem_of_getElem? (i := 196) (by decide +kernel)) rfl
theorem kw_437 : Cond.static y_Math_max ∈ WA := wt_2 (List.mem_of_getElem? (i := 197) (by decide +kernel)) rfl
theorem kw_438 : Cond.code y_Math_max b_Math_max 2 (some .int) ∈ WA := wt_2 (List.mem_of_getElem? (i := 198) (by decide +kernel)) rfl
theorem kw_439 : Cond.methodLink R_Signing 118 y_Signing_lowsAreShort ∈ WA := wt_2 (List.mem_of_getElem? (i := 199) (by decide +kernel)) rfl
theorem kw_441 : Cond.instanceMethod y_Signing_lowsAreShort ∈ WA := wt_2 (List.mem_of_getElem? (i := 201) (by decide +kernel)) rfl
theorem kw_442 : Cond.code y_Signing_lowsAreShort b_Signing_lowsAreShort 2 (some .boolean) ∈ WA := wt_2 (List.mem_of_getElem? (i := 202) (by decide +kernel)) rfl
theorem kw_443 : Cond.methodLink R_Signing 164 y_Rounding_lowOf ∈ WA := wt_2 (List.mem_of_getElem? (i := 203) (by decide +kernel)) rfl
theorem kw_444 : Cond.static y_Rounding_lowOf ∈ WA := wt_2 (List.mem_of_getElem? (i := 204) (by decide +kernel)) rfl
theorem kw_445 : Cond.code y_Rounding_lowOf b_Rounding_lowOf 2 (some .int) ∈ WA := wt_2 (List.mem_of_getElem? (i := 205) (by decide +kernel)) rfl
theorem kw_446 : Cond.methodLink R_Signing 167 y_Math_abs ∈ WA := wt_2 (List.mem_of_getElem? (i := 206) (by decide +kernel)) rfl
theorem kw_447 : Cond.methodLink R_Signing 122 y_Signing_fillHints ∈ WA := wt_2 (List.mem_of_getElem? (i := 207) (by decide +kernel)) rfl
theorem kw_449 : Cond.instanceMethod y_Signing_fillHints ∈ WA := wt_2 (List.mem_of_getElem? (i := 209) (by decide +kernel)) rfl
theorem kw_450 : Cond.code y_Signing_fillHints b_Signing_fillHints 3 (some .int) ∈ WA := wt_2 (List.mem_of_getElem? (i := 210) (by decide +kernel)) rfl
theorem kw_451 : Cond.methodLink R_Signing 172 y_Rounding_hintOf ∈ WA := wt_2 (List.mem_of_getElem? (i := 211) (by decide +kernel)) rfl
theorem kw_452 : Cond.static y_Rounding_hintOf ∈ WA := wt_2 (List.mem_of_getElem? (i := 212) (by decide +kernel)) rfl
theorem kw_453 : Cond.code y_Rounding_hintOf b_Rounding_hintOf 3 (some .int) ∈ WA := wt_2 (List.mem_of_getElem? (i := 213) (by decide +kernel)) rfl
theorem kw_454 : Cond.methodLink R_Rounding 16 y_Rounding_highOf ∈ WA := wt_2 (List.mem_of_getElem? (i := 214) (by decide +kernel)) rfl
theorem kw_455 : Cond.methodLink R_Rounding 20 y_Ring_reduce ∈ WA := wt_2 (List.mem_of_getElem? (i := 215) (by decide +kernel)) rfl
theorem kw_456 : Cond.methodLink R_SVS 87 y_Signing_writeTo ∈ WA := wt_2 (List.mem_of_getElem? (i := 216) (by decide +kernel)) rfl
theorem kw_457 : Cond.instanceMethod y_Signing_writeTo ∈ WA := wt_2 (List.mem_of_getElem? (i := 217) (by decide +kernel)) rfl
theorem kw_458 : Cond.selects R_Signing y_Signing_writeTo y_Signing_writeTo ∈ WA := wt_2 (List.mem_of_getElem? (i := 218) (by decide +kernel)) rfl
theorem kw_459 : Cond.code y_Signing_writeTo b_Signing_writeTo 3 none ∈ WA := wt_2 (List.mem_of_getElem? (i := 219) (by decide +kernel)) rfl
theorem kw_460 : Cond.methodLink R_Signing 126 y_Ring_centered ∈ WA := wt_2 (List.mem_of_getElem? (i := 220) (by decide +kernel)) rfl
theorem kw_461 : Cond.methodLink R_Signing 130 y_Packing_write ∈ WA := wt_2 (List.mem_of_getElem? (i := 221) (by decide +kernel)) rfl
theorem kw_462 : Cond.methodLink R_Signing 136 y_Signing_writeHints ∈ WA := wt_2 (List.mem_of_getElem? (i := 222) (by decide +kernel)) rfl
theorem kw_464 : Cond.instanceMethod y_Signing_writeHints ∈ WA := wt_2 (List.mem_of_getElem? (i := 224) (by decide +kernel)) rfl
theorem kw_465 : Cond.code y_Signing_writeHints b_Signing_writeHints 4 none ∈ WA := wt_2 (List.mem_of_getElem? (i := 225) (by decide +kernel)) rfl
theorem kw_466 : Cond.methodLink R_Signing 176 y_Signing_writePlaces ∈ WA := wt_2 (List.mem_of_getElem? (i := 226) (by decide +kernel)) rfl
theorem kw_468 : Cond.instanceMethod y_Signing_writePlaces ∈ WA := wt_2 (List.mem_of_getElem? (i := 228) (by decide +kernel)) rfl
theorem kw_469 : Cond.code y_Signing_writePlaces b_Signing_writePlaces 6 (some .int) ∈ WA := wt_2 (List.mem_of_getElem? (i := 229) (by decide +kernel)) rfl
theorem kw_471 : Cond.methodLink R_law 34 y_SVS_verify ∈ WA := wt_2 (List.mem_of_getElem? (i := 231) (by decide +kernel)) rfl
theorem kw_472 : Cond.instanceMethod y_SVS_verify ∈ WA := wt_2 (List.mem_of_getElem? (i := 232) (by decide +kernel)) rfl
theorem kw_473 : Cond.selects R_SVS y_SVS_verify y_SVS_verify ∈ WA := wt_2 (List.mem_of_getElem? (i := 233) (by decide +kernel)) rfl
theorem kw_474 : Cond.code y_SVS_verify b_SVS_verify 1 (some .boolean) ∈ WA := wt_2 (List.mem_of_getElem? (i := 234) (by decide +kernel)) rfl
theorem kw_475 : Cond.methodLink R_SVS 91 y_Verifying_holds ∈ WA := wt_2 (List.mem_of_getElem? (i := 235) (by decide +kernel)) rfl
theorem kw_476 : Cond.instanceMethod y_Verifying_holds ∈ WA := wt_2 (List.mem_of_getElem? (i := 236) (by decide +kernel)) rfl
theorem kw_477 : Cond.selects R_Verifying y_Verifying_holds y_Verifying_holds ∈ WA := wt_2 (List.mem_of_getElem? (i := 237) (by decide +kernel)) rfl
theorem kw_478 : Cond.code y_Verifying_holds b_Verifying_holds 5 (some .boolean) ∈ WA := wt_2 (List.mem_of_getElem? (i := 238) (by decide +kernel)) rfl
theorem kw_479 : Cond.methodLink R_Verifying 43 y_Verifying_readZ ∈ WA := wt_2 (List.mem_of_getElem? (i := 239) (by decide +kernel)) rfl
theorem kw_481 : Cond.instanceMethod y_Verifying_readZ ∈ WA := wt_3 (List.mem_of_getElem? (i := 1) (by decide +kernel)) rfl
theorem kw_482 : Cond.code y_Verifying_readZ b_Verifying_readZ 3 none ∈ WA := wt_3 (List.mem_of_getElem? (i := 2) (by decide +kernel)) rfl
theorem kw_483 : Cond.methodLink R_Verifying 88 y_Packing_read ∈ WA := wt_3 (List.mem_of_getElem? (i := 3) (by decide +kernel)) rfl
theorem kw_484 : Cond.methodLink R_Verifying 47 y_Verifying_readHints ∈ WA := wt_3 (List.mem_of_getElem? (i := 4) (by decide +kernel)) rfl
theorem kw_486 : Cond.instanceMethod y_Verifying_readHints ∈ WA := wt_3 (List.mem_of_getElem? (i := 6) (by decide +kernel)) rfl
theorem kw_487 : Cond.code y_Verifying_readHints b_Verifying_readHints 4 (some .boolean) ∈ WA := wt_3 (List.mem_of_getElem? (i := 7) (by decide +kernel)) rfl
theorem kw_488 : Cond.methodLink R_Verifying 94 y_Arrays_fill_II ∈ WA := wt_3 (List.mem_of_getElem? (i := 8) (by decide +kernel)) rfl
theorem kw_489 : Cond.methodLink R_Verifying 100 y_Verifying_readPlaces ∈ WA := wt_3 (List.mem_of_getElem? (i := 9) (by decide +kernel)) rfl
theorem kw_491 : Cond.instanceMethod y_Verifying_readPlaces ∈ WA := wt_3 (List.mem_of_getElem? (i := 11) (by decide +kernel)) rfl
theorem kw_492 : Cond.code y_Verifying_readPlaces b_Verifying_readPlaces 8 (some .boolean) ∈ WA := wt_3 (List.mem_of_getElem? (i := 12) (by decide +kernel)) rfl
theorem kw_493 : Cond.methodLink R_Verifying 104 y_Verifying_isZeroBehind ∈ WA := wt_3 (List.mem_of_getElem? (i := 13) (by decide +kernel)) rfl
theorem kw_494 : Cond.static y_Verifying_isZeroBehind ∈ WA := wt_3 (List.mem_of_getElem? (i := 14) (by decide +kernel)) rfl
theorem kw_495 : Cond.code y_Verifying_isZeroBehind b_Verifying_isZeroBehind 3 (some .boolean) ∈ WA := wt_3 (List.mem_of_getElem? (i := 15) (by decide +kernel)) rfl
theorem kw_496 : Cond.methodLink R_Verifying 51 y_Ring_size ∈ WA := wt_3 (List.mem_of_getElem? (i := 16) (by decide +kernel)) rfl
theorem kw_497 : Cond.methodLink R_Verifying 57 y_SecretKey_fillTrace ∈ WA := wt_3 (List.mem_of_getElem? (i := 17) (by decide +kernel)) rfl
theorem kw_498 : Cond.methodLink R_Verifying 63 y_Transcript_open ∈ WA := wt_3 (List.mem_of_getElem? (i := 18) (by decide +kernel)) rfl
theorem kw_499 : Cond.methodLink R_Verifying 67 y_Samples_fillMatrix ∈ WA := wt_3 (List.mem_of_getElem? (i := 19) (by decide +kernel)) rfl
theorem kw_500 : Cond.methodLink R_Verifying 72 y_Samples_fillBall ∈ WA := wt_3 (List.mem_of_getElem? (i := 20) (by decide +kernel)) rfl
theorem kw_501 : Cond.methodLink R_Verifying 75 y_Verifying_readT1 ∈ WA := wt_3 (List.mem_of_getElem? (i := 21) (by decide +kernel)) rfl
theorem kw_503 : Cond.instanceMethod y_Verifying_readT1 ∈ WA := wt_3 (List.mem_of_getElem? (i := 23) (by decide +kernel)) rfl
theorem kw_504 : Cond.code y_Verifying_readT1 b_Verifying_readT1 3 none ∈ WA := wt_3 (List.mem_of_getElem? (i := 24) (by decide +kernel)) rfl
theorem kw_505 : Cond.methodLink R_Verifying 108 y_Ring_reduce ∈ WA := wt_3 (List.mem_of_getElem? (i := 25) (by decide +kernel)) rfl
theorem kw_506 : Cond.methodLink R_Verifying 78 y_Verifying_correctAll ∈ WA := wt_3 (List.mem_of_getElem? (i := 26) (by decide +kernel)) rfl
theorem kw_508 : Cond.instanceMethod y_Verifying_correctAll ∈ WA := wt_3 (List.mem_of_getElem? (i := 28) (by decide +kernel)) rfl
theorem kw_509 : Cond.code y_Verifying_correctAll b_Verifying_correctAll 3 none ∈ WA := wt_3 (List.mem_of_getElem? (i := 29) (by decide +kernel)) rfl
theorem kw_510 : Cond.methodLink R_Verifying 112 y_Ring_applyMatrix ∈ WA := wt_3 (List.mem_of_getElem? (i := 30) (by decide +kernel)) rfl
theorem kw_511 : Cond.methodLink R_Verifying 116 y_Ring_applyPolynomial ∈ WA := wt_3 (List.mem_of_getElem? (i := 31) (by decide +kernel)) rfl
theorem kw_512 : Cond.methodLink R_Verifying 119 y_Rounding_correctedBy ∈ WA := wt_3 (List.mem_of_getElem? (i := 32) (by decide +kernel)) rfl
theorem kw_513 : Cond.static y_Rounding_correctedBy ∈ WA := wt_3 (List.mem_of_getElem? (i := 33) (by decide +kernel)) rfl
theorem kw_514 : Cond.code y_Rounding_correctedBy b_Rounding_correctedBy 3 (some .int) ∈ WA := wt_3 (List.mem_of_getElem? (i := 34) (by decide +kernel)) rfl
theorem kw_515 : Cond.methodLink R_Rounding 26 y_Rounding_lowOf ∈ WA := wt_3 (List.mem_of_getElem? (i := 35) (by decide +kernel)) rfl
theorem kw_516 : Cond.methodLink R_Verifying 125 y_Transcript_setHigh ∈ WA := wt_3 (List.mem_of_getElem? (i := 36) (by decide +kernel)) rfl
theorem kw_517 : Cond.methodLink R_Verifying 81 y_Transcript_close ∈ WA := wt_3 (List.mem_of_getElem? (i := 37) (by decide +kernel)) rfl
theorem kw_518 : Cond.methodLink R_Verifying 85 y_Transcript_hasSealOf ∈ WA := wt_3 (List.mem_of_getElem? (i := 38) (by decide +kernel)) rfl
theorem kw_519 : Cond.instanceMethod y_Transcript_hasSealOf ∈ WA := wt_3 (List.mem_of_getElem? (i := 39) (by decide +kernel)) rfl
theorem kw_520 : Cond.selects R_Transcript y_Transcript_hasSealOf y_Transcript_hasSealOf ∈ WA := wt_3 (List.mem_of_getElem? (i := 40) (by decide +kernel)) rfl
theorem kw_521 : Cond.code y_Transcript_hasSealOf b_Transcript_hasSealOf 3 (some .boolean) ∈ WA := wt_3 (List.mem_of_getElem? (i := 41) (by decide +kernel)) rfl
theorem kw_522 : Cond.methodLink R_law 39 y_SVS_publicByte ∈ WA := wt_3 (List.mem_of_getElem? (i := 42) (by decide +kernel)) rfl
theorem kw_523 : Cond.instanceMethod y_SVS_publicByte ∈ WA := wt_3 (List.mem_of_getElem? (i := 43) (by decide +kernel)) rfl
theorem kw_524 : Cond.selects R_SVS y_SVS_publicByte y_SVS_publicByte ∈ WA := wt_3 (List.mem_of_getElem? (i := 44) (by decide +kernel)) rfl
theorem kw_525 : Cond.code y_SVS_publicByte b_SVS_publicByte 2 (some .int) ∈ WA := wt_3 (List.mem_of_getElem? (i := 45) (by decide +kernel)) rfl
theorem kw_526 : Cond.methodLink R_SVS 95 y_SVS_isIndex ∈ WA := wt_3 (List.mem_of_getElem? (i := 46) (by decide +kernel)) rfl
theorem kw_527 : Cond.static y_SVS_isIndex ∈ WA := wt_3 (List.mem_of_getElem? (i := 47) (by decide +kernel)) rfl
theorem kw_528 : Cond.code y_SVS_isIndex b_SVS_isIndex 2 (some .boolean) ∈ WA := wt_3 (List.mem_of_getElem? (i := 48) (by decide +kernel)) rfl
theorem kw_529 : Cond.methodLink R_law 44 y_SVS_signatureByte ∈ WA := wt_3 (List.mem_of_getElem? (i := 49) (by decide +kernel)) rfl
theorem kw_530 : Cond.instanceMethod y_SVS_signatureByte ∈ WA := wt_3 (List.mem_of_getElem? (i := 50) (by decide +kernel)) rfl
theorem kw_531 : Cond.selects R_SVS y_SVS_signatureByte y_SVS_signatureByte ∈ WA := wt_3 (List.mem_of_getElem? (i := 51) (by decide +kernel)) rfl
theorem kw_532 : Cond.code y_SVS_signatureByte b_SVS_signatureByte 2 (some .int) ∈ WA := wt_3 (List.mem_of_getElem? (i := 52) (by decide +kernel)) rfl
theorem kw_533 : Cond.methodLink R_law 48 y_SVS_putPublic ∈ WA := wt_3 (List.mem_of_getElem? (i := 53) (by decide +kernel)) rfl
theorem kw_534 : Cond.instanceMethod y_SVS_putPublic ∈ WA := wt_3 (List.mem_of_getElem? (i := 54) (by decide +kernel)) rfl
theorem kw_535 : Cond.selects R_SVS y_SVS_putPublic y_SVS_putPublic ∈ WA := wt_3 (List.mem_of_getElem? (i := 55) (by decide +kernel)) rfl
theorem kw_536 : Cond.code y_SVS_putPublic b_SVS_putPublic 3 (some .boolean) ∈ WA := wt_3 (List.mem_of_getElem? (i := 56) (by decide +kernel)) rfl
theorem kw_537 : Cond.methodLink R_SVS 99 y_SVS_putByte ∈ WA := wt_3 (List.mem_of_getElem? (i := 57) (by decide +kernel)) rfl
theorem kw_538 : Cond.static y_SVS_putByte ∈ WA := wt_3 (List.mem_of_getElem? (i := 58) (by decide +kernel)) rfl
theorem kw_539 : Cond.code y_SVS_putByte b_SVS_putByte 3 (some .boolean) ∈ WA := wt_3 (List.mem_of_getElem? (i := 59) (by decide +kernel)) rfl
theorem kw_540 : Cond.methodLink R_law 53 y_SVS_putSignature ∈ WA := wt_3 (List.mem_of_getElem? (i := 60) (by decide +kernel)) rfl
theorem kw_541 : Cond.instanceMethod y_SVS_putSignature ∈ WA := wt_3 (List.mem_of_getElem? (i := 61) (by decide +kernel)) rfl
theorem kw_542 : Cond.selects R_SVS y_SVS_putSignature y_SVS_putSignature ∈ WA := wt_3 (List.mem_of_getElem? (i := 62) (by decide +kernel)) rfl
theorem kw_543 : Cond.code y_SVS_putSignature b_SVS_putSignature 3 (some .boolean) ∈ WA := wt_3 (List.mem_of_getElem? (i := 63) (by decide +kernel)) rfl
theorem kw_544 : Cond.methodLink R_law 57 y_SVS_secret ∈ WA := wt_3 (List.mem_of_getElem? (i := 64) (by decide +kernel)) rfl
theorem kw_545 : Cond.instanceMethod y_SVS_secret ∈ WA := wt_3 (List.mem_of_getElem? (i := 65) (by decide +kernel)) rfl
theorem kw_546 : Cond.selects R_SVS y_SVS_secret y_SVS_secret ∈ WA := wt_3 (List.mem_of_getElem? (i := 66) (by decide +kernel)) rfl
theorem kw_547 : Cond.code y_SVS_secret b_SVS_secret 3 (some .int) ∈ WA := wt_3 (List.mem_of_getElem? (i := 67) (by decide +kernel)) rfl
theorem kw_548 : Cond.methodLink R_SVS 103 y_SecretKey_vectorOf ∈ WA := wt_3 (List.mem_of_getElem? (i := 68) (by decide +kernel)) rfl
theorem kw_549 : Cond.instanceMethod y_SecretKey_vectorOf ∈ WA := wt_3 (List.mem_of_getElem? (i := 69) (by decide +kernel)) rfl
theorem kw_550 : Cond.selects R_SecretKey y_SecretKey_vectorOf y_SecretKey_vectorOf ∈ WA := wt_3 (List.mem_of_getElem? (i := 70) (by decide +kernel)) rfl
theorem kw_551 : Cond.code y_SecretKey_vectorOf b_SecretKey_vectorOf 2 (some (.array .int)) ∈ WA := wt_3 (List.mem_of_getElem? (i := 71) (by decide +kernel)) rfl
theorem kw_552 : Cond.methodLink R_SVS 107 y_Ring_centered ∈ WA := wt_3 (List.mem_of_getElem? (i := 72) (by decide +kernel)) rfl
theorem kw_553 : Cond.methodLink R_law 62 y_SVS_hash ∈ WA := wt_3 (List.mem_of_getElem? (i := 73) (by decide +kernel)) rfl
theorem kw_554 : Cond.instanceMethod y_SVS_hash ∈ WA := wt_3 (List.mem_of_getElem? (i := 74) (by decide +kernel)) rfl
theorem kw_555 : Cond.selects R_SVS y_SVS_hash y_SVS_hash ∈ WA := wt_3 (List.mem_of_getElem? (i := 75) (by decide +kernel)) rfl
theorem kw_556 : Cond.code y_SVS_hash b_SVS_hash 2 (some .int) ∈ WA := wt_3 (List.mem_of_getElem? (i := 76) (by decide +kernel)) rfl
theorem kw_557 : Cond.methodLink R_SVS 113 y_Hasher_begin ∈ WA := wt_3 (List.mem_of_getElem? (i := 77) (by decide +kernel)) rfl
theorem kw_558 : Cond.methodLink R_SVS 116 y_Message_feed ∈ WA := wt_3 (List.mem_of_getElem? (i := 78) (by decide +kernel)) rfl
theorem kw_559 : Cond.methodLink R_SVS 120 y_Hasher_finish ∈ WA := wt_3 (List.mem_of_getElem? (i := 79) (by decide +kernel)) rfl
theorem kw_560 : Cond.methodLink R_law 66 y_SVS_ball ∈ WA := wt_3 (List.mem_of_getElem? (i := 80) (by decide +kernel)) rfl
theorem kw_561 : Cond.instanceMethod y_SVS_ball ∈ WA := wt_3 (List.mem_of_getElem? (i := 81) (by decide +kernel)) rfl
theorem kw_562 : Cond.selects R_SVS y_SVS_ball y_SVS_ball ∈ WA := wt_3 (List.mem_of_getElem? (i := 82) (by decide +kernel)) rfl
theorem kw_563 : Cond.code y_SVS_ball b_SVS_ball 2 (some .int) ∈ WA := wt_3 (List.mem_of_getElem? (i := 83) (by decide +kernel)) rfl
theorem kw_564 : Cond.methodLink R_SVS 124 y_Samples_fillBall ∈ WA := wt_3 (List.mem_of_getElem? (i := 84) (by decide +kernel)) rfl
theorem kw_565 : Cond.methodLink R_law 70 y_SVS_high ∈ WA := wt_3 (List.mem_of_getElem? (i := 85) (by decide +kernel)) rfl
theorem kw_566 : Cond.instanceMethod y_SVS_high ∈ WA := wt_3 (List.mem_of_getElem? (i := 86) (by decide +kernel)) rfl
theorem kw_567 : Cond.selects R_SVS y_SVS_high y_SVS_high ∈ WA := wt_3 (List.mem_of_getElem? (i := 87) (by decide +kernel)) rfl
theorem kw_568 : Cond.code y_SVS_high b_SVS_high 2 (some .int) ∈ WA := wt_3 (List.mem_of_getElem? (i := 88) (by decide +kernel)) rfl
theorem kw_569 : Cond.methodLink R_SVS 130 y_Ring_reduce ∈ WA := wt_3 (List.mem_of_getElem? (i := 89) (by decide +kernel)) rfl
theorem kw_570 : Cond.methodLink R_SVS 133 y_Rounding_highOf ∈ WA := wt_3 (List.mem_of_getElem? (i := 90) (by decide +kernel)) rfl
theorem kw_571 : Cond.methodLink R_law 74 y_SVS_low ∈ WA := wt_3 (List.mem_of_getElem? (i := 91) (by decide +kernel)) rfl
theorem kw_572 : Cond.instanceMethod y_SVS_low ∈ WA := wt_3 (List.mem_of_getElem? (i := 92) (by decide +kernel)) rfl
theorem kw_573 : Cond.selects R_SVS y_SVS_low y_SVS_low ∈ WA := wt_3 (List.mem_of_getElem? (i := 93) (by decide +kernel)) rfl
theorem kw_574 : Cond.code y_SVS_low b_SVS_low 2 (some .int) ∈ WA := wt_3 (List.mem_of_getElem? (i := 94) (by decide +kernel)) rfl
theorem kw_575 : Cond.methodLink R_SVS 139 y_Rounding_lowOf ∈ WA := wt_3 (List.mem_of_getElem? (i := 95) (by decide +kernel)) rfl
theorem kw_576 : Cond.methodLink R_law 78 y_SVS_hint ∈ WA := wt_3 (List.mem_of_getElem? (i := 96) (by decide +kernel)) rfl
theorem kw_577 : Cond.instanceMethod y_SVS_hint ∈ WA := wt_3 (List.mem_of_getElem? (i := 97) (by decide +kernel)) rfl
theorem kw_578 : Cond.selects R_SVS y_SVS_hint y_SVS_hint ∈ WA := wt_3 (List.mem_of_getElem? (i := 98) (by decide +kernel)) rfl
theorem kw_579 : Cond.code y_SVS_hint b_SVS_hint 3 (some .int) ∈ WA := wt_3 (List.mem_of_getElem? (i := 99) (by decide +kernel)) rfl
theorem kw_580 : Cond.methodLink R_SVS 142 y_Rounding_hintOf ∈ WA := wt_3 (List.mem_of_getElem? (i := 100) (by decide +kernel)) rfl
theorem kw_581 : Cond.methodLink R_law 82 y_SVS_corrected ∈ WA := wt_3 (List.mem_of_getElem? (i := 101) (by decide +kernel)) rfl
theorem kw_582 : Cond.instanceMethod y_SVS_corrected ∈ WA := wt_3 (List.mem_of_getElem? (i := 102) (by decide +kernel)) rfl
theorem kw_583 : Cond.selects R_SVS y_SVS_corrected y_SVS_corrected ∈ WA := wt_3 (List.mem_of_getElem? (i := 103) (by decide +kernel)) rfl
theorem kw_584 : Cond.code y_SVS_corrected b_SVS_corrected 3 (some .int) ∈ WA := wt_3 (List.mem_of_getElem? (i := 104) (by decide +kernel)) rfl
theorem kw_585 : Cond.methodLink R_SVS 146 y_Rounding_correctedBy ∈ WA := wt_3 (List.mem_of_getElem? (i := 105) (by decide +kernel)) rfl
theorem kw_586 : Cond.classLink R_law 10 R_Md ∈ WA := wt_3 (List.mem_of_getElem? (i := 106) (by decide +kernel)) rfl
theorem kw_587 : Cond.instantiable R_Md 35 ∈ WA := wt_3 (List.mem_of_getElem? (i := 107) (by decide +kernel)) rfl
theorem kw_588 : Cond.methodLink R_law 12 y_Md_init ∈ WA := wt_3 (List.mem_of_getElem? (i := 108) (by decide +kernel)) rfl
theorem kw_589 : Cond.instanceMethod y_Md_init ∈ WA := wt_3 (List.mem_of_getElem? (i := 109) (by decide +kernel)) rfl
theorem kw_590 : Cond.code y_Md_init b_Md_init 5 none ∈ WA := wt_3 (List.mem_of_getElem? (i := 110) (by decide +kernel)) rfl
theorem kw_591 : Cond.methodLink R_Md 1 objectInit ∈ WA := wt_3 (List.mem_of_getElem? (i := 111) (by decide +kernel)) rfl
theorem kw_592 : Cond.fieldLink R_Md 7 R_Md "turn" "[I" ∈ WA := wt_3 (List.mem_of_getElem? (i := 112) (by decide +kernel)) rfl
theorem kw_593 : Cond.fieldLink R_Md 13 R_Md "extra" "[J" ∈ WA := wt_3 (List.mem_of_getElem? (i := 113) (by decide +kernel)) rfl
theorem kw_594 : Cond.fieldLink R_Md 17 R_Md "lane" "[J" ∈ WA := wt_3 (List.mem_of_getElem? (i := 114) (by decide +kernel)) rfl
theorem kw_595 : Cond.fieldLink R_Md 20 R_Md "moved" "[J" ∈ WA := wt_3 (List.mem_of_getElem? (i := 115) (by decide +kernel)) rfl
theorem kw_596 : Cond.fieldLink R_Md 23 R_Md "column" "[J" ∈ WA := wt_3 (List.mem_of_getElem? (i := 116) (by decide +kernel)) rfl
theorem kw_597 : Cond.fieldLink R_Md 113 R_Md "given" "I" ∈ WA := wt_3 (List.mem_of_getElem? (i := 117) (by decide +kernel)) rfl
theorem kw_598 : Cond.fieldLink R_Md 26 R_Md "in" "[I" ∈ WA := wt_3 (List.mem_of_getElem? (i := 118) (by decide +kernel)) rfl
theorem kw_599 : Cond.fieldLink R_Md 29 R_Md "out" "[I" ∈ WA := wt_3 (List.mem_of_getElem? (i := 119) (by decide +kernel)) rfl
theorem kw_600 : Cond.fieldLink R_Md 200 R_Md "there" "Z" ∈ WA := wt_3 (List.mem_of_getElem? (i := 120) (by decide +kernel)) rfl
theorem kw_601 : Cond.fieldLink R_Md 32 R_Md "rho" "[I" ∈ WA := wt_3 (List.mem_of_getElem? (i := 121) (by decide +kernel)) rfl
theorem kw_602 : Cond.fieldLink R_Md 35 R_Md "sigma" "[I" ∈ WA := wt_3 (List.mem_of_getElem? (i := 122) (by decide +kernel)) rfl
theorem kw_603 : Cond.fieldLink R_Md 38 R_Md "kappa" "[I" ∈ WA := wt_3 (List.mem_of_getElem? (i := 123) (by decide +kernel)) rfl
theorem kw_604 : Cond.fieldLink R_Md 41 R_Md "trace" "[I" ∈ WA := wt_3 (List.mem_of_getElem? (i := 124) (by decide +kernel)) rfl
theorem kw_605 : Cond.fieldLink R_Md 44 R_Md "matrix" "[I" ∈ WA := wt_3 (List.mem_of_getElem? (i := 125) (by decide +kernel)) rfl
theorem kw_606 : Cond.fieldLink R_Md 47 R_Md "other" "[I" ∈ WA := wt_3 (List.mem_of_getElem? (i := 126) (by decide +kernel)) rfl
theorem kw_607 : Cond.fieldLink R_Md 50 R_Md "s" "[I" ∈ WA := wt_3 (List.mem_of_getElem? (i := 127) (by decide +kernel)) rfl
theorem kw_608 : Cond.fieldLink R_Md 53 R_Md "e" "[I" ∈ WA := wt_3 (List.mem_of_getElem? (i := 128) (by decide +kernel)) rfl
theorem kw_609 : Cond.fieldLink R_Md 56 R_Md "lower" "[I" ∈ WA := wt_3 (List.mem_of_getElem? (i := 129) (by decide +kernel)) rfl
theorem kw_610 : Cond.fieldLink R_Md 59 R_Md "upper" "[I" ∈ WA := wt_3 (List.mem_of_getElem? (i := 130) (by decide +kernel)) rfl
theorem kw_611 : Cond.fieldLink R_Md 204 R_Md "size" "I" ∈ WA := wt_3 (List.mem_of_getElem? (i := 131) (by decide +kernel)) rfl
theorem kw_612 : Cond.fieldLink R_Md 62 R_Md "message" "[I" ∈ WA := wt_3 (List.mem_of_getElem? (i := 132) (by decide +kernel)) rfl
theorem kw_613 : Cond.fieldLink R_Md 65 R_Md "open" "[I" ∈ WA := wt_3 (List.mem_of_getElem? (i := 133) (by decide +kernel)) rfl
theorem kw_614 : Cond.fieldLink R_Md 68 R_Md "signed" "[I" ∈ WA := wt_3 (List.mem_of_getElem? (i := 134) (by decide +kernel)) rfl
theorem kw_615 : Cond.fieldLink R_Md 71 R_Md "mu" "[I" ∈ WA := wt_3 (List.mem_of_getElem? (i := 135) (by decide +kernel)) rfl
theorem kw_616 : Cond.fieldLink R_Md 74 R_Md "nu" "[I" ∈ WA := wt_3 (List.mem_of_getElem? (i := 136) (by decide +kernel)) rfl
theorem kw_617 : Cond.fieldLink R_Md 77 R_Md "seal" "[I" ∈ WA := wt_3 (List.mem_of_getElem? (i := 137) (by decide +kernel)) rfl
theorem kw_618 : Cond.fieldLink R_Md 80 R_Md "y" "[I" ∈ WA := wt_3 (List.mem_of_getElem? (i := 138) (by decide +kernel)) rfl
theorem kw_619 : Cond.fieldLink R_Md 83 R_Md "w" "[I" ∈ WA := wt_3 (List.mem_of_getElem? (i := 139) (by decide +kernel)) rfl
theorem kw_620 : Cond.fieldLink R_Md 86 R_Md "z" "[I" ∈ WA := wt_3 (List.mem_of_getElem? (i := 140) (by decide +kernel)) rfl
theorem kw_621 : Cond.fieldLink R_Md 89 R_Md "u" "[I" ∈ WA := wt_3 (List.mem_of_getElem? (i := 141) (by decide +kernel)) rfl
theorem kw_622 : Cond.fieldLink R_Md 92 R_Md "v" "[I" ∈ WA := wt_3 (List.mem_of_getElem? (i := 142) (by decide +kernel)) rfl
theorem kw_623 : Cond.fieldLink R_Md 95 R_Md "c" "[I" ∈ WA := wt_3 (List.mem_of_getElem? (i := 143) (by decide +kernel)) rfl
theorem kw_624 : Cond.fieldLink R_Md 98 R_Md "hints" "[I" ∈ WA := wt_3 (List.mem_of_getElem? (i := 144) (by decide +kernel)) rfl
theorem kw_625 : Cond.fieldLink R_Md 101 R_Md "packed" "[I" ∈ WA := wt_3 (List.mem_of_getElem? (i := 145) (by decide +kernel)) rfl
theorem kw_626 : Cond.fieldLink R_Md 104 R_Md "sum" "[J" ∈ WA := wt_3 (List.mem_of_getElem? (i := 146) (by decide +kernel)) rfl
theorem kw_698 : Cond.methodLink R_law 19 y_Md_key ∈ WA := wt_3 (List.mem_of_getElem? (i := 218) (by decide +kernel)) rfl
theorem kw_699 : Cond.instanceMethod y_Md_key ∈ WA := wt_3 (List.mem_of_getElem? (i := 219) (by decide +kernel)) rfl
theorem kw_700 : Cond.selects R_Md y_Md_key y_Md_key ∈ WA := wt_3 (List.mem_of_getElem? (i := 220) (by decide +kernel)) rfl
theorem kw_701 : Cond.code y_Md_key b_Md_key 5 none ∈ WA := wt_3 (List.mem_of_getElem? (i := 221) (by decide +kernel)) rfl
theorem kw_702 : Cond.methodLink R_Md 175 y_Md_feedLong ∈ WA := wt_3 (List.mem_of_getElem? (i := 222) (by decide +kernel)) rfl
theorem kw_704 : Cond.instanceMethod y_Md_feedLong ∈ WA := wt_3 (List.mem_of_getElem? (i := 224) (by decide +kernel)) rfl
theorem kw_705 : Cond.code y_Md_feedLong b_Md_feedLong 4 none ∈ WA := wt_3 (List.mem_of_getElem? (i := 225) (by decide +kernel)) rfl
theorem kw_706 : Cond.constantLong R_Md 125 (255) ∈ WA := wt_3 (List.mem_of_getElem? (i := 226) (by decide +kernel)) rfl
