theorem mt_339 : (.code ⟨"LayerQuantities", "opening", "(III)I"⟩ prog_1_method_3_code 5 (some (.int)) : Cond) ∈ TW := tw_t (List.mem_of_getElem? (i := 339) (by decide +kernel)) rfl
theorem mt_340 : (.stringRef "LayerQuantities" 57 "the wall's area would come below 0" : Cond) ∈ TW := tw_t (List.mem_of_getElem? (i := 340) (by decide +kernel)) rfl
theorem mt_341 : (.methodLink "LayerQuantitiesLaw" 78 ⟨"LayerQuantitiesLaw", "layer", "(LLayerQuantities;III[J)I"⟩ : Cond) ∈ TW := tw_t (List.mem_of_getElem? (i := 341) (by decide +kernel)) rfl
theorem mt_342 : (.static ⟨"LayerQuantitiesLaw", "layer", "(LLayerQuantities;III[J)I"⟩ : Cond) ∈ TW := tw_t (List.mem_of_getElem? (i := 342) (by decide +kernel)) rfl
theorem mt_343 : (.codeWith ⟨"LayerQuantitiesLaw", "layer", "(LLayerQuantities;III[J)I"⟩ method_5_code 6 (some (.int)) [(0, 12, 15, 13), (0, 12, 19, 15)] : Cond) ∈ TW := tw_t (List.mem_of_getElem? (i := 343) (by decide +kernel)) rfl
theorem mt_344 : (.methodLink "LayerQuantitiesLaw" 21 ⟨"LayerQuantities", "layer", "(III)I"⟩ : Cond) ∈ TW := tw_t (List.mem_of_getElem? (i := 344) (by decide +kernel)) rfl
theorem mt_345 : (.instanceMethod ⟨"LayerQuantities", "layer", "(III)I"⟩ : Cond) ∈ TW := tw_t (List.mem_of_getElem? (i := 345) (by decide +kernel)) rfl
theorem mt_346 : (.selects "LayerQuantities" ⟨"LayerQuantities", "layer", "(III)I"⟩ ⟨"LayerQuantities", "layer", "(III)I"⟩ : Cond) ∈ TW := tw_t (List.mem_of_getElem? (i := 346) (by decide +kernel)) rfl
theorem mt_347 : (.code ⟨"LayerQuantities", "layer", "(III)I"⟩ prog_1_method_4_code 5 (some (.int)) : Cond) ∈ TW := tw_t (List.mem_of_getElem? (i := 347) (by decide +kernel)) rfl
theorem mt_348 : (.methodLink "LayerQuantitiesLaw" 81 ⟨"LayerQuantitiesLaw", "waste", "(LLayerQuantities;II[J)I"⟩ : Cond) ∈ TW := tw_t (List.mem_of_getElem? (i := 348) (by decide +kernel)) rfl
theorem mt_349 : (.static ⟨"LayerQuantitiesLaw", "waste", "(LLayerQuantities;II[J)I"⟩ : Cond) ∈ TW := tw_t (List.mem_of_getElem? (i := 349) (by decide +kernel)) rfl
theorem mt_350 : (.codeWith ⟨"LayerQuantitiesLaw", "waste", "(LLayerQuantities;II[J)I"⟩ method_6_code 5 (some (.int)) [(0, 10, 13, 13)] : Cond) ∈ TW := tw_t (List.mem_of_getElem? (i := 350) (by decide +kernel)) rfl
theorem mt_351 : (.methodLink "LayerQuantitiesLaw" 24 ⟨"LayerQuantities", "waste", "(II)I"⟩ : Cond) ∈ TW := tw_t (List.mem_of_getElem? (i := 351) (by decide +kernel)) rfl
theorem mt_352 : (.instanceMethod ⟨"LayerQuantities", "waste", "(II)I"⟩ : Cond) ∈ TW := tw_t (List.mem_of_getElem? (i := 352) (by decide +kernel)) rfl
theorem mt_353 : (.selects "LayerQuantities" ⟨"LayerQuantities", "waste", "(II)I"⟩ ⟨"LayerQuantities", "waste", "(II)I"⟩ : Cond) ∈ TW := tw_t (List.mem_of_getElem? (i := 353) (by decide +kernel)) rfl
theorem mt_354 : (.code ⟨"LayerQuantities", "waste", "(II)I"⟩ prog_1_method_5_code 4 (some (.int)) : Cond) ∈ TW := tw_t (List.mem_of_getElem? (i := 354) (by decide +kernel)) rfl
theorem mt_355 : (.methodLink "LayerQuantitiesLaw" 84 ⟨"LayerQuantitiesLaw", "told", "(LLayerQuantities;II[J)I"⟩ : Cond) ∈ TW := tw_t (List.mem_of_getElem? (i := 355) (by decide +kernel)) rfl
theorem mt_356 : (.static ⟨"LayerQuantitiesLaw", "told", "(LLayerQuantities;II[J)I"⟩ : Cond) ∈ TW := tw_t (List.mem_of_getElem? (i := 356) (by decide +kernel)) rfl
theorem mt_357 : (.codeWith ⟨"LayerQuantitiesLaw", "told", "(LLayerQuantities;II[J)I"⟩ method_7_code 5 (some (.int)) [(0, 10, 13, 13)] : Cond) ∈ TW := tw_t (List.mem_of_getElem? (i := 357) (by decide +kernel)) rfl
theorem mt_358 : (.methodLink "LayerQuantitiesLaw" 27 ⟨"LayerQuantities", "told", "(II)I"⟩ : Cond) ∈ TW := tw_t (List.mem_of_getElem? (i := 358) (by decide +kernel)) rfl
theorem mt_359 : (.instanceMethod ⟨"LayerQuantities", "told", "(II)I"⟩ : Cond) ∈ TW := tw_t (List.mem_of_getElem? (i := 359) (by decide +kernel)) rfl
theorem mt_360 : (.selects "LayerQuantities" ⟨"LayerQuantities", "told", "(II)I"⟩ ⟨"LayerQuantities", "told", "(II)I"⟩ : Cond) ∈ TW := tw_t (List.mem_of_getElem? (i := 360) (by decide +kernel)) rfl
theorem mt_361 : (.code ⟨"LayerQuantities", "told", "(II)I"⟩ prog_1_method_6_code 4 (some (.int)) : Cond) ∈ TW := tw_t (List.mem_of_getElem? (i := 361) (by decide +kernel)) rfl
theorem mt_362 : (.methodLinkNest "LayerQuantities" 68 ⟨"LayerQuantities$Wall", "wholeThickness", "()I"⟩ "LayerQuantities" : Cond) ∈ TW := tw_t (List.mem_of_getElem? (i := 362) (by decide +kernel)) rfl
theorem mt_363 : (.privateMethod ⟨"LayerQuantities$Wall", "wholeThickness", "()I"⟩ : Cond) ∈ TW := tw_t (List.mem_of_getElem? (i := 363) (by decide +kernel)) rfl
theorem mt_364 : (.instanceMethod ⟨"LayerQuantities$Wall", "wholeThickness", "()I"⟩ : Cond) ∈ TW := tw_t (List.mem_of_getElem? (i := 364) (by decide +kernel)) rfl
theorem mt_365 : (.code ⟨"LayerQuantities$Wall", "wholeThickness", "()I"⟩ prog_4_method_2_code 3 (some (.int)) : Cond) ∈ TW := tw_t (List.mem_of_getElem? (i := 365) (by decide +kernel)) rfl
theorem mt_366 : (.methodLink "LayerQuantitiesLaw" 87 ⟨"LayerQuantitiesLaw", "need", "(LLayerQuantities;I[J)I"⟩ : Cond) ∈ TW := tw_t (List.mem_of_getElem? (i := 366) (by decide +kernel)) rfl
theorem mt_367 : (.static ⟨"LayerQuantitiesLaw", "need", "(LLayerQuantities;I[J)I"⟩ : Cond) ∈ TW := tw_t (List.mem_of_getElem? (i := 367) (by decide +kernel)) rfl
theorem mt_368 : (.codeWith ⟨"LayerQuantitiesLaw", "need", "(LLayerQuantities;I[J)I"⟩ method_8_code 4 (some (.int)) [(0, 8, 11, 13)] : Cond) ∈ TW := tw_t (List.mem_of_getElem? (i := 368) (by decide +kernel)) rfl
theorem mt_369 : (.methodLink "LayerQuantitiesLaw" 30 ⟨"LayerQuantities", "need", "(I)J"⟩ : Cond) ∈ TW := tw_t (List.mem_of_getElem? (i := 369) (by decide +kernel)) rfl
theorem mt_370 : (.methodLink "LayerQuantitiesLaw" 91 ⟨"LayerQuantitiesLaw", "pack", "(LLayerQuantities;III[J)I"⟩ : Cond) ∈ TW := tw_t (List.mem_of_getElem? (i := 370) (by decide +kernel)) rfl
theorem mt_371 : (.static ⟨"LayerQuantitiesLaw", "pack", "(LLayerQuantities;III[J)I"⟩ : Cond) ∈ TW := tw_t (List.mem_of_getElem? (i := 371) (by decide +kernel)) rfl
theorem mt_372 : (.codeWith ⟨"LayerQuantitiesLaw", "pack", "(LLayerQuantities;III[J)I"⟩ method_9_code 6 (some (.int)) [(0, 12, 15, 13), (0, 12, 19, 15)] : Cond) ∈ TW := tw_t (List.mem_of_getElem? (i := 372) (by decide +kernel)) rfl
theorem mt_373 : (.methodLink "LayerQuantitiesLaw" 34 ⟨"LayerQuantities", "pack", "(III)I"⟩ : Cond) ∈ TW := tw_t (List.mem_of_getElem? (i := 373) (by decide +kernel)) rfl
theorem mt_374 : (.instanceMethod ⟨"LayerQuantities", "pack", "(III)I"⟩ : Cond) ∈ TW := tw_t (List.mem_of_getElem? (i := 374) (by decide +kernel)) rfl
theorem mt_375 : (.selects "LayerQuantities" ⟨"LayerQuantities", "pack", "(III)I"⟩ ⟨"LayerQuantities", "pack", "(III)I"⟩ : Cond) ∈ TW := tw_t (List.mem_of_getElem? (i := 375) (by decide +kernel)) rfl
theorem mt_376 : (.code ⟨"LayerQuantities", "pack", "(III)I"⟩ prog_1_method_8_code 4 (some (.int)) : Cond) ∈ TW := tw_t (List.mem_of_getElem? (i := 376) (by decide +kernel)) rfl
theorem mt_377 : (.constant "LayerQuantities" 76 (1000000000) : Cond) ∈ TW := tw_t (List.mem_of_getElem? (i := 377) (by decide +kernel)) rfl
theorem mt_378 : (.constant "LayerQuantities" 77 (100000) : Cond) ∈ TW := tw_t (List.mem_of_getElem? (i := 378) (by decide +kernel)) rfl
theorem mt_379 : (.methodLinkNest "LayerQuantities" 81 ⟨"LayerQuantities$Shelf", "stock", "(II)I"⟩ "LayerQuantities" : Cond) ∈ TW := tw_t (List.mem_of_getElem? (i := 379) (by decide +kernel)) rfl
theorem mt_380 : (.privateMethod ⟨"LayerQuantities$Shelf", "stock", "(II)I"⟩ : Cond) ∈ TW := tw_t (List.mem_of_getElem? (i := 380) (by decide +kernel)) rfl
theorem mt_381 : (.instanceMethod ⟨"LayerQuantities$Shelf", "stock", "(II)I"⟩ : Cond) ∈ TW := tw_t (List.mem_of_getElem? (i := 381) (by decide +kernel)) rfl
theorem mt_382 : (.code ⟨"LayerQuantities$Shelf", "stock", "(II)I"⟩ prog_3_method_2_code 3 (some (.int)) : Cond) ∈ TW := tw_t (List.mem_of_getElem? (i := 382) (by decide +kernel)) rfl
theorem mt_383 : (.methodLink "LayerQuantities$Shelf" 40 ⟨"LayerQuantities$Shelf", "rankFromBehind", "()V"⟩ : Cond) ∈ TW := tw_t (List.mem_of_getElem? (i := 383) (by decide +kernel)) rfl
theorem mt_384 : (.privateMethod ⟨"LayerQuantities$Shelf", "rankFromBehind", "()V"⟩ : Cond) ∈ TW := tw_t (List.mem_of_getElem? (i := 384) (by decide +kernel)) rfl
theorem mt_385 : (.instanceMethod ⟨"LayerQuantities$Shelf", "rankFromBehind", "()V"⟩ : Cond) ∈ TW := tw_t (List.mem_of_getElem? (i := 385) (by decide +kernel)) rfl
theorem mt_386 : (.code ⟨"LayerQuantities$Shelf", "rankFromBehind", "()V"⟩ prog_3_method_3_code 4 none : Cond) ∈ TW := tw_t (List.mem_of_getElem? (i := 386) (by decide +kernel)) rfl
theorem mt_387 : (.methodLink "LayerQuantitiesLaw" 94 ⟨"LayerQuantitiesLaw", "bought", "(LLayerQuantities;II[J)I"⟩ : Cond) ∈ TW := tw_t (List.mem_of_getElem? (i := 387) (by decide +kernel)) rfl
theorem mt_388 : (.static ⟨"LayerQuantitiesLaw", "bought", "(LLayerQuantities;II[J)I"⟩ : Cond) ∈ TW := tw_t (List.mem_of_getElem? (i := 388) (by decide +kernel)) rfl
theorem mt_389 : (.codeWith ⟨"LayerQuantitiesLaw", "bought", "(LLayerQuantities;II[J)I"⟩ method_10_code 5 (some (.int)) [(0, 10, 13, 13)] : Cond) ∈ TW := tw_t (List.mem_of_getElem? (i := 389) (by decide +kernel)) rfl
theorem mt_390 : (.methodLink "LayerQuantitiesLaw" 37 ⟨"LayerQuantities", "bought", "(II)I"⟩ : Cond) ∈ TW := tw_t (List.mem_of_getElem? (i := 390) (by decide +kernel)) rfl
theorem mt_391 : (.instanceMethod ⟨"LayerQuantities", "bought", "(II)I"⟩ : Cond) ∈ TW := tw_t (List.mem_of_getElem? (i := 391) (by decide +kernel)) rfl
theorem mt_392 : (.selects "LayerQuantities" ⟨"LayerQuantities", "bought", "(II)I"⟩ ⟨"LayerQuantities", "bought", "(II)I"⟩ : Cond) ∈ TW := tw_t (List.mem_of_getElem? (i := 392) (by decide +kernel)) rfl
theorem mt_393 : (.code ⟨"LayerQuantities", "bought", "(II)I"⟩ prog_1_method_9_code 3 (some (.int)) : Cond) ∈ TW := tw_t (List.mem_of_getElem? (i := 393) (by decide +kernel)) rfl
theorem mt_394 : (.methodLinkNest "LayerQuantities" 89 ⟨"LayerQuantities$Shelf", "countFor", "(JI)I"⟩ "LayerQuantities" : Cond) ∈ TW := tw_t (List.mem_of_getElem? (i := 394) (by decide +kernel)) rfl
theorem mt_395 : (.privateMethod ⟨"LayerQuantities$Shelf", "countFor", "(JI)I"⟩ : Cond) ∈ TW := tw_t (List.mem_of_getElem? (i := 395) (by decide +kernel)) rfl
theorem mt_396 : (.instanceMethod ⟨"LayerQuantities$Shelf", "countFor", "(JI)I"⟩ : Cond) ∈ TW := tw_t (List.mem_of_getElem? (i := 396) (by decide +kernel)) rfl
theorem mt_397 : (.code ⟨"LayerQuantities$Shelf", "countFor", "(JI)I"⟩ prog_3_method_4_code 4 (some (.int)) : Cond) ∈ TW := tw_t (List.mem_of_getElem? (i := 397) (by decide +kernel)) rfl
theorem mt_398 : (.methodLink "LayerQuantitiesLaw" 97 ⟨"LayerQuantitiesLaw", "cents", "(LLayerQuantities;I[J)I"⟩ : Cond) ∈ TW := tw_t (List.mem_of_getElem? (i := 398) (by decide +kernel)) rfl
theorem mt_399 : (.static ⟨"LayerQuantitiesLaw", "cents", "(LLayerQuantities;I[J)I"⟩ : Cond) ∈ TW := tw_t (List.mem_of_getElem? (i := 399) (by decide +kernel)) rfl
theorem mt_400 : (.codeWith ⟨"LayerQuantitiesLaw", "cents", "(LLayerQuantities;I[J)I"⟩ method_11_code 4 (some (.int)) [(0, 8, 11, 13)] : Cond) ∈ TW := tw_t (List.mem_of_getElem? (i := 400) (by decide +kernel)) rfl
theorem mt_401 : (.methodLink "LayerQuantitiesLaw" 40 ⟨"LayerQuantities", "cents", "(I)J"⟩ : Cond) ∈ TW := tw_t (List.mem_of_getElem? (i := 401) (by decide +kernel)) rfl
theorem mt_402 : (.methodLink "LayerQuantitiesLaw" 104 ⟨"LayerQuantitiesLaw", "bars", "(LLayerQuantities;II)I"⟩ : Cond) ∈ TW := tw_t (List.mem_of_getElem? (i := 402) (by decide +kernel)) rfl
theorem mt_403 : (.static ⟨"LayerQuantitiesLaw", "bars", "(LLayerQuantities;II)I"⟩ : Cond) ∈ TW := tw_t (List.mem_of_getElem? (i := 403) (by decide +kernel)) rfl
theorem mt_404 : (.codeWith ⟨"LayerQuantitiesLaw", "bars", "(LLayerQuantities;II)I"⟩ method_12_code 4 (some (.int)) [(0, 6, 9, 13), (0, 6, 12, 15)] : Cond) ∈ TW := tw_t (List.mem_of_getElem? (i := 404) (by decide +kernel)) rfl
theorem mt_405 : (.methodLink "LayerQuantitiesLaw" 43 ⟨"LayerQuantities", "bars", "(II)V"⟩ : Cond) ∈ TW := tw_t (List.mem_of_getElem? (i := 405) (by decide +kernel)) rfl
theorem mt_406 : (.instanceMethod ⟨"LayerQuantities", "bars", "(II)V"⟩ : Cond) ∈ TW := tw_t (List.mem_of_getElem? (i := 406) (by decide +kernel)) rfl
theorem mt_407 : (.selects "LayerQuantities" ⟨"LayerQuantities", "bars", "(II)V"⟩ ⟨"LayerQuantities", "bars", "(II)V"⟩ : Cond) ∈ TW := tw_t (List.mem_of_getElem? (i := 407) (by decide +kernel)) rfl
theorem mt_408 : (.code ⟨"LayerQuantities", "bars", "(II)V"⟩ prog_1_method_12_code 3 none : Cond) ∈ TW := tw_t (List.mem_of_getElem? (i := 408) (by decide +kernel)) rfl
theorem mt_409 : (.methodLinkNest "LayerQuantities" 102 ⟨"LayerQuantities$Saw", "longestPiece", "()I"⟩ "LayerQuantities" : Cond) ∈ TW := tw_t (List.mem_of_getElem? (i := 409) (by decide +kernel)) rfl
theorem mt_410 : (.privateMethod ⟨"LayerQuantities$Saw", "longestPiece", "()I"⟩ : Cond) ∈ TW := tw_t (List.mem_of_getElem? (i := 410) (by decide +kernel)) rfl
theorem mt_411 : (.instanceMethod ⟨"LayerQuantities$Saw", "longestPiece", "()I"⟩ : Cond) ∈ TW := tw_t (List.mem_of_getElem? (i := 411) (by decide +kernel)) rfl
theorem mt_412 : (.code ⟨"LayerQuantities$Saw", "longestPiece", "()I"⟩ prog_2_method_2_code 3 (some (.int)) : Cond) ∈ TW := tw_t (List.mem_of_getElem? (i := 412) (by decide +kernel)) rfl
theorem mt_413 : (.methodLink "LayerQuantities$Saw" 34 ⟨"java/lang/Math", "max", "(II)I"⟩ : Cond) ∈ TW := tw_t (List.mem_of_getElem? (i := 413) (by decide +kernel)) rfl
theorem mt_414 : (.static ⟨"java/lang/Math", "max", "(II)I"⟩ : Cond) ∈ TW := tw_t (List.mem_of_getElem? (i := 414) (by decide +kernel)) rfl
theorem mt_415 : (.code ⟨"java/lang/Math", "max", "(II)I"⟩ prog_10_method_65_code 2 (some (.int)) : Cond) ∈ TW := tw_t (List.mem_of_getElem? (i := 415) (by decide +kernel)) rfl
theorem mt_416 : (.stringRef "LayerQuantities" 105 "a piece is longer" : Cond) ∈ TW := tw_t (List.mem_of_getElem? (i := 416) (by decide +kernel)) rfl
theorem mt_417 : (.methodLinkNest "LayerQuantities" 107 ⟨"LayerQuantities$Saw", "takeBars", "(II)V"⟩ "LayerQuantities" : Cond) ∈ TW := tw_t (List.mem_of_getElem? (i := 417) (by decide +kernel)) rfl
theorem mt_418 : (.privateMethod ⟨"LayerQuantities$Saw", "takeBars", "(II)V"⟩ : Cond) ∈ TW := tw_t (List.mem_of_getElem? (i := 418) (by decide +kernel)) rfl
theorem mt_419 : (.instanceMethod ⟨"LayerQuantities$Saw", "takeBars", "(II)V"⟩ : Cond) ∈ TW := tw_t (List.mem_of_getElem? (i := 419) (by decide +kernel)) rfl
theorem mt_420 : (.code ⟨"LayerQuantities$Saw", "takeBars", "(II)V"⟩ prog_2_method_3_code 3 none : Cond) ∈ TW := tw_t (List.mem_of_getElem? (i := 420) (by decide +kernel)) rfl
theorem mt_421 : (.methodLink "LayerQuantitiesLaw" 108 ⟨"LayerQuantitiesLaw", "piece", "(LLayerQuantities;I[J)I"⟩ : Cond) ∈ TW := tw_t (List.mem_of_getElem? (i := 421) (by decide +kernel)) rfl
theorem mt_422 : (.static ⟨"LayerQuantitiesLaw", "piece", "(LLayerQuantities;I[J)I"⟩ : Cond) ∈ TW := tw_t (List.mem_of_getElem? (i := 422) (by decide +kernel)) rfl
theorem mt_423 : (.codeWith ⟨"LayerQuantitiesLaw", "piece", "(LLayerQuantities;I[J)I"⟩ method_13_code 4 (some (.int)) [(0, 9, 12, 13), (0, 9, 15, 15)] : Cond) ∈ TW := tw_t (List.mem_of_getElem? (i := 423) (by decide +kernel)) rfl
theorem mt_424 : (.methodLink "LayerQuantitiesLaw" 47 ⟨"LayerQuantities", "piece", "(I)I"⟩ : Cond) ∈ TW := tw_t (List.mem_of_getElem? (i := 424) (by decide +kernel)) rfl
theorem mt_425 : (.instanceMethod ⟨"LayerQuantities", "piece", "(I)I"⟩ : Cond) ∈ TW := tw_t (List.mem_of_getElem? (i := 425) (by decide +kernel)) rfl
theorem mt_426 : (.selects "LayerQuantities" ⟨"LayerQuantities", "piece", "(I)I"⟩ ⟨"LayerQuantities", "piece", "(I)I"⟩ : Cond) ∈ TW := tw_t (List.mem_of_getElem? (i := 426) (by decide +kernel)) rfl
theorem mt_427 : (.code ⟨"LayerQuantities", "piece", "(I)I"⟩ prog_1_method_13_code 2 (some (.int)) : Cond) ∈ TW := tw_t (List.mem_of_getElem? (i := 427) (by decide +kernel)) rfl
theorem mt_428 : (.methodLinkNest "LayerQuantities" 116 ⟨"LayerQuantities$Saw", "addPiece", "(I)I"⟩ "LayerQuantities" : Cond) ∈ TW := tw_t (List.mem_of_getElem? (i := 428) (by decide +kernel)) rfl
theorem mt_429 : (.privateMethod ⟨"LayerQuantities$Saw", "addPiece", "(I)I"⟩ : Cond) ∈ TW := tw_t (List.mem_of_getElem? (i := 429) (by decide +kernel)) rfl
theorem mt_430 : (.instanceMethod ⟨"LayerQuantities$Saw", "addPiece", "(I)I"⟩ : Cond) ∈ TW := tw_t (List.mem_of_getElem? (i := 430) (by decide +kernel)) rfl
theorem mt_431 : (.code ⟨"LayerQuantities$Saw", "addPiece", "(I)I"⟩ prog_2_method_4_code 2 (some (.int)) : Cond) ∈ TW := tw_t (List.mem_of_getElem? (i := 431) (by decide +kernel)) rfl
theorem mt_432 : (.methodLink "LayerQuantitiesLaw" 111 ⟨"LayerQuantitiesLaw", "change", "(LLayerQuantities;II[J)I"⟩ : Cond) ∈ TW := tw_t (List.mem_of_getElem? (i := 432) (by decide +kernel)) rfl
theorem mt_433 : (.static ⟨"LayerQuantitiesLaw", "change", "(LLayerQuantities;II[J)I"⟩ : Cond) ∈ TW := tw_t (List.mem_of_getElem? (i := 433) (by decide +kernel)) rfl
theorem mt_434 : (.codeWith ⟨"LayerQuantitiesLaw", "change", "(LLayerQuantities;II[J)I"⟩ method_14_code 5 (some (.int)) [(0, 10, 13, 13)] : Cond) ∈ TW := tw_t (List.mem_of_getElem? (i := 434) (by decide +kernel)) rfl
theorem mt_435 : (.methodLink "LayerQuantitiesLaw" 51 ⟨"LayerQuantities", "change", "(II)I"⟩ : Cond) ∈ TW := tw_t (List.mem_of_getElem? (i := 435) (by decide +kernel)) rfl
theorem mt_436 : (.instanceMethod ⟨"LayerQuantities", "change", "(II)I"⟩ : Cond) ∈ TW := tw_t (List.mem_of_getElem? (i := 436) (by decide +kernel)) rfl
theorem mt_437 : (.selects "LayerQuantities" ⟨"LayerQuantities", "change", "(II)I"⟩ ⟨"LayerQuantities", "change", "(II)I"⟩ : Cond) ∈ TW := tw_t (List.mem_of_getElem? (i := 437) (by decide +kernel)) rfl
theorem mt_438 : (.code ⟨"LayerQuantities", "change", "(II)I"⟩ prog_1_method_14_code 3 (some (.int)) : Cond) ∈ TW := tw_t (List.mem_of_getElem? (i := 438) (by decide +kernel)) rfl
theorem mt_439 : (.methodLinkNest "LayerQuantities" 120 ⟨"LayerQuantities$Saw", "resizePiece", "(II)I"⟩ "LayerQuantities" : Cond) ∈ TW := tw_t (List.mem_of_getElem? (i := 439) (by decide +kernel)) rfl
theorem mt_440 : (.privateMethod ⟨"LayerQuantities$Saw", "resizePiece", "(II)I"⟩ : Cond) ∈ TW := tw_t (List.mem_of_getElem? (i := 440) (by decide +kernel)) rfl
theorem mt_441 : (.instanceMethod ⟨"LayerQuantities$Saw", "resizePiece", "(II)I"⟩ : Cond) ∈ TW := tw_t (List.mem_of_getElem? (i := 441) (by decide +kernel)) rfl
theorem mt_442 : (.code ⟨"LayerQuantities$Saw", "resizePiece", "(II)I"⟩ prog_2_method_5_code 4 (some (.int)) : Cond) ∈ TW := tw_t (List.mem_of_getElem? (i := 442) (by decide +kernel)) rfl
theorem mt_443 : (.methodLink "LayerQuantitiesLaw" 118 ⟨"LayerQuantitiesLaw", "bar", "(LLayerQuantities;I[J)I"⟩ : Cond) ∈ TW := tw_t (List.mem_of_getElem? (i := 443) (by decide +kernel)) rfl
theorem mt_444 : (.static ⟨"LayerQuantitiesLaw", "bar", "(LLayerQuantities;I[J)I"⟩ : Cond) ∈ TW := tw_t (List.mem_of_getElem? (i := 444) (by decide +kernel)) rfl
theorem mt_445 : (.codeWith ⟨"LayerQuantitiesLaw", "bar", "(LLayerQuantities;I[J)I"⟩ method_15_code 4 (some (.int)) [(0, 9, 12, 13)] : Cond) ∈ TW := tw_t (List.mem_of_getElem? (i := 445) (by decide +kernel)) rfl
theorem mt_446 : (.methodLink "LayerQuantitiesLaw" 54 ⟨"LayerQuantities", "bar", "(I)I"⟩ : Cond) ∈ TW := tw_t (List.mem_of_getElem? (i := 446) (by decide +kernel)) rfl
theorem mt_447 : (.instanceMethod ⟨"LayerQuantities", "bar", "(I)I"⟩ : Cond) ∈ TW := tw_t (List.mem_of_getElem? (i := 447) (by decide +kernel)) rfl
theorem mt_448 : (.selects "LayerQuantities" ⟨"LayerQuantities", "bar", "(I)I"⟩ ⟨"LayerQuantities", "bar", "(I)I"⟩ : Cond) ∈ TW := tw_t (List.mem_of_getElem? (i := 448) (by decide +kernel)) rfl
theorem mt_449 : (.code ⟨"LayerQuantities", "bar", "(I)I"⟩ prog_1_method_16_code 2 (some (.int)) : Cond) ∈ TW := tw_t (List.mem_of_getElem? (i := 449) (by decide +kernel)) rfl
theorem mt_450 : (.methodLink "LayerQuantitiesLaw" 121 ⟨"LayerQuantitiesLaw", "rest", "(LLayerQuantities;I[J)I"⟩ : Cond) ∈ TW := tw_t (List.mem_of_getElem? (i := 450) (by decide +kernel)) rfl
theorem mt_451 : (.static ⟨"LayerQuantitiesLaw", "rest", "(LLayerQuantities;I[J)I"⟩ : Cond) ∈ TW := tw_t (List.mem_of_getElem? (i := 451) (by decide +kernel)) rfl
theorem mt_452 : (.codeWith ⟨"LayerQuantitiesLaw", "rest", "(LLayerQuantities;I[J)I"⟩ method_16_code 4 (some (.int)) [(0, 9, 12, 13)] : Cond) ∈ TW := tw_t (List.mem_of_getElem? (i := 452) (by decide +kernel)) rfl
theorem mt_453 : (.methodLink "LayerQuantitiesLaw" 57 ⟨"LayerQuantities", "rest", "(I)I"⟩ : Cond) ∈ TW := tw_t (List.mem_of_getElem? (i := 453) (by decide +kernel)) rfl
theorem mt_454 : (.instanceMethod ⟨"LayerQuantities", "rest", "(I)I"⟩ : Cond) ∈ TW := tw_t (List.mem_of_getElem? (i := 454) (by decide +kernel)) rfl
theorem mt_455 : (.selects "LayerQuantities" ⟨"LayerQuantities", "rest", "(I)I"⟩ ⟨"LayerQuantities", "rest", "(I)I"⟩ : Cond) ∈ TW := tw_t (List.mem_of_getElem? (i := 455) (by decide +kernel)) rfl
theorem mt_456 : (.code ⟨"LayerQuantities", "rest", "(I)I"⟩ prog_1_method_17_code 2 (some (.int)) : Cond) ∈ TW := tw_t (List.mem_of_getElem? (i := 456) (by decide +kernel)) rfl
theorem mt_457 : (.classLink "LayerQuantitiesLaw" 61 "LayerQuantitiesModel" : Cond) ∈ TW := tw_t (List.mem_of_getElem? (i := 457) (by decide +kernel)) rfl
theorem mt_458 : (.instantiable "LayerQuantitiesModel" 21 : Cond) ∈ TW := tw_t (List.mem_of_getElem? (i := 458) (by decide +kernel)) rfl
theorem mt_459 : (.methodLink "LayerQuantitiesLaw" 63 ⟨"LayerQuantitiesModel", "<init>", "()V"⟩ : Cond) ∈ TW := tw_t (List.mem_of_getElem? (i := 459) (by decide +kernel)) rfl
theorem mt_460 : (.instanceMethod ⟨"LayerQuantitiesModel", "<init>", "()V"⟩ : Cond) ∈ TW := tw_t (List.mem_of_getElem? (i := 460) (by decide +kernel)) rfl
theorem mt_461 : (.code ⟨"LayerQuantitiesModel", "<init>", "()V"⟩ prog_6_method_1_code 1 none : Cond) ∈ TW := tw_t (List.mem_of_getElem? (i := 461) (by decide +kernel)) rfl
theorem mt_462 : (.methodLink "LayerQuantitiesModel" 1 ⟨"java/lang/Object", "<init>", "()V"⟩ : Cond) ∈ TW := tw_t (List.mem_of_getElem? (i := 462) (by decide +kernel)) rfl
theorem mt_463 : (.fieldLink "LayerQuantitiesModel" 57 "LayerQuantitiesModel" "code" "I" : Cond) ∈ TW := tw_t (List.mem_of_getElem? (i := 463) (by decide +kernel)) rfl
theorem mt_464 : (.fieldLink "LayerQuantitiesModel" 60 "LayerQuantitiesModel" "walls" "I" : Cond) ∈ TW := tw_t (List.mem_of_getElem? (i := 464) (by decide +kernel)) rfl
theorem mt_465 : (.fieldLink "LayerQuantitiesModel" 7 "LayerQuantitiesModel" "areas" "[I" : Cond) ∈ TW := tw_t (List.mem_of_getElem? (i := 465) (by decide +kernel)) rfl
theorem mt_466 : (.fieldLink "LayerQuantitiesModel" 13 "LayerQuantitiesModel" "openings" "[I" : Cond) ∈ TW := tw_t (List.mem_of_getElem? (i := 466) (by decide +kernel)) rfl
theorem mt_467 : (.fieldLink "LayerQuantitiesModel" 16 "LayerQuantitiesModel" "layers" "[I" : Cond) ∈ TW := tw_t (List.mem_of_getElem? (i := 467) (by decide +kernel)) rfl
theorem mt_468 : (.fieldLink "LayerQuantitiesModel" 19 "LayerQuantitiesModel" "stuffs" "[I" : Cond) ∈ TW := tw_t (List.mem_of_getElem? (i := 468) (by decide +kernel)) rfl
theorem mt_469 : (.fieldLink "LayerQuantitiesModel" 22 "LayerQuantitiesModel" "thicknesses" "[I" : Cond) ∈ TW := tw_t (List.mem_of_getElem? (i := 469) (by decide +kernel)) rfl
theorem mt_470 : (.fieldLink "LayerQuantitiesModel" 25 "LayerQuantitiesModel" "wastes" "[I" : Cond) ∈ TW := tw_t (List.mem_of_getElem? (i := 470) (by decide +kernel)) rfl
theorem mt_471 : (.fieldLink "LayerQuantitiesModel" 28 "LayerQuantitiesModel" "packs" "[I" : Cond) ∈ TW := tw_t (List.mem_of_getElem? (i := 471) (by decide +kernel)) rfl
theorem mt_472 : (.fieldLink "LayerQuantitiesModel" 31 "LayerQuantitiesModel" "muches" "[J" : Cond) ∈ TW := tw_t (List.mem_of_getElem? (i := 472) (by decide +kernel)) rfl
theorem mt_473 : (.fieldLink "LayerQuantitiesModel" 35 "LayerQuantitiesModel" "prices" "[J" : Cond) ∈ TW := tw_t (List.mem_of_getElem? (i := 473) (by decide +kernel)) rfl
theorem mt_474 : (.fieldLink "LayerQuantitiesModel" 94 "LayerQuantitiesModel" "cost" "J" : Cond) ∈ TW := tw_t (List.mem_of_getElem? (i := 474) (by decide +kernel)) rfl
theorem mt_475 : (.fieldLink "LayerQuantitiesModel" 38 "LayerQuantitiesModel" "counts" "[I" : Cond) ∈ TW := tw_t (List.mem_of_getElem? (i := 475) (by decide +kernel)) rfl
theorem mt_476 : (.fieldLink "LayerQuantitiesModel" 41 "LayerQuantitiesModel" "best" "[I" : Cond) ∈ TW := tw_t (List.mem_of_getElem? (i := 476) (by decide +kernel)) rfl
theorem mt_477 : (.fieldLink "LayerQuantitiesModel" 44 "LayerQuantitiesModel" "length" "I" : Cond) ∈ TW := tw_t (List.mem_of_getElem? (i := 477) (by decide +kernel)) rfl
theorem mt_478 : (.fieldLink "LayerQuantitiesModel" 123 "LayerQuantitiesModel" "cut" "I" : Cond) ∈ TW := tw_t (List.mem_of_getElem? (i := 478) (by decide +kernel)) rfl
theorem mt_479 : (.fieldLink "LayerQuantitiesModel" 118 "LayerQuantitiesModel" "pieces" "I" : Cond) ∈ TW := tw_t (List.mem_of_getElem? (i := 479) (by decide +kernel)) rfl
theorem mt_480 : (.fieldLink "LayerQuantitiesModel" 48 "LayerQuantitiesModel" "lengths" "[I" : Cond) ∈ TW := tw_t (List.mem_of_getElem? (i := 480) (by decide +kernel)) rfl
theorem mt_481 : (.fieldLink "LayerQuantitiesModel" 130 "LayerQuantitiesModel" "barCount" "I" : Cond) ∈ TW := tw_t (List.mem_of_getElem? (i := 481) (by decide +kernel)) rfl
theorem mt_482 : (.fieldLink "LayerQuantitiesModel" 51 "LayerQuantitiesModel" "bars" "[I" : Cond) ∈ TW := tw_t (List.mem_of_getElem? (i := 482) (by decide +kernel)) rfl
theorem mt_483 : (.fieldLink "LayerQuantitiesModel" 54 "LayerQuantitiesModel" "loads" "[I" : Cond) ∈ TW := tw_t (List.mem_of_getElem? (i := 483) (by decide +kernel)) rfl
theorem mt_484 : (.lays "LayerQuantitiesModel" "LayerQuantitiesModel" "code" "I" : Cond) ∈ TW := tw_t (List.mem_of_getElem? (i := 484) (by decide +kernel)) rfl
theorem mt_485 : (.soleField "LayerQuantitiesModel" "code" : Cond) ∈ TW := tw_t (List.mem_of_getElem? (i := 485) (by decide +kernel)) rfl
theorem mt_486 : (.lays "LayerQuantitiesModel" "LayerQuantitiesModel" "walls" "I" : Cond) ∈ TW := tw_t (List.mem_of_getElem? (i := 486) (by decide +kernel)) rfl
theorem mt_487 : (.soleField "LayerQuantitiesModel" "walls" : Cond) ∈ TW := tw_t (List.mem_of_getElem? (i := 487) (by decide +kernel)) rfl
theorem mt_488 : (.laysFinal "LayerQuantitiesModel" "LayerQuantitiesModel" "areas" "[I" : Cond) ∈ TW := tw_t (List.mem_of_getElem? (i := 488) (by decide +kernel)) rfl
theorem mt_489 : (.soleField "LayerQuantitiesModel" "areas" : Cond) ∈ TW := tw_t (List.mem_of_getElem? (i := 489) (by decide +kernel)) rfl
theorem mt_490 : (.laysFinal "LayerQuantitiesModel" "LayerQuantitiesModel" "openings" "[I" : Cond) ∈ TW := tw_t (List.mem_of_getElem? (i := 490) (by decide +kernel)) rfl
theorem mt_491 : (.soleField "LayerQuantitiesModel" "openings" : Cond) ∈ TW := tw_t (List.mem_of_getElem? (i := 491) (by decide +kernel)) rfl
theorem mt_492 : (.laysFinal "LayerQuantitiesModel" "LayerQuantitiesModel" "layers" "[I" : Cond) ∈ TW := tw_t (List.mem_of_getElem? (i := 492) (by decide +kernel)) rfl
theorem mt_493 : (.soleField "LayerQuantitiesModel" "layers" : Cond) ∈ TW := tw_t (List.mem_of_getElem? (i := 493) (by decide +kernel)) rfl
theorem mt_494 : (.laysFinal "LayerQuantitiesModel" "LayerQuantitiesModel" "stuffs" "[I" : Cond) ∈ TW := tw_t (List.mem_of_getElem? (i := 494) (by decide +kernel)) rfl
theorem mt_495 : (.soleField "LayerQuantitiesModel" "stuffs" : Cond) ∈ TW := tw_t (List.mem_of_getElem? (i := 495) (by decide +kernel)) rfl
theorem mt_496 : (.laysFinal "LayerQuantitiesModel" "LayerQuantitiesModel" "thicknesses" "[I" : Cond) ∈ TW := tw_t (List.mem_of_getElem? (i := 496) (by decide +kernel)) rfl
theorem mt_497 : (.soleField "LayerQuantitiesModel" "thicknesses" : Cond) ∈ TW := tw_t (List.mem_of_getElem? (i := 497) (by decide +kernel)) rfl
theorem mt_498 : (.laysFinal "LayerQuantitiesModel" "LayerQuantitiesModel" "wastes" "[I" : Cond) ∈ TW := tw_t (List.mem_of_getElem? (i := 498) (by decide +kernel)) rfl
theorem mt_499 : (.soleField "LayerQuantitiesModel" "wastes" : Cond) ∈ TW := tw_t (List.mem_of_getElem? (i := 499) (by decide +kernel)) rfl
theorem mt_500 : (.laysFinal "LayerQuantitiesModel" "LayerQuantitiesModel" "packs" "[I" : Cond) ∈ TW := tw_t (List.mem_of_getElem? (i := 500) (by decide +kernel)) rfl
theorem mt_501 : (.soleField "LayerQuantitiesModel" "packs" : Cond) ∈ TW := tw_t (List.mem_of_getElem? (i := 501) (by decide +kernel)) rfl
theorem mt_502 : (.laysFinal "LayerQuantitiesModel" "LayerQuantitiesModel" "muches" "[J" : Cond) ∈ TW := tw_t (List.mem_of_getElem? (i := 502) (by decide +kernel)) rfl
theorem mt_503 : (.soleField "LayerQuantitiesModel" "muches" : Cond) ∈ TW := tw_t (List.mem_of_getElem? (i := 503) (by decide +kernel)) rfl
theorem mt_504 : (.laysFinal "LayerQuantitiesModel" "LayerQuantitiesModel" "prices" "[J" : Cond) ∈ TW := tw_t (List.mem_of_getElem? (i := 504) (by decide +kernel)) rfl
theorem mt_505 : (.soleField "LayerQuantitiesModel" "prices" : Cond) ∈ TW := tw_t (List.mem_of_getElem? (i := 505) (by decide +kernel)) rfl
theorem mt_506 : (.lays "LayerQuantitiesModel" "LayerQuantitiesModel" "cost" "J" : Cond) ∈ TW := tw_t (List.mem_of_getElem? (i := 506) (by decide +kernel)) rfl
theorem mt_507 : (.soleField "LayerQuantitiesModel" "cost" : Cond) ∈ TW := tw_t (List.mem_of_getElem? (i := 507) (by decide +kernel)) rfl
theorem mt_508 : (.laysFinal "LayerQuantitiesModel" "LayerQuantitiesModel" "counts" "[I" : Cond) ∈ TW := tw_t (List.mem_of_getElem? (i := 508) (by decide +kernel)) rfl
theorem mt_509 : (.soleField "LayerQuantitiesModel" "counts" : Cond) ∈ TW := tw_t (List.mem_of_getElem? (i := 509) (by decide +kernel)) rfl
theorem mt_510 : (.laysFinal "LayerQuantitiesModel" "LayerQuantitiesModel" "best" "[I" : Cond) ∈ TW := tw_t (List.mem_of_getElem? (i := 510) (by decide +kernel)) rfl
theorem mt_511 : (.soleField "LayerQuantitiesModel" "best" : Cond) ∈ TW := tw_t (List.mem_of_getElem? (i := 511) (by decide +kernel)) rfl
theorem mt_512 : (.lays "LayerQuantitiesModel" "LayerQuantitiesModel" "length" "I" : Cond) ∈ TW := tw_t (List.mem_of_getElem? (i := 512) (by decide +kernel)) rfl
theorem mt_513 : (.soleField "LayerQuantitiesModel" "length" : Cond) ∈ TW := tw_t (List.mem_of_getElem? (i := 513) (by decide +kernel)) rfl
theorem mt_514 : (.lays "LayerQuantitiesModel" "LayerQuantitiesModel" "cut" "I" : Cond) ∈ TW := tw_t (List.mem_of_getElem? (i := 514) (by decide +kernel)) rfl
theorem mt_515 : (.soleField "LayerQuantitiesModel" "cut" : Cond) ∈ TW := tw_t (List.mem_of_getElem? (i := 515) (by decide +kernel)) rfl
theorem mt_516 : (.lays "LayerQuantitiesModel" "LayerQuantitiesModel" "pieces" "I" : Cond) ∈ TW := tw_t (List.mem_of_getElem? (i := 516) (by decide +kernel)) rfl
theorem mt_517 : (.soleField "LayerQuantitiesModel" "pieces" : Cond) ∈ TW := tw_t (List.mem_of_getElem? (i := 517) (by decide +kernel)) rfl
theorem mt_518 : (.laysFinal "LayerQuantitiesModel" "LayerQuantitiesModel" "lengths" "[I" : Cond) ∈ TW := tw_t (List.mem_of_getElem? (i := 518) (by decide +kernel)) rfl
theorem mt_519 : (.soleField "LayerQuantitiesModel" "lengths" : Cond) ∈ TW := tw_t (List.mem_of_getElem? (i := 519) (by decide +kernel)) rfl
theorem mt_520 : (.lays "LayerQuantitiesModel" "LayerQuantitiesModel" "barCount" "I" : Cond) ∈ TW := tw_t (List.mem_of_getElem? (i := 520) (by decide +kernel)) rfl
theorem mt_521 : (.soleField "LayerQuantitiesModel" "barCount" : Cond) ∈ TW := tw_t (List.mem_of_getElem? (i := 521) (by decide +kernel)) rfl
theorem mt_522 : (.laysFinal "LayerQuantitiesModel" "LayerQuantitiesModel" "bars" "[I" : Cond) ∈ TW := tw_t (List.mem_of_getElem? (i := 522) (by decide +kernel)) rfl
theorem mt_523 : (.soleField "LayerQuantitiesModel" "bars" : Cond) ∈ TW := tw_t (List.mem_of_getElem? (i := 523) (by decide +kernel)) rfl
theorem mt_524 : (.laysFinal "LayerQuantitiesModel" "LayerQuantitiesModel" "loads" "[I" : Cond) ∈ TW := tw_t (List.mem_of_getElem? (i := 524) (by decide +kernel)) rfl
theorem mt_525 : (.soleField "LayerQuantitiesModel" "loads" : Cond) ∈ TW := tw_t (List.mem_of_getElem? (i := 525) (by decide +kernel)) rfl
theorem mt_526 : (.superclass "LayerQuantitiesModel" "java/lang/Object" : Cond) ∈ TW := tw_t (List.mem_of_getElem? (i := 526) (by decide +kernel)) rfl
theorem mt_527 : (.arrayClass .long : Cond) ∈ TW := tw_t (List.mem_of_getElem? (i := 527) (by decide +kernel)) rfl
theorem mt_528 : (.methodLink "LayerQuantitiesLaw" 70 ⟨"LayerQuantitiesModel", "thrown", "()I"⟩ : Cond) ∈ TW := tw_t (List.mem_of_getElem? (i := 528) (by decide +kernel)) rfl
theorem mt_529 : (.instanceMethod ⟨"LayerQuantitiesModel", "thrown", "()I"⟩ : Cond) ∈ TW := tw_t (List.mem_of_getElem? (i := 529) (by decide +kernel)) rfl
theorem mt_530 : (.selects "LayerQuantitiesModel" ⟨"LayerQuantitiesModel", "thrown", "()I"⟩ ⟨"LayerQuantitiesModel", "thrown", "()I"⟩ : Cond) ∈ TW := tw_t (List.mem_of_getElem? (i := 530) (by decide +kernel)) rfl
theorem mt_531 : (.code ⟨"LayerQuantitiesModel", "thrown", "()I"⟩ prog_6_method_2_code 1 (some (.int)) : Cond) ∈ TW := tw_t (List.mem_of_getElem? (i := 531) (by decide +kernel)) rfl
theorem mt_532 : (.methodLink "LayerQuantitiesLaw" 69 ⟨"LayerQuantitiesModel", "wall", "(II)I"⟩ : Cond) ∈ TW := tw_t (List.mem_of_getElem? (i := 532) (by decide +kernel)) rfl
theorem mt_533 : (.instanceMethod ⟨"LayerQuantitiesModel", "wall", "(II)I"⟩ : Cond) ∈ TW := tw_t (List.mem_of_getElem? (i := 533) (by decide +kernel)) rfl
theorem mt_534 : (.selects "LayerQuantitiesModel" ⟨"LayerQuantitiesModel", "wall", "(II)I"⟩ ⟨"LayerQuantitiesModel", "wall", "(II)I"⟩ : Cond) ∈ TW := tw_t (List.mem_of_getElem? (i := 534) (by decide +kernel)) rfl
theorem mt_535 : (.code ⟨"LayerQuantitiesModel", "wall", "(II)I"⟩ prog_6_method_6_code 3 (some (.int)) : Cond) ∈ TW := tw_t (List.mem_of_getElem? (i := 535) (by decide +kernel)) rfl
theorem mt_536 : (.constantLong "LayerQuantitiesModel" 69 (1000) : Cond) ∈ TW := tw_t (List.mem_of_getElem? (i := 536) (by decide +kernel)) rfl
theorem mt_537 : (.methodLink "LayerQuantitiesModel" 63 ⟨"LayerQuantitiesModel", "isIn", "(JJJ)Z"⟩ : Cond) ∈ TW := tw_t (List.mem_of_getElem? (i := 537) (by decide +kernel)) rfl
theorem mt_538 : (.static ⟨"LayerQuantitiesModel", "isIn", "(JJJ)Z"⟩ : Cond) ∈ TW := tw_t (List.mem_of_getElem? (i := 538) (by decide +kernel)) rfl
theorem mt_539 : (.code ⟨"LayerQuantitiesModel", "isIn", "(JJJ)Z"⟩ prog_6_method_3_code 6 (some (.boolean)) : Cond) ∈ TW := tw_t (List.mem_of_getElem? (i := 539) (by decide +kernel)) rfl
theorem mt_540 : (.methodLink "LayerQuantitiesLaw" 77 ⟨"LayerQuantitiesModel", "opening", "(III)I"⟩ : Cond) ∈ TW := tw_t (List.mem_of_getElem? (i := 540) (by decide +kernel)) rfl
theorem mt_541 : (.instanceMethod ⟨"LayerQuantitiesModel", "opening", "(III)I"⟩ : Cond) ∈ TW := tw_t (List.mem_of_getElem? (i := 541) (by decide +kernel)) rfl
theorem mt_542 : (.selects "LayerQuantitiesModel" ⟨"LayerQuantitiesModel", "opening", "(III)I"⟩ ⟨"LayerQuantitiesModel", "opening", "(III)I"⟩ : Cond) ∈ TW := tw_t (List.mem_of_getElem? (i := 542) (by decide +kernel)) rfl
theorem mt_543 : (.code ⟨"LayerQuantitiesModel", "opening", "(III)I"⟩ prog_6_method_7_code 5 (some (.int)) : Cond) ∈ TW := tw_t (List.mem_of_getElem? (i := 543) (by decide +kernel)) rfl
theorem mt_544 : (.methodLink "LayerQuantitiesModel" 71 ⟨"LayerQuantitiesModel", "isWall", "(I)Z"⟩ : Cond) ∈ TW := tw_t (List.mem_of_getElem? (i := 544) (by decide +kernel)) rfl
theorem mt_545 : (.privateMethod ⟨"LayerQuantitiesModel", "isWall", "(I)Z"⟩ : Cond) ∈ TW := tw_t (List.mem_of_getElem? (i := 545) (by decide +kernel)) rfl
theorem mt_546 : (.instanceMethod ⟨"LayerQuantitiesModel", "isWall", "(I)Z"⟩ : Cond) ∈ TW := tw_t (List.mem_of_getElem? (i := 546) (by decide +kernel)) rfl
theorem mt_547 : (.code ⟨"LayerQuantitiesModel", "isWall", "(I)Z"⟩ prog_6_method_4_code 2 (some (.boolean)) : Cond) ∈ TW := tw_t (List.mem_of_getElem? (i := 547) (by decide +kernel)) rfl
theorem mt_548 : (.methodLink "LayerQuantitiesLaw" 80 ⟨"LayerQuantitiesModel", "layer", "(III)I"⟩ : Cond) ∈ TW := tw_t (List.mem_of_getElem? (i := 548) (by decide +kernel)) rfl
theorem mt_549 : (.instanceMethod ⟨"LayerQuantitiesModel", "layer", "(III)I"⟩ : Cond) ∈ TW := tw_t (List.mem_of_getElem? (i := 549) (by decide +kernel)) rfl
theorem mt_550 : (.selects "LayerQuantitiesModel" ⟨"LayerQuantitiesModel", "layer", "(III)I"⟩ ⟨"LayerQuantitiesModel", "layer", "(III)I"⟩ : Cond) ∈ TW := tw_t (List.mem_of_getElem? (i := 550) (by decide +kernel)) rfl
theorem mt_551 : (.code ⟨"LayerQuantitiesModel", "layer", "(III)I"⟩ prog_6_method_8_code 4 (some (.int)) : Cond) ∈ TW := tw_t (List.mem_of_getElem? (i := 551) (by decide +kernel)) rfl
theorem mt_552 : (.methodLink "LayerQuantitiesModel" 75 ⟨"LayerQuantitiesModel", "isStuff", "(I)Z"⟩ : Cond) ∈ TW := tw_t (List.mem_of_getElem? (i := 552) (by decide +kernel)) rfl
theorem mt_553 : (.static ⟨"LayerQuantitiesModel", "isStuff", "(I)Z"⟩ : Cond) ∈ TW := tw_t (List.mem_of_getElem? (i := 553) (by decide +kernel)) rfl
theorem mt_554 : (.code ⟨"LayerQuantitiesModel", "isStuff", "(I)Z"⟩ prog_6_method_5_code 1 (some (.boolean)) : Cond) ∈ TW := tw_t (List.mem_of_getElem? (i := 554) (by decide +kernel)) rfl
theorem mt_555 : (.constantLong "LayerQuantitiesModel" 67 (9) : Cond) ∈ TW := tw_t (List.mem_of_getElem? (i := 555) (by decide +kernel)) rfl
theorem mt_556 : (.constantLong "LayerQuantitiesModel" 78 (500) : Cond) ∈ TW := tw_t (List.mem_of_getElem? (i := 556) (by decide +kernel)) rfl
theorem mt_557 : (.methodLink "LayerQuantitiesLaw" 83 ⟨"LayerQuantitiesModel", "waste", "(II)I"⟩ : Cond) ∈ TW := tw_t (List.mem_of_getElem? (i := 557) (by decide +kernel)) rfl
theorem mt_558 : (.instanceMethod ⟨"LayerQuantitiesModel", "waste", "(II)I"⟩ : Cond) ∈ TW := tw_t (List.mem_of_getElem? (i := 558) (by decide +kernel)) rfl
theorem mt_559 : (.selects "LayerQuantitiesModel" ⟨"LayerQuantitiesModel", "waste", "(II)I"⟩ ⟨"LayerQuantitiesModel", "waste", "(II)I"⟩ : Cond) ∈ TW := tw_t (List.mem_of_getElem? (i := 559) (by decide +kernel)) rfl
theorem mt_560 : (.code ⟨"LayerQuantitiesModel", "waste", "(II)I"⟩ prog_6_method_9_code 4 (some (.int)) : Cond) ∈ TW := tw_t (List.mem_of_getElem? (i := 560) (by decide +kernel)) rfl
theorem mt_561 : (.constantLong "LayerQuantitiesModel" 80 (100) : Cond) ∈ TW := tw_t (List.mem_of_getElem? (i := 561) (by decide +kernel)) rfl
theorem mt_562 : (.methodLink "LayerQuantitiesLaw" 86 ⟨"LayerQuantitiesModel", "told", "(II)I"⟩ : Cond) ∈ TW := tw_t (List.mem_of_getElem? (i := 562) (by decide +kernel)) rfl
theorem mt_563 : (.instanceMethod ⟨"LayerQuantitiesModel", "told", "(II)I"⟩ : Cond) ∈ TW := tw_t (List.mem_of_getElem? (i := 563) (by decide +kernel)) rfl
theorem mt_564 : (.selects "LayerQuantitiesModel" ⟨"LayerQuantitiesModel", "told", "(II)I"⟩ ⟨"LayerQuantitiesModel", "told", "(II)I"⟩ : Cond) ∈ TW := tw_t (List.mem_of_getElem? (i := 564) (by decide +kernel)) rfl
theorem mt_565 : (.code ⟨"LayerQuantitiesModel", "told", "(II)I"⟩ prog_6_method_10_code 5 (some (.int)) : Cond) ∈ TW := tw_t (List.mem_of_getElem? (i := 565) (by decide +kernel)) rfl
theorem mt_566 : (.constantLong "LayerQuantitiesModel" 82 (2) : Cond) ∈ TW := tw_t (List.mem_of_getElem? (i := 566) (by decide +kernel)) rfl
theorem mt_567 : (.methodLink "LayerQuantitiesLaw" 90 ⟨"LayerQuantitiesModel", "need", "(I)J"⟩ : Cond) ∈ TW := tw_t (List.mem_of_getElem? (i := 567) (by decide +kernel)) rfl
theorem mt_568 : (.instanceMethod ⟨"LayerQuantitiesModel", "need", "(I)J"⟩ : Cond) ∈ TW := tw_t (List.mem_of_getElem? (i := 568) (by decide +kernel)) rfl
theorem mt_569 : (.selects "LayerQuantitiesModel" ⟨"LayerQuantitiesModel", "need", "(I)J"⟩ ⟨"LayerQuantitiesModel", "need", "(I)J"⟩ : Cond) ∈ TW := tw_t (List.mem_of_getElem? (i := 569) (by decide +kernel)) rfl
theorem mt_570 : (.code ⟨"LayerQuantitiesModel", "need", "(I)J"⟩ prog_6_method_12_code 2 (some (.long)) : Cond) ∈ TW := tw_t (List.mem_of_getElem? (i := 570) (by decide +kernel)) rfl
theorem mt_571 : (.methodLink "LayerQuantitiesModel" 86 ⟨"LayerQuantitiesModel", "needOf", "(I)J"⟩ : Cond) ∈ TW := tw_t (List.mem_of_getElem? (i := 571) (by decide +kernel)) rfl
theorem mt_572 : (.privateMethod ⟨"LayerQuantitiesModel", "needOf", "(I)J"⟩ : Cond) ∈ TW := tw_t (List.mem_of_getElem? (i := 572) (by decide +kernel)) rfl
theorem mt_573 : (.instanceMethod ⟨"LayerQuantitiesModel", "needOf", "(I)J"⟩ : Cond) ∈ TW := tw_t (List.mem_of_getElem? (i := 573) (by decide +kernel)) rfl
theorem mt_574 : (.code ⟨"LayerQuantitiesModel", "needOf", "(I)J"⟩ prog_6_method_11_code 6 (some (.long)) : Cond) ∈ TW := tw_t (List.mem_of_getElem? (i := 574) (by decide +kernel)) rfl
theorem mt_575 : (.constantLong "LayerQuantitiesModel" 84 (99) : Cond) ∈ TW := tw_t (List.mem_of_getElem? (i := 575) (by decide +kernel)) rfl
theorem mt_576 : (.methodLink "LayerQuantitiesLaw" 93 ⟨"LayerQuantitiesModel", "pack", "(III)I"⟩ : Cond) ∈ TW := tw_t (List.mem_of_getElem? (i := 576) (by decide +kernel)) rfl
theorem mt_577 : (.instanceMethod ⟨"LayerQuantitiesModel", "pack", "(III)I"⟩ : Cond) ∈ TW := tw_t (List.mem_of_getElem? (i := 577) (by decide +kernel)) rfl
theorem mt_578 : (.selects "LayerQuantitiesModel" ⟨"LayerQuantitiesModel", "pack", "(III)I"⟩ ⟨"LayerQuantitiesModel", "pack", "(III)I"⟩ : Cond) ∈ TW := tw_t (List.mem_of_getElem? (i := 578) (by decide +kernel)) rfl
theorem mt_579 : (.code ⟨"LayerQuantitiesModel", "pack", "(III)I"⟩ prog_6_method_13_code 5 (some (.int)) : Cond) ∈ TW := tw_t (List.mem_of_getElem? (i := 579) (by decide +kernel)) rfl
theorem mt_580 : (.constantLong "LayerQuantitiesModel" 90 (1000000000) : Cond) ∈ TW := tw_t (List.mem_of_getElem? (i := 580) (by decide +kernel)) rfl
theorem mt_581 : (.constantLong "LayerQuantitiesModel" 92 (100000) : Cond) ∈ TW := tw_t (List.mem_of_getElem? (i := 581) (by decide +kernel)) rfl
theorem mt_582 : (.methodLink "LayerQuantitiesLaw" 96 ⟨"LayerQuantitiesModel", "bought", "(II)I"⟩ : Cond) ∈ TW := tw_t (List.mem_of_getElem? (i := 582) (by decide +kernel)) rfl
theorem mt_583 : (.instanceMethod ⟨"LayerQuantitiesModel", "bought", "(II)I"⟩ : Cond) ∈ TW := tw_t (List.mem_of_getElem? (i := 583) (by decide +kernel)) rfl
theorem mt_584 : (.selects "LayerQuantitiesModel" ⟨"LayerQuantitiesModel", "bought", "(II)I"⟩ ⟨"LayerQuantitiesModel", "bought", "(II)I"⟩ : Cond) ∈ TW := tw_t (List.mem_of_getElem? (i := 584) (by decide +kernel)) rfl
theorem mt_585 : (.code ⟨"LayerQuantitiesModel", "bought", "(II)I"⟩ prog_6_method_18_code 3 (some (.int)) : Cond) ∈ TW := tw_t (List.mem_of_getElem? (i := 585) (by decide +kernel)) rfl
theorem mt_586 : (.methodLink "LayerQuantitiesModel" 114 ⟨"LayerQuantitiesModel", "buy", "(I)V"⟩ : Cond) ∈ TW := tw_t (List.mem_of_getElem? (i := 586) (by decide +kernel)) rfl
theorem mt_587 : (.privateMethod ⟨"LayerQuantitiesModel", "buy", "(I)V"⟩ : Cond) ∈ TW := tw_t (List.mem_of_getElem? (i := 587) (by decide +kernel)) rfl
theorem mt_588 : (.instanceMethod ⟨"LayerQuantitiesModel", "buy", "(I)V"⟩ : Cond) ∈ TW := tw_t (List.mem_of_getElem? (i := 588) (by decide +kernel)) rfl
theorem mt_589 : (.code ⟨"LayerQuantitiesModel", "buy", "(I)V"⟩ prog_6_method_17_code 11 none : Cond) ∈ TW := tw_t (List.mem_of_getElem? (i := 589) (by decide +kernel)) rfl
theorem mt_590 : (.constantLong "LayerQuantitiesModel" 108 (-1) : Cond) ∈ TW := tw_t (List.mem_of_getElem? (i := 590) (by decide +kernel)) rfl
theorem mt_591 : (.methodLink "LayerQuantitiesModel" 110 ⟨"LayerQuantitiesModel", "tryLast", "(IJ)V"⟩ : Cond) ∈ TW := tw_t (List.mem_of_getElem? (i := 591) (by decide +kernel)) rfl
theorem mt_592 : (.privateMethod ⟨"LayerQuantitiesModel", "tryLast", "(IJ)V"⟩ : Cond) ∈ TW := tw_t (List.mem_of_getElem? (i := 592) (by decide +kernel)) rfl
theorem mt_593 : (.instanceMethod ⟨"LayerQuantitiesModel", "tryLast", "(IJ)V"⟩ : Cond) ∈ TW := tw_t (List.mem_of_getElem? (i := 593) (by decide +kernel)) rfl
theorem mt_594 : (.code ⟨"LayerQuantitiesModel", "tryLast", "(IJ)V"⟩ prog_6_method_16_code 14 none : Cond) ∈ TW := tw_t (List.mem_of_getElem? (i := 594) (by decide +kernel)) rfl
theorem mt_595 : (.methodLink "LayerQuantitiesModel" 98 ⟨"LayerQuantitiesModel", "together", "([I)I"⟩ : Cond) ∈ TW := tw_t (List.mem_of_getElem? (i := 595) (by decide +kernel)) rfl
theorem mt_596 : (.static ⟨"LayerQuantitiesModel", "together", "([I)I"⟩ : Cond) ∈ TW := tw_t (List.mem_of_getElem? (i := 596) (by decide +kernel)) rfl
theorem mt_597 : (.code ⟨"LayerQuantitiesModel", "together", "([I)I"⟩ prog_6_method_14_code 1 (some (.int)) : Cond) ∈ TW := tw_t (List.mem_of_getElem? (i := 597) (by decide +kernel)) rfl
theorem mt_598 : (.constantLong "LayerQuantitiesModel" 102 (60) : Cond) ∈ TW := tw_t (List.mem_of_getElem? (i := 598) (by decide +kernel)) rfl
theorem mt_599 : (.methodLink "LayerQuantitiesModel" 104 ⟨"LayerQuantitiesModel", "isBetter", "(J)Z"⟩ : Cond) ∈ TW := tw_t (List.mem_of_getElem? (i := 599) (by decide +kernel)) rfl
theorem mt_600 : (.privateMethod ⟨"LayerQuantitiesModel", "isBetter", "(J)Z"⟩ : Cond) ∈ TW := tw_t (List.mem_of_getElem? (i := 600) (by decide +kernel)) rfl
theorem mt_601 : (.instanceMethod ⟨"LayerQuantitiesModel", "isBetter", "(J)Z"⟩ : Cond) ∈ TW := tw_t (List.mem_of_getElem? (i := 601) (by decide +kernel)) rfl
theorem mt_602 : (.code ⟨"LayerQuantitiesModel", "isBetter", "(J)Z"⟩ prog_6_method_15_code 4 (some (.boolean)) : Cond) ∈ TW := tw_t (List.mem_of_getElem? (i := 602) (by decide +kernel)) rfl
theorem mt_603 : (.methodLink "LayerQuantitiesLaw" 99 ⟨"LayerQuantitiesModel", "cents", "(I)J"⟩ : Cond) ∈ TW := tw_t (List.mem_of_getElem? (i := 603) (by decide +kernel)) rfl
theorem mt_604 : (.instanceMethod ⟨"LayerQuantitiesModel", "cents", "(I)J"⟩ : Cond) ∈ TW := tw_t (List.mem_of_getElem? (i := 604) (by decide +kernel)) rfl
theorem mt_605 : (.selects "LayerQuantitiesModel" ⟨"LayerQuantitiesModel", "cents", "(I)J"⟩ ⟨"LayerQuantitiesModel", "cents", "(I)J"⟩ : Cond) ∈ TW := tw_t (List.mem_of_getElem? (i := 605) (by decide +kernel)) rfl
theorem mt_606 : (.code ⟨"LayerQuantitiesModel", "cents", "(I)J"⟩ prog_6_method_19_code 2 (some (.long)) : Cond) ∈ TW := tw_t (List.mem_of_getElem? (i := 606) (by decide +kernel)) rfl
theorem mt_607 : (.methodLink "LayerQuantitiesLaw" 103 ⟨"LayerQuantitiesModel", "cents", "()J"⟩ : Cond) ∈ TW := tw_t (List.mem_of_getElem? (i := 607) (by decide +kernel)) rfl
theorem mt_608 : (.instanceMethod ⟨"LayerQuantitiesModel", "cents", "()J"⟩ : Cond) ∈ TW := tw_t (List.mem_of_getElem? (i := 608) (by decide +kernel)) rfl
theorem mt_609 : (.selects "LayerQuantitiesModel" ⟨"LayerQuantitiesModel", "cents", "()J"⟩ ⟨"LayerQuantitiesModel", "cents", "()J"⟩ : Cond) ∈ TW := tw_t (List.mem_of_getElem? (i := 609) (by decide +kernel)) rfl
theorem mt_610 : (.code ⟨"LayerQuantitiesModel", "cents", "()J"⟩ prog_6_method_20_code 4 (some (.long)) : Cond) ∈ TW := tw_t (List.mem_of_getElem? (i := 610) (by decide +kernel)) rfl
theorem mt_611 : (.methodLink "LayerQuantitiesLaw" 107 ⟨"LayerQuantitiesModel", "bars", "(II)V"⟩ : Cond) ∈ TW := tw_t (List.mem_of_getElem? (i := 611) (by decide +kernel)) rfl
theorem mt_612 : (.instanceMethod ⟨"LayerQuantitiesModel", "bars", "(II)V"⟩ : Cond) ∈ TW := tw_t (List.mem_of_getElem? (i := 612) (by decide +kernel)) rfl
theorem mt_613 : (.selects "LayerQuantitiesModel" ⟨"LayerQuantitiesModel", "bars", "(II)V"⟩ ⟨"LayerQuantitiesModel", "bars", "(II)V"⟩ : Cond) ∈ TW := tw_t (List.mem_of_getElem? (i := 613) (by decide +kernel)) rfl
theorem mt_614 : (.code ⟨"LayerQuantitiesModel", "bars", "(II)V"⟩ prog_6_method_21_code 5 none : Cond) ∈ TW := tw_t (List.mem_of_getElem? (i := 614) (by decide +kernel)) rfl
theorem mt_615 : (.constantLong "LayerQuantitiesModel" 121 (10000) : Cond) ∈ TW := tw_t (List.mem_of_getElem? (i := 615) (by decide +kernel)) rfl
theorem mt_616 : (.methodLink "LayerQuantitiesLaw" 110 ⟨"LayerQuantitiesModel", "piece", "(I)I"⟩ : Cond) ∈ TW := tw_t (List.mem_of_getElem? (i := 616) (by decide +kernel)) rfl
theorem mt_617 : (.instanceMethod ⟨"LayerQuantitiesModel", "piece", "(I)I"⟩ : Cond) ∈ TW := tw_t (List.mem_of_getElem? (i := 617) (by decide +kernel)) rfl
theorem mt_618 : (.selects "LayerQuantitiesModel" ⟨"LayerQuantitiesModel", "piece", "(I)I"⟩ ⟨"LayerQuantitiesModel", "piece", "(I)I"⟩ : Cond) ∈ TW := tw_t (List.mem_of_getElem? (i := 618) (by decide +kernel)) rfl
theorem mt_619 : (.code ⟨"LayerQuantitiesModel", "piece", "(I)I"⟩ prog_6_method_22_code 2 (some (.int)) : Cond) ∈ TW := tw_t (List.mem_of_getElem? (i := 619) (by decide +kernel)) rfl
theorem mt_620 : (.methodLink "LayerQuantitiesLaw" 113 ⟨"LayerQuantitiesModel", "change", "(II)I"⟩ : Cond) ∈ TW := tw_t (List.mem_of_getElem? (i := 620) (by decide +kernel)) rfl
theorem mt_621 : (.instanceMethod ⟨"LayerQuantitiesModel", "change", "(II)I"⟩ : Cond) ∈ TW := tw_t (List.mem_of_getElem? (i := 621) (by decide +kernel)) rfl
theorem mt_622 : (.selects "LayerQuantitiesModel" ⟨"LayerQuantitiesModel", "change", "(II)I"⟩ ⟨"LayerQuantitiesModel", "change", "(II)I"⟩ : Cond) ∈ TW := tw_t (List.mem_of_getElem? (i := 622) (by decide +kernel)) rfl
theorem mt_623 : (.code ⟨"LayerQuantitiesModel", "change", "(II)I"⟩ prog_6_method_23_code 4 (some (.int)) : Cond) ∈ TW := tw_t (List.mem_of_getElem? (i := 623) (by decide +kernel)) rfl
theorem mt_624 : (.methodLink "LayerQuantitiesLaw" 117 ⟨"LayerQuantitiesModel", "plan", "()I"⟩ : Cond) ∈ TW := tw_t (List.mem_of_getElem? (i := 624) (by decide +kernel)) rfl
theorem mt_625 : (.instanceMethod ⟨"LayerQuantitiesModel", "plan", "()I"⟩ : Cond) ∈ TW := tw_t (List.mem_of_getElem? (i := 625) (by decide +kernel)) rfl
theorem mt_626 : (.selects "LayerQuantitiesModel" ⟨"LayerQuantitiesModel", "plan", "()I"⟩ ⟨"LayerQuantitiesModel", "plan", "()I"⟩ : Cond) ∈ TW := tw_t (List.mem_of_getElem? (i := 626) (by decide +kernel)) rfl
theorem mt_627 : (.code ⟨"LayerQuantitiesModel", "plan", "()I"⟩ prog_6_method_27_code 1 (some (.int)) : Cond) ∈ TW := tw_t (List.mem_of_getElem? (i := 627) (by decide +kernel)) rfl
theorem mt_628 : (.methodLink "LayerQuantitiesModel" 136 ⟨"LayerQuantitiesModel", "findPlan", "()V"⟩ : Cond) ∈ TW := tw_t (List.mem_of_getElem? (i := 628) (by decide +kernel)) rfl
theorem mt_629 : (.privateMethod ⟨"LayerQuantitiesModel", "findPlan", "()V"⟩ : Cond) ∈ TW := tw_t (List.mem_of_getElem? (i := 629) (by decide +kernel)) rfl
theorem mt_630 : (.instanceMethod ⟨"LayerQuantitiesModel", "findPlan", "()V"⟩ : Cond) ∈ TW := tw_t (List.mem_of_getElem? (i := 630) (by decide +kernel)) rfl
theorem mt_631 : (.code ⟨"LayerQuantitiesModel", "findPlan", "()V"⟩ prog_6_method_26_code 4 none : Cond) ∈ TW := tw_t (List.mem_of_getElem? (i := 631) (by decide +kernel)) rfl
theorem mt_632 : (.methodLink "LayerQuantitiesModel" 133 ⟨"LayerQuantitiesModel", "goInto", "(I)Z"⟩ : Cond) ∈ TW := tw_t (List.mem_of_getElem? (i := 632) (by decide +kernel)) rfl
theorem mt_633 : (.privateMethod ⟨"LayerQuantitiesModel", "goInto", "(I)Z"⟩ : Cond) ∈ TW := tw_t (List.mem_of_getElem? (i := 633) (by decide +kernel)) rfl
theorem mt_634 : (.instanceMethod ⟨"LayerQuantitiesModel", "goInto", "(I)Z"⟩ : Cond) ∈ TW := tw_t (List.mem_of_getElem? (i := 634) (by decide +kernel)) rfl
theorem mt_635 : (.code ⟨"LayerQuantitiesModel", "goInto", "(I)Z"⟩ prog_6_method_25_code 7 (some (.boolean)) : Cond) ∈ TW := tw_t (List.mem_of_getElem? (i := 635) (by decide +kernel)) rfl
theorem mt_636 : (.methodLink "LayerQuantitiesModel" 126 ⟨"LayerQuantitiesModel", "usedBefore", "(I)I"⟩ : Cond) ∈ TW := tw_t (List.mem_of_getElem? (i := 636) (by decide +kernel)) rfl
theorem mt_637 : (.privateMethod ⟨"LayerQuantitiesModel", "usedBefore", "(I)I"⟩ : Cond) ∈ TW := tw_t (List.mem_of_getElem? (i := 637) (by decide +kernel)) rfl
theorem mt_638 : (.instanceMethod ⟨"LayerQuantitiesModel", "usedBefore", "(I)I"⟩ : Cond) ∈ TW := tw_t (List.mem_of_getElem? (i := 638) (by decide +kernel)) rfl
theorem mt_639 : (.code ⟨"LayerQuantitiesModel", "usedBefore", "(I)I"⟩ prog_6_method_24_code 4 (some (.int)) : Cond) ∈ TW := tw_t (List.mem_of_getElem? (i := 639) (by decide +kernel)) rfl
theorem mt_640 : (.methodLink "LayerQuantitiesLaw" 120 ⟨"LayerQuantitiesModel", "bar", "(I)I"⟩ : Cond) ∈ TW := tw_t (List.mem_of_getElem? (i := 640) (by decide +kernel)) rfl
theorem mt_641 : (.instanceMethod ⟨"LayerQuantitiesModel", "bar", "(I)I"⟩ : Cond) ∈ TW := tw_t (List.mem_of_getElem? (i := 641) (by decide +kernel)) rfl
theorem mt_642 : (.selects "LayerQuantitiesModel" ⟨"LayerQuantitiesModel", "bar", "(I)I"⟩ ⟨"LayerQuantitiesModel", "bar", "(I)I"⟩ : Cond) ∈ TW := tw_t (List.mem_of_getElem? (i := 642) (by decide +kernel)) rfl
theorem mt_643 : (.code ⟨"LayerQuantitiesModel", "bar", "(I)I"⟩ prog_6_method_28_code 2 (some (.int)) : Cond) ∈ TW := tw_t (List.mem_of_getElem? (i := 643) (by decide +kernel)) rfl
theorem mt_644 : (.methodLink "LayerQuantitiesLaw" 123 ⟨"LayerQuantitiesModel", "rest", "(I)I"⟩ : Cond) ∈ TW := tw_t (List.mem_of_getElem? (i := 644) (by decide +kernel)) rfl
theorem mt_645 : (.instanceMethod ⟨"LayerQuantitiesModel", "rest", "(I)I"⟩ : Cond) ∈ TW := tw_t (List.mem_of_getElem? (i := 645) (by decide +kernel)) rfl
theorem mt_646 : (.selects "LayerQuantitiesModel" ⟨"LayerQuantitiesModel", "rest", "(I)I"⟩ ⟨"LayerQuantitiesModel", "rest", "(I)I"⟩ : Cond) ∈ TW := tw_t (List.mem_of_getElem? (i := 646) (by decide +kernel)) rfl
theorem mt_647 : (.code ⟨"LayerQuantitiesModel", "rest", "(I)I"⟩ prog_6_method_29_code 2 (some (.int)) : Cond) ∈ TW := tw_t (List.mem_of_getElem? (i := 647) (by decide +kernel)) rfl
theorem mt_648 : (.sameMethod "java/lang/Throwable" "java/lang/Throwable" "fillInStackTrace" "(I)Ljava/lang/Throwable;" : Cond) ∈ TW := tw_t (List.mem_of_getElem? (i := 648) (by decide +kernel)) rfl
theorem ms_0 : (.selects "java/lang/Throwable" ⟨"java/lang/Throwable", "fillInStackTrace", "(I)Ljava/lang/Throwable;"⟩ ⟨"java/lang/Throwable", "fillInStackTrace", "(I)Ljava/lang/Throwable;"⟩ : Cond) ∈ TW := tw_s (List.mem_of_getElem? (i := 0) (by decide +kernel)) rfl
theorem ms_1 : (.selects "LayerQuantities$Shelf" ⟨"LayerQuantities$Shelf", "priceFor", "(J)I"⟩ ⟨"LayerQuantities$Shelf", "priceFor", "(J)I"⟩ : Cond) ∈ TW := tw_s (List.mem_of_getElem? (i := 1) (by decide +kernel)) rfl
theorem ms_2 : (.selects "LayerQuantities$Shelf" ⟨"LayerQuantities$Shelf", "search", "(J)V"⟩ ⟨"LayerQuantities$Shelf", "search", "(J)V"⟩ : Cond) ∈ TW := tw_s (List.mem_of_getElem? (i := 2) (by decide +kernel)) rfl
theorem ms_3 : (.selects "LayerQuantities$Shelf" ⟨"LayerQuantities$Shelf", "priceOfOneKind", "(J)I"⟩ ⟨"LayerQuantities$Shelf", "priceOfOneKind", "(J)I"⟩ : Cond) ∈ TW := tw_s (List.mem_of_getElem? (i := 3) (by decide +kernel)) rfl
theorem ms_4 : (.selects "LayerQuantities$Shelf" ⟨"LayerQuantities$Shelf", "tryKind", "(IJII)V"⟩ ⟨"LayerQuantities$Shelf", "tryKind", "(IJII)V"⟩ : Cond) ∈ TW := tw_s (List.mem_of_getElem? (i := 4) (by decide +kernel)) rfl
theorem ms_5 : (.selects "LayerQuantities$Shelf" ⟨"LayerQuantities$Shelf", "keepIfBetter", "(II)V"⟩ ⟨"LayerQuantities$Shelf", "keepIfBetter", "(II)V"⟩ : Cond) ∈ TW := tw_s (List.mem_of_getElem? (i := 5) (by decide +kernel)) rfl
theorem ms_6 : (.selects "LayerQuantities$Shelf" ⟨"LayerQuantities$Shelf", "isBetter", "(JJ)Z"⟩ ⟨"LayerQuantities$Shelf", "isBetter", "(JJ)Z"⟩ : Cond) ∈ TW := tw_s (List.mem_of_getElem? (i := 6) (by decide +kernel)) rfl
theorem ms_7 : (.selects "LayerQuantities$Shelf" ⟨"LayerQuantities$Shelf", "isHopeless", "(IJII)Z"⟩ ⟨"LayerQuantities$Shelf", "isHopeless", "(IJII)Z"⟩ : Cond) ∈ TW := tw_s (List.mem_of_getElem? (i := 7) (by decide +kernel)) rfl
theorem ms_8 : (.selects "LayerQuantities$Saw" ⟨"LayerQuantities$Saw", "makePlan", "()V"⟩ ⟨"LayerQuantities$Saw", "makePlan", "()V"⟩ : Cond) ∈ TW := tw_s (List.mem_of_getElem? (i := 8) (by decide +kernel)) rfl
theorem ms_9 : (.selects "LayerQuantities$Saw" ⟨"LayerQuantities$Saw", "sumFromBehind", "()V"⟩ ⟨"LayerQuantities$Saw", "sumFromBehind", "()V"⟩ : Cond) ∈ TW := tw_s (List.mem_of_getElem? (i := 9) (by decide +kernel)) rfl
theorem ms_10 : (.selects "LayerQuantities$Saw" ⟨"LayerQuantities$Saw", "placeAll", "()Z"⟩ ⟨"LayerQuantities$Saw", "placeAll", "()Z"⟩ : Cond) ∈ TW := tw_s (List.mem_of_getElem? (i := 10) (by decide +kernel)) rfl
theorem ms_11 : (.selects "LayerQuantities$Saw" ⟨"LayerQuantities$Saw", "placeFrom", "(I)Z"⟩ ⟨"LayerQuantities$Saw", "placeFrom", "(I)Z"⟩ : Cond) ∈ TW := tw_s (List.mem_of_getElem? (i := 11) (by decide +kernel)) rfl
theorem ms_12 : (.selects "LayerQuantities$Saw" ⟨"LayerQuantities$Saw", "usable", "(I)I"⟩ ⟨"LayerQuantities$Saw", "usable", "(I)I"⟩ : Cond) ∈ TW := tw_s (List.mem_of_getElem? (i := 12) (by decide +kernel)) rfl
theorem ms_13 : (.selects "LayerQuantities$Saw" ⟨"LayerQuantities$Saw", "isLikeEarlier", "(I)Z"⟩ ⟨"LayerQuantities$Saw", "isLikeEarlier", "(I)Z"⟩ : Cond) ∈ TW := tw_s (List.mem_of_getElem? (i := 13) (by decide +kernel)) rfl
theorem ms_14 : (.selects "LayerQuantities$Wall" ⟨"LayerQuantities$Wall", "wholeThickness", "()I"⟩ ⟨"LayerQuantities$Wall", "wholeThickness", "()I"⟩ : Cond) ∈ TW := tw_s (List.mem_of_getElem? (i := 14) (by decide +kernel)) rfl
theorem ms_15 : (.selects "LayerQuantities$Shelf" ⟨"LayerQuantities$Shelf", "stock", "(II)I"⟩ ⟨"LayerQuantities$Shelf", "stock", "(II)I"⟩ : Cond) ∈ TW := tw_s (List.mem_of_getElem? (i := 15) (by decide +kernel)) rfl
theorem ms_16 : (.selects "LayerQuantities$Shelf" ⟨"LayerQuantities$Shelf", "rankFromBehind", "()V"⟩ ⟨"LayerQuantities$Shelf", "rankFromBehind", "()V"⟩ : Cond) ∈ TW := tw_s (List.mem_of_getElem? (i := 16) (by decide +kernel)) rfl
theorem ms_17 : (.selects "LayerQuantities$Shelf" ⟨"LayerQuantities$Shelf", "countFor", "(JI)I"⟩ ⟨"LayerQuantities$Shelf", "countFor", "(JI)I"⟩ : Cond) ∈ TW := tw_s (List.mem_of_getElem? (i := 17) (by decide +kernel)) rfl
theorem ms_18 : (.selects "LayerQuantities$Saw" ⟨"LayerQuantities$Saw", "longestPiece", "()I"⟩ ⟨"LayerQuantities$Saw", "longestPiece", "()I"⟩ : Cond) ∈ TW := tw_s (List.mem_of_getElem? (i := 18) (by decide +kernel)) rfl
theorem ms_19 : (.selects "LayerQuantities$Saw" ⟨"LayerQuantities$Saw", "takeBars", "(II)V"⟩ ⟨"LayerQuantities$Saw", "takeBars", "(II)V"⟩ : Cond) ∈ TW := tw_s (List.mem_of_getElem? (i := 19) (by decide +kernel)) rfl
theorem ms_20 : (.selects "LayerQuantities$Saw" ⟨"LayerQuantities$Saw", "addPiece", "(I)I"⟩ ⟨"LayerQuantities$Saw", "addPiece", "(I)I"⟩ : Cond) ∈ TW := tw_s (List.mem_of_getElem? (i := 20) (by decide +kernel)) rfl
theorem ms_21 : (.selects "LayerQuantities$Saw" ⟨"LayerQuantities$Saw", "resizePiece", "(II)I"⟩ ⟨"LayerQuantities$Saw", "resizePiece", "(II)I"⟩ : Cond) ∈ TW := tw_s (List.mem_of_getElem? (i := 21) (by decide +kernel)) rfl
theorem ms_22 : (.selects "LayerQuantitiesModel" ⟨"LayerQuantitiesModel", "isWall", "(I)Z"⟩ ⟨"LayerQuantitiesModel", "isWall", "(I)Z"⟩ : Cond) ∈ TW := tw_s (List.mem_of_getElem? (i := 22) (by decide +kernel)) rfl
theorem ms_23 : (.selects "LayerQuantitiesModel" ⟨"LayerQuantitiesModel", "needOf", "(I)J"⟩ ⟨"LayerQuantitiesModel", "needOf", "(I)J"⟩ : Cond) ∈ TW := tw_s (List.mem_of_getElem? (i := 23) (by decide +kernel)) rfl
theorem ms_24 : (.selects "LayerQuantitiesModel" ⟨"LayerQuantitiesModel", "buy", "(I)V"⟩ ⟨"LayerQuantitiesModel", "buy", "(I)V"⟩ : Cond) ∈ TW := tw_s (List.mem_of_getElem? (i := 24) (by decide +kernel)) rfl
theorem ms_25 : (.selects "LayerQuantitiesModel" ⟨"LayerQuantitiesModel", "tryLast", "(IJ)V"⟩ ⟨"LayerQuantitiesModel", "tryLast", "(IJ)V"⟩ : Cond) ∈ TW := tw_s (List.mem_of_getElem? (i := 25) (by decide +kernel)) rfl
theorem ms_26 : (.selects "LayerQuantitiesModel" ⟨"LayerQuantitiesModel", "isBetter", "(J)Z"⟩ ⟨"LayerQuantitiesModel", "isBetter", "(J)Z"⟩ : Cond) ∈ TW := tw_s (List.mem_of_getElem? (i := 26) (by decide +kernel)) rfl
theorem ms_27 : (.selects "LayerQuantitiesModel" ⟨"LayerQuantitiesModel", "findPlan", "()V"⟩ ⟨"LayerQuantitiesModel", "findPlan", "()V"⟩ : Cond) ∈ TW := tw_s (List.mem_of_getElem? (i := 27) (by decide +kernel)) rfl
theorem ms_28 : (.selects "LayerQuantitiesModel" ⟨"LayerQuantitiesModel", "goInto", "(I)Z"⟩ ⟨"LayerQuantitiesModel", "goInto", "(I)Z"⟩ : Cond) ∈ TW := tw_s (List.mem_of_getElem? (i := 28) (by decide +kernel)) rfl
theorem ms_29 : (.selects "LayerQuantitiesModel" ⟨"LayerQuantitiesModel", "usedBefore", "(I)I"⟩ ⟨"LayerQuantitiesModel", "usedBefore", "(I)I"⟩ : Cond) ∈ TW := tw_s (List.mem_of_getElem? (i := 29) (by decide +kernel)) rfl
