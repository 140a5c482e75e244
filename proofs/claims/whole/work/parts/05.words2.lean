section
theorem wd_327 : Cond.fieldLink R_C 9 "ExplainingSolver$Clause" "i" "I" ∈ cA := cA_tbl (List.mem_of_getElem? (i := 327) (by decide +kernel)) rfl
theorem wd_328 : Cond.fieldLink R_C 15 "ExplainingSolver$Clause" "v" "I" ∈ cA := cA_tbl (List.mem_of_getElem? (i := 328) (by decide +kernel)) rfl
theorem wd_329 : Cond.fieldLink R_C 18 "ExplainingSolver$Clause" "j" "I" ∈ cA := cA_tbl (List.mem_of_getElem? (i := 329) (by decide +kernel)) rfl
theorem wd_330 : Cond.fieldLink R_C 21 "ExplainingSolver$Clause" "w" "I" ∈ cA := cA_tbl (List.mem_of_getElem? (i := 330) (by decide +kernel)) rfl
theorem wd_331 : Cond.fieldLink R_C 24 "ExplainingSolver$Clause" "k" "I" ∈ cA := cA_tbl (List.mem_of_getElem? (i := 331) (by decide +kernel)) rfl
theorem wd_332 : Cond.fieldLink R_C 27 "ExplainingSolver$Clause" "u" "I" ∈ cA := cA_tbl (List.mem_of_getElem? (i := 332) (by decide +kernel)) rfl
theorem wd_333 : Cond.fieldLink R_C 30 "ExplainingSolver$Clause" "how" "I" ∈ cA := cA_tbl (List.mem_of_getElem? (i := 333) (by decide +kernel)) rfl
theorem wd_334 : Cond.laysFinal "ExplainingSolver$Clause" "ExplainingSolver$Clause" "i" "I" ∈ cA := cA_tbl (List.mem_of_getElem? (i := 334) (by decide +kernel)) rfl
theorem wd_336 : Cond.laysFinal "ExplainingSolver$Clause" "ExplainingSolver$Clause" "v" "I" ∈ cA := cA_tbl (List.mem_of_getElem? (i := 336) (by decide +kernel)) rfl
theorem wd_338 : Cond.laysFinal "ExplainingSolver$Clause" "ExplainingSolver$Clause" "j" "I" ∈ cA := cA_tbl (List.mem_of_getElem? (i := 338) (by decide +kernel)) rfl
theorem wd_340 : Cond.laysFinal "ExplainingSolver$Clause" "ExplainingSolver$Clause" "w" "I" ∈ cA := cA_tbl (List.mem_of_getElem? (i := 340) (by decide +kernel)) rfl
theorem wd_342 : Cond.laysFinal "ExplainingSolver$Clause" "ExplainingSolver$Clause" "k" "I" ∈ cA := cA_tbl (List.mem_of_getElem? (i := 342) (by decide +kernel)) rfl
theorem wd_344 : Cond.laysFinal "ExplainingSolver$Clause" "ExplainingSolver$Clause" "u" "I" ∈ cA := cA_tbl (List.mem_of_getElem? (i := 344) (by decide +kernel)) rfl
theorem wd_346 : Cond.laysFinal "ExplainingSolver$Clause" "ExplainingSolver$Clause" "how" "I" ∈ cA := cA_tbl (List.mem_of_getElem? (i := 346) (by decide +kernel)) rfl
theorem wd_349 : Cond.methodLink R_W 53 y_X_drop ∈ cA := cA_tbl (List.mem_of_getElem? (i := 349) (by decide +kernel)) rfl
theorem wd_350 : Cond.instanceMethod y_X_drop ∈ cA := cA_tbl (List.mem_of_getElem? (i := 350) (by decide +kernel)) rfl
theorem wd_351 : Cond.selects R_X y_X_drop y_X_drop ∈ cA := cA_tbl (List.mem_of_getElem? (i := 351) (by decide +kernel)) rfl
theorem wd_352 : Cond.code y_X_drop b_X_drop 2 (some .boolean) ∈ cA := cA_tbl (List.mem_of_getElem? (i := 352) (by decide +kernel)) rfl
theorem wd_353 : Cond.methodLink R_W 58 y_X_assume ∈ cA := cA_tbl (List.mem_of_getElem? (i := 353) (by decide +kernel)) rfl
theorem wd_354 : Cond.instanceMethod y_X_assume ∈ cA := cA_tbl (List.mem_of_getElem? (i := 354) (by decide +kernel)) rfl
theorem wd_355 : Cond.selects R_X y_X_assume y_X_assume ∈ cA := cA_tbl (List.mem_of_getElem? (i := 355) (by decide +kernel)) rfl
theorem wd_356 : Cond.code y_X_assume b_X_assume 4 (some .boolean) ∈ cA := cA_tbl (List.mem_of_getElem? (i := 356) (by decide +kernel)) rfl
theorem wd_357 : Cond.methodLink R_W 63 y_X_retract ∈ cA := cA_tbl (List.mem_of_getElem? (i := 357) (by decide +kernel)) rfl
theorem wd_358 : Cond.instanceMethod y_X_retract ∈ cA := cA_tbl (List.mem_of_getElem? (i := 358) (by decide +kernel)) rfl
theorem wd_359 : Cond.selects R_X y_X_retract y_X_retract ∈ cA := cA_tbl (List.mem_of_getElem? (i := 359) (by decide +kernel)) rfl
theorem wd_360 : Cond.code y_X_retract b_X_retract 1 (some .boolean) ∈ cA := cA_tbl (List.mem_of_getElem? (i := 360) (by decide +kernel)) rfl
theorem wd_361 : Cond.methodLink R_W 67 y_X_solve ∈ cA := cA_tbl (List.mem_of_getElem? (i := 361) (by decide +kernel)) rfl
theorem wd_362 : Cond.instanceMethod y_X_solve ∈ cA := cA_tbl (List.mem_of_getElem? (i := 362) (by decide +kernel)) rfl
theorem wd_363 : Cond.selects R_X y_X_solve y_X_solve ∈ cA := cA_tbl (List.mem_of_getElem? (i := 363) (by decide +kernel)) rfl
theorem wd_364 : Cond.code y_X_solve b_X_solve 1 (some .boolean) ∈ cA := cA_tbl (List.mem_of_getElem? (i := 364) (by decide +kernel)) rfl
theorem wd_365 : Cond.methodLink R_X 116 y_X_search ∈ cA := cA_tbl (List.mem_of_getElem? (i := 365) (by decide +kernel)) rfl
theorem wd_367 : Cond.instanceMethod y_X_search ∈ cA := cA_tbl (List.mem_of_getElem? (i := 367) (by decide +kernel)) rfl
theorem wd_368 : Cond.code y_X_search b_X_search 6 (some .boolean) ∈ cA := cA_tbl (List.mem_of_getElem? (i := 368) (by decide +kernel)) rfl
theorem wd_369 : Cond.methodLink R_X 141 Lib.Math.min.name ∈ cA := cA_tbl (List.mem_of_getElem? (i := 369) (by decide +kernel)) rfl
theorem wd_370 : Cond.static Lib.Math.min.name ∈ cA := cA_tbl (List.mem_of_getElem? (i := 370) (by decide +kernel)) rfl
theorem wd_371 : Cond.code Lib.Math.min.name Lib.Math.min.code 2 (some .int) ∈ cA := cA_tbl (List.mem_of_getElem? (i := 371) (by decide +kernel)) rfl
theorem wd_372 : Cond.methodLink R_X 147 y_X_isAsAssumed ∈ cA := cA_tbl (List.mem_of_getElem? (i := 372) (by decide +kernel)) rfl
theorem wd_374 : Cond.instanceMethod y_X_isAsAssumed ∈ cA := cA_tbl (List.mem_of_getElem? (i := 374) (by decide +kernel)) rfl
theorem wd_375 : Cond.code y_X_isAsAssumed b_X_isAsAssumed 3 (some .boolean) ∈ cA := cA_tbl (List.mem_of_getElem? (i := 375) (by decide +kernel)) rfl
theorem wd_376 : Cond.methodLink R_X 119 y_X_keepAsAnswer ∈ cA := cA_tbl (List.mem_of_getElem? (i := 376) (by decide +kernel)) rfl
theorem wd_378 : Cond.instanceMethod y_X_keepAsAnswer ∈ cA := cA_tbl (List.mem_of_getElem? (i := 378) (by decide +kernel)) rfl
theorem wd_379 : Cond.code y_X_keepAsAnswer b_X_keepAsAnswer 2 (some .boolean) ∈ cA := cA_tbl (List.mem_of_getElem? (i := 379) (by decide +kernel)) rfl
theorem wd_380 : Cond.methodLink R_W 71 y_X_best ∈ cA := cA_tbl (List.mem_of_getElem? (i := 380) (by decide +kernel)) rfl
theorem wd_381 : Cond.instanceMethod y_X_best ∈ cA := cA_tbl (List.mem_of_getElem? (i := 381) (by decide +kernel)) rfl
theorem wd_382 : Cond.selects R_X y_X_best y_X_best ∈ cA := cA_tbl (List.mem_of_getElem? (i := 382) (by decide +kernel)) rfl
theorem wd_383 : Cond.code y_X_best b_X_best 3 (some .boolean) ∈ cA := cA_tbl (List.mem_of_getElem? (i := 383) (by decide +kernel)) rfl
theorem wd_384 : Cond.methodLink R_W 76 y_X_value ∈ cA := cA_tbl (List.mem_of_getElem? (i := 384) (by decide +kernel)) rfl
theorem wd_385 : Cond.instanceMethod y_X_value ∈ cA := cA_tbl (List.mem_of_getElem? (i := 385) (by decide +kernel)) rfl
theorem wd_386 : Cond.selects R_X y_X_value y_X_value ∈ cA := cA_tbl (List.mem_of_getElem? (i := 386) (by decide +kernel)) rfl
theorem wd_387 : Cond.code y_X_value b_X_value 2 (some .int) ∈ cA := cA_tbl (List.mem_of_getElem? (i := 387) (by decide +kernel)) rfl
theorem wd_388 : Cond.methodLink R_W 80 y_X_least ∈ cA := cA_tbl (List.mem_of_getElem? (i := 388) (by decide +kernel)) rfl
theorem wd_389 : Cond.instanceMethod y_X_least ∈ cA := cA_tbl (List.mem_of_getElem? (i := 389) (by decide +kernel)) rfl
theorem wd_390 : Cond.selects R_X y_X_least y_X_least ∈ cA := cA_tbl (List.mem_of_getElem? (i := 390) (by decide +kernel)) rfl
theorem wd_391 : Cond.code y_X_least b_X_least 2 (some .int) ∈ cA := cA_tbl (List.mem_of_getElem? (i := 391) (by decide +kernel)) rfl
theorem wd_392 : Cond.methodLink R_W 84 y_X_greatest ∈ cA := cA_tbl (List.mem_of_getElem? (i := 392) (by decide +kernel)) rfl
theorem wd_393 : Cond.instanceMethod y_X_greatest ∈ cA := cA_tbl (List.mem_of_getElem? (i := 393) (by decide +kernel)) rfl
theorem wd_394 : Cond.selects R_X y_X_greatest y_X_greatest ∈ cA := cA_tbl (List.mem_of_getElem? (i := 394) (by decide +kernel)) rfl
theorem wd_395 : Cond.code y_X_greatest b_X_greatest 2 (some .int) ∈ cA := cA_tbl (List.mem_of_getElem? (i := 395) (by decide +kernel)) rfl
theorem wd_396 : Cond.methodLink R_W 88 y_X_implies ∈ cA := cA_tbl (List.mem_of_getElem? (i := 396) (by decide +kernel)) rfl
theorem wd_397 : Cond.instanceMethod y_X_implies ∈ cA := cA_tbl (List.mem_of_getElem? (i := 397) (by decide +kernel)) rfl
theorem wd_398 : Cond.selects R_X y_X_implies y_X_implies ∈ cA := cA_tbl (List.mem_of_getElem? (i := 398) (by decide +kernel)) rfl
theorem wd_399 : Cond.code y_X_implies b_X_implies 3 (some .boolean) ∈ cA := cA_tbl (List.mem_of_getElem? (i := 399) (by decide +kernel)) rfl
theorem wd_400 : Cond.methodLink R_W 93 y_X_variables ∈ cA := cA_tbl (List.mem_of_getElem? (i := 400) (by decide +kernel)) rfl
theorem wd_401 : Cond.instanceMethod y_X_variables ∈ cA := cA_tbl (List.mem_of_getElem? (i := 401) (by decide +kernel)) rfl
theorem wd_402 : Cond.selects R_X y_X_variables y_X_variables ∈ cA := cA_tbl (List.mem_of_getElem? (i := 402) (by decide +kernel)) rfl
theorem wd_403 : Cond.code y_X_variables b_X_variables 1 (some .int) ∈ cA := cA_tbl (List.mem_of_getElem? (i := 403) (by decide +kernel)) rfl
theorem wd_404 : Cond.methodLink R_W 98 y_X_constraints ∈ cA := cA_tbl (List.mem_of_getElem? (i := 404) (by decide +kernel)) rfl
theorem wd_405 : Cond.instanceMethod y_X_constraints ∈ cA := cA_tbl (List.mem_of_getElem? (i := 405) (by decide +kernel)) rfl
theorem wd_406 : Cond.selects R_X y_X_constraints y_X_constraints ∈ cA := cA_tbl (List.mem_of_getElem? (i := 406) (by decide +kernel)) rfl
theorem wd_407 : Cond.code y_X_constraints b_X_constraints 1 (some .int) ∈ cA := cA_tbl (List.mem_of_getElem? (i := 407) (by decide +kernel)) rfl
theorem wd_408 : Cond.methodLink R_W 102 y_X_assumptions ∈ cA := cA_tbl (List.mem_of_getElem? (i := 408) (by decide +kernel)) rfl
theorem wd_409 : Cond.instanceMethod y_X_assumptions ∈ cA := cA_tbl (List.mem_of_getElem? (i := 409) (by decide +kernel)) rfl
theorem wd_410 : Cond.selects R_X y_X_assumptions y_X_assumptions ∈ cA := cA_tbl (List.mem_of_getElem? (i := 410) (by decide +kernel)) rfl
theorem wd_411 : Cond.code y_X_assumptions b_X_assumptions 1 (some .int) ∈ cA := cA_tbl (List.mem_of_getElem? (i := 411) (by decide +kernel)) rfl
theorem wd_412 : Cond.methodLink R_W 106 y_X_space ∈ cA := cA_tbl (List.mem_of_getElem? (i := 412) (by decide +kernel)) rfl
theorem wd_413 : Cond.instanceMethod y_X_space ∈ cA := cA_tbl (List.mem_of_getElem? (i := 413) (by decide +kernel)) rfl
theorem wd_414 : Cond.selects R_X y_X_space y_X_space ∈ cA := cA_tbl (List.mem_of_getElem? (i := 414) (by decide +kernel)) rfl
theorem wd_415 : Cond.code y_X_space b_X_space 1 (some .int) ∈ cA := cA_tbl (List.mem_of_getElem? (i := 415) (by decide +kernel)) rfl
theorem wd_416 : Cond.classLink R_W 10 R_O ∈ cA := cA_tbl (List.mem_of_getElem? (i := 416) (by decide +kernel)) rfl
theorem wd_417 : Cond.instantiable R_O 17 ∈ cA := cA_tbl (List.mem_of_getElem? (i := 417) (by decide +kernel)) rfl
theorem wd_418 : Cond.methodLink R_W 12 y_O_init ∈ cA := cA_tbl (List.mem_of_getElem? (i := 418) (by decide +kernel)) rfl
theorem wd_419 : Cond.instanceMethod y_O_init ∈ cA := cA_tbl (List.mem_of_getElem? (i := 419) (by decide +kernel)) rfl
theorem wd_420 : Cond.code y_O_init b_O_init 1 none ∈ cA := cA_tbl (List.mem_of_getElem? (i := 420) (by decide +kernel)) rfl
theorem wd_421 : Cond.methodLink R_O 1 objectInit ∈ cA := cA_tbl (List.mem_of_getElem? (i := 421) (by decide +kernel)) rfl
theorem wd_422 : Cond.fieldLink R_O 56 "ExplainingSolverModel" "count" "I" ∈ cA := cA_tbl (List.mem_of_getElem? (i := 422) (by decide +kernel)) rfl
theorem wd_423 : Cond.fieldLink R_O 7 "ExplainingSolverModel" "low" "[I" ∈ cA := cA_tbl (List.mem_of_getElem? (i := 423) (by decide +kernel)) rfl
theorem wd_424 : Cond.fieldLink R_O 13 "ExplainingSolverModel" "size" "[I" ∈ cA := cA_tbl (List.mem_of_getElem? (i := 424) (by decide +kernel)) rfl
theorem wd_425 : Cond.fieldLink R_O 16 "ExplainingSolverModel" "stride" "[I" ∈ cA := cA_tbl (List.mem_of_getElem? (i := 425) (by decide +kernel)) rfl
theorem wd_426 : Cond.fieldLink R_O 19 "ExplainingSolverModel" "space" "I" ∈ cA := cA_tbl (List.mem_of_getElem? (i := 426) (by decide +kernel)) rfl
theorem wd_427 : Cond.fieldLink R_O 66 "ExplainingSolverModel" "rows" "I" ∈ cA := cA_tbl (List.mem_of_getElem? (i := 427) (by decide +kernel)) rfl
theorem wd_428 : Cond.fieldLink R_O 23 "ExplainingSolverModel" "kind" "[I" ∈ cA := cA_tbl (List.mem_of_getElem? (i := 428) (by decide +kernel)) rfl
theorem wd_429 : Cond.fieldLink R_O 26 "ExplainingSolverModel" "part" "[I" ∈ cA := cA_tbl (List.mem_of_getElem? (i := 429) (by decide +kernel)) rfl
theorem wd_430 : Cond.fieldLink R_O 29 "ExplainingSolverModel" "wide" "[J" ∈ cA := cA_tbl (List.mem_of_getElem? (i := 430) (by decide +kernel)) rfl
theorem wd_431 : Cond.fieldLink R_O 87 "ExplainingSolverModel" "piled" "I" ∈ cA := cA_tbl (List.mem_of_getElem? (i := 431) (by decide +kernel)) rfl
theorem wd_432 : Cond.fieldLink R_O 33 "ExplainingSolverModel" "assumed" "[I" ∈ cA := cA_tbl (List.mem_of_getElem? (i := 432) (by decide +kernel)) rfl
theorem wd_433 : Cond.fieldLink R_O 36 "ExplainingSolverModel" "from" "[I" ∈ cA := cA_tbl (List.mem_of_getElem? (i := 433) (by decide +kernel)) rfl
theorem wd_434 : Cond.fieldLink R_O 39 "ExplainingSolverModel" "to" "[I" ∈ cA := cA_tbl (List.mem_of_getElem? (i := 434) (by decide +kernel)) rfl
theorem wd_435 : Cond.fieldLink R_O 52 "ExplainingSolverModel" "known" "Z" ∈ cA := cA_tbl (List.mem_of_getElem? (i := 435) (by decide +kernel)) rfl
theorem wd_436 : Cond.fieldLink R_O 42 "ExplainingSolverModel" "holds" "[Z" ∈ cA := cA_tbl (List.mem_of_getElem? (i := 436) (by decide +kernel)) rfl
theorem wd_437 : Cond.fieldLink R_O 46 "ExplainingSolverModel" "answer" "I" ∈ cA := cA_tbl (List.mem_of_getElem? (i := 437) (by decide +kernel)) rfl
theorem wd_438 : Cond.fieldLink R_O 49 "ExplainingSolverModel" "x" "[I" ∈ cA := cA_tbl (List.mem_of_getElem? (i := 438) (by decide +kernel)) rfl
theorem wd_439 : Cond.lays "ExplainingSolverModel" "ExplainingSolverModel" "count" "I" ∈ cA := cA_tbl (List.mem_of_getElem? (i := 439) (by decide +kernel)) rfl
theorem wd_441 : Cond.laysFinal "ExplainingSolverModel" "ExplainingSolverModel" "low" "[I" ∈ cA := cA_tbl (List.mem_of_getElem? (i := 441) (by decide +kernel)) rfl
theorem wd_443 : Cond.laysFinal "ExplainingSolverModel" "ExplainingSolverModel" "size" "[I" ∈ cA := cA_tbl (List.mem_of_getElem? (i := 443) (by decide +kernel)) rfl
theorem wd_445 : Cond.laysFinal "ExplainingSolverModel" "ExplainingSolverModel" "stride" "[I" ∈ cA := cA_tbl (List.mem_of_getElem? (i := 445) (by decide +kernel)) rfl
theorem wd_447 : Cond.lays "ExplainingSolverModel" "ExplainingSolverModel" "space" "I" ∈ cA := cA_tbl (List.mem_of_getElem? (i := 447) (by decide +kernel)) rfl
theorem wd_449 : Cond.lays "ExplainingSolverModel" "ExplainingSolverModel" "rows" "I" ∈ cA := cA_tbl (List.mem_of_getElem? (i := 449) (by decide +kernel)) rfl
theorem wd_451 : Cond.laysFinal "ExplainingSolverModel" "ExplainingSolverModel" "kind" "[I" ∈ cA := cA_tbl (List.mem_of_getElem? (i := 451) (by decide +kernel)) rfl
theorem wd_453 : Cond.laysFinal "ExplainingSolverModel" "ExplainingSolverModel" "part" "[I" ∈ cA := cA_tbl (List.mem_of_getElem? (i := 453) (by decide +kernel)) rfl
theorem wd_455 : Cond.laysFinal "ExplainingSolverModel" "ExplainingSolverModel" "wide" "[J" ∈ cA := cA_tbl (List.mem_of_getElem? (i := 455) (by decide +kernel)) rfl
theorem wd_457 : Cond.lays "ExplainingSolverModel" "ExplainingSolverModel" "piled" "I" ∈ cA := cA_tbl (List.mem_of_getElem? (i := 457) (by decide +kernel)) rfl
theorem wd_459 : Cond.laysFinal "ExplainingSolverModel" "ExplainingSolverModel" "assumed" "[I" ∈ cA := cA_tbl (List.mem_of_getElem? (i := 459) (by decide +kernel)) rfl
theorem wd_461 : Cond.laysFinal "ExplainingSolverModel" "ExplainingSolverModel" "from" "[I" ∈ cA := cA_tbl (List.mem_of_getElem? (i := 461) (by decide +kernel)) rfl
theorem wd_463 : Cond.laysFinal "ExplainingSolverModel" "ExplainingSolverModel" "to" "[I" ∈ cA := cA_tbl (List.mem_of_getElem? (i := 463) (by decide +kernel)) rfl
theorem wd_465 : Cond.lays "ExplainingSolverModel" "ExplainingSolverModel" "known" "Z" ∈ cA := cA_tbl (List.mem_of_getElem? (i := 465) (by decide +kernel)) rfl
theorem wd_467 : Cond.laysFinal "ExplainingSolverModel" "ExplainingSolverModel" "holds" "[Z" ∈ cA := cA_tbl (List.mem_of_getElem? (i := 467) (by decide +kernel)) rfl
theorem wd_469 : Cond.lays "ExplainingSolverModel" "ExplainingSolverModel" "answer" "I" ∈ cA := cA_tbl (List.mem_of_getElem? (i := 469) (by decide +kernel)) rfl
theorem wd_471 : Cond.laysFinal "ExplainingSolverModel" "ExplainingSolverModel" "x" "[I" ∈ cA := cA_tbl (List.mem_of_getElem? (i := 471) (by decide +kernel)) rfl
theorem wd_474 : Cond.arrayClass .long ∈ cA := cA_tbl (List.mem_of_getElem? (i := 474) (by decide +kernel)) rfl
theorem wd_475 : Cond.arrayClass .boolean ∈ cA := cA_tbl (List.mem_of_getElem? (i := 475) (by decide +kernel)) rfl
theorem wd_476 : Cond.methodLink R_W 17 y_O_variable ∈ cA := cA_tbl (List.mem_of_getElem? (i := 476) (by decide +kernel)) rfl
theorem wd_477 : Cond.instanceMethod y_O_variable ∈ cA := cA_tbl (List.mem_of_getElem? (i := 477) (by decide +kernel)) rfl
theorem wd_478 : Cond.selects R_O y_O_variable y_O_variable ∈ cA := cA_tbl (List.mem_of_getElem? (i := 478) (by decide +kernel)) rfl
theorem wd_479 : Cond.code y_O_variable b_O_variable 5 (some .int) ∈ cA := cA_tbl (List.mem_of_getElem? (i := 479) (by decide +kernel)) rfl
theorem wd_480 : Cond.methodLink R_O 63 y_O_changed ∈ cA := cA_tbl (List.mem_of_getElem? (i := 480) (by decide +kernel)) rfl
theorem wd_482 : Cond.instanceMethod y_O_changed ∈ cA := cA_tbl (List.mem_of_getElem? (i := 482) (by decide +kernel)) rfl
theorem wd_483 : Cond.code y_O_changed b_O_changed 1 none ∈ cA := cA_tbl (List.mem_of_getElem? (i := 483) (by decide +kernel)) rfl
theorem wd_484 : Cond.methodLink R_W 22 y_O_linear ∈ cA := cA_tbl (List.mem_of_getElem? (i := 484) (by decide +kernel)) rfl
theorem wd_485 : Cond.instanceMethod y_O_linear ∈ cA := cA_tbl (List.mem_of_getElem? (i := 485) (by decide +kernel)) rfl
theorem wd_486 : Cond.selects R_O y_O_linear y_O_linear ∈ cA := cA_tbl (List.mem_of_getElem? (i := 486) (by decide +kernel)) rfl
theorem wd_487 : Cond.code y_O_linear b_O_linear 10 (some .int) ∈ cA := cA_tbl (List.mem_of_getElem? (i := 487) (by decide +kernel)) rfl
theorem wd_488 : Cond.methodLink R_O 69 y_O_isPart ∈ cA := cA_tbl (List.mem_of_getElem? (i := 488) (by decide +kernel)) rfl
theorem wd_490 : Cond.instanceMethod y_O_isPart ∈ cA := cA_tbl (List.mem_of_getElem? (i := 490) (by decide +kernel)) rfl
theorem wd_491 : Cond.code y_O_isPart b_O_isPart 2 (some .boolean) ∈ cA := cA_tbl (List.mem_of_getElem? (i := 491) (by decide +kernel)) rfl
theorem wd_492 : Cond.methodLink R_O 59 y_O_isVariable ∈ cA := cA_tbl (List.mem_of_getElem? (i := 492) (by decide +kernel)) rfl
theorem wd_494 : Cond.instanceMethod y_O_isVariable ∈ cA := cA_tbl (List.mem_of_getElem? (i := 494) (by decide +kernel)) rfl
theorem wd_495 : Cond.code y_O_isVariable b_O_isVariable 2 (some .boolean) ∈ cA := cA_tbl (List.mem_of_getElem? (i := 495) (by decide +kernel)) rfl
theorem wd_496 : Cond.methodLink R_O 72 y_O_within ∈ cA := cA_tbl (List.mem_of_getElem? (i := 496) (by decide +kernel)) rfl
theorem wd_497 : Cond.static y_O_within ∈ cA := cA_tbl (List.mem_of_getElem? (i := 497) (by decide +kernel)) rfl
theorem wd_498 : Cond.code y_O_within b_O_within 3 (some .boolean) ∈ cA := cA_tbl (List.mem_of_getElem? (i := 498) (by decide +kernel)) rfl
theorem wd_499 : Cond.methodLink R_O 76 y_O_add ∈ cA := cA_tbl (List.mem_of_getElem? (i := 499) (by decide +kernel)) rfl
theorem wd_501 : Cond.instanceMethod y_O_add ∈ cA := cA_tbl (List.mem_of_getElem? (i := 501) (by decide +kernel)) rfl
theorem wd_502 : Cond.code y_O_add b_O_add 7 (some .int) ∈ cA := cA_tbl (List.mem_of_getElem? (i := 502) (by decide +kernel)) rfl
theorem wd_503 : Cond.methodLink R_O 80 y_O_set ∈ cA := cA_tbl (List.mem_of_getElem? (i := 503) (by decide +kernel)) rfl
theorem wd_505 : Cond.instanceMethod y_O_set ∈ cA := cA_tbl (List.mem_of_getElem? (i := 505) (by decide +kernel)) rfl
theorem wd_506 : Cond.code y_O_set b_O_set 4 none ∈ cA := cA_tbl (List.mem_of_getElem? (i := 506) (by decide +kernel)) rfl
theorem wd_507 : Cond.methodLink R_W 27 y_O_reified ∈ cA := cA_tbl (List.mem_of_getElem? (i := 507) (by decide +kernel)) rfl
theorem wd_508 : Cond.instanceMethod y_O_reified ∈ cA := cA_tbl (List.mem_of_getElem? (i := 508) (by decide +kernel)) rfl
theorem wd_509 : Cond.selects R_O y_O_reified y_O_reified ∈ cA := cA_tbl (List.mem_of_getElem? (i := 509) (by decide +kernel)) rfl
theorem wd_510 : Cond.code y_O_reified b_O_reified 6 (some .int) ∈ cA := cA_tbl (List.mem_of_getElem? (i := 510) (by decide +kernel)) rfl
theorem wd_511 : Cond.methodLink R_W 31 y_O_maximum ∈ cA := cA_tbl (List.mem_of_getElem? (i := 511) (by decide +kernel)) rfl
theorem wd_512 : Cond.instanceMethod y_O_maximum ∈ cA := cA_tbl (List.mem_of_getElem? (i := 512) (by decide +kernel)) rfl
theorem wd_513 : Cond.selects R_O y_O_maximum y_O_maximum ∈ cA := cA_tbl (List.mem_of_getElem? (i := 513) (by decide +kernel)) rfl
theorem wd_514 : Cond.code y_O_maximum b_O_maximum 6 (some .int) ∈ cA := cA_tbl (List.mem_of_getElem? (i := 514) (by decide +kernel)) rfl
theorem wd_515 : Cond.methodLink R_W 38 y_O_element ∈ cA := cA_tbl (List.mem_of_getElem? (i := 515) (by decide +kernel)) rfl
theorem wd_516 : Cond.instanceMethod y_O_element ∈ cA := cA_tbl (List.mem_of_getElem? (i := 516) (by decide +kernel)) rfl
theorem wd_517 : Cond.selects R_O y_O_element y_O_element ∈ cA := cA_tbl (List.mem_of_getElem? (i := 517) (by decide +kernel)) rfl
theorem wd_518 : Cond.code y_O_element b_O_element 6 (some .int) ∈ cA := cA_tbl (List.mem_of_getElem? (i := 518) (by decide +kernel)) rfl
theorem wd_519 : Cond.methodLink R_W 43 y_O_different ∈ cA := cA_tbl (List.mem_of_getElem? (i := 519) (by decide +kernel)) rfl
theorem wd_520 : Cond.instanceMethod y_O_different ∈ cA := cA_tbl (List.mem_of_getElem? (i := 520) (by decide +kernel)) rfl
theorem wd_521 : Cond.selects R_O y_O_different y_O_different ∈ cA := cA_tbl (List.mem_of_getElem? (i := 521) (by decide +kernel)) rfl
theorem wd_522 : Cond.code y_O_different b_O_different 3 (some .int) ∈ cA := cA_tbl (List.mem_of_getElem? (i := 522) (by decide +kernel)) rfl
theorem wd_523 : Cond.methodLink R_O 84 y_O_isSet ∈ cA := cA_tbl (List.mem_of_getElem? (i := 523) (by decide +kernel)) rfl
theorem wd_525 : Cond.instanceMethod y_O_isSet ∈ cA := cA_tbl (List.mem_of_getElem? (i := 525) (by decide +kernel)) rfl
theorem wd_526 : Cond.code y_O_isSet b_O_isSet 2 (some .boolean) ∈ cA := cA_tbl (List.mem_of_getElem? (i := 526) (by decide +kernel)) rfl
theorem wd_527 : Cond.methodLink R_W 48 y_O_cumulative ∈ cA := cA_tbl (List.mem_of_getElem? (i := 527) (by decide +kernel)) rfl
theorem wd_528 : Cond.instanceMethod y_O_cumulative ∈ cA := cA_tbl (List.mem_of_getElem? (i := 528) (by decide +kernel)) rfl
theorem wd_529 : Cond.selects R_O y_O_cumulative y_O_cumulative ∈ cA := cA_tbl (List.mem_of_getElem? (i := 529) (by decide +kernel)) rfl
theorem wd_530 : Cond.code y_O_cumulative b_O_cumulative 8 (some .int) ∈ cA := cA_tbl (List.mem_of_getElem? (i := 530) (by decide +kernel)) rfl
theorem wd_531 : Cond.methodLink R_W 52 y_O_clause ∈ cA := cA_tbl (List.mem_of_getElem? (i := 531) (by decide +kernel)) rfl
theorem wd_532 : Cond.instanceMethod y_O_clause ∈ cA := cA_tbl (List.mem_of_getElem? (i := 532) (by decide +kernel)) rfl
theorem wd_533 : Cond.selects R_O y_O_clause y_O_clause ∈ cA := cA_tbl (List.mem_of_getElem? (i := 533) (by decide +kernel)) rfl
theorem wd_534 : Cond.code y_O_clause b_O_clause 10 (some .int) ∈ cA := cA_tbl (List.mem_of_getElem? (i := 534) (by decide +kernel)) rfl
theorem wd_535 : Cond.methodLink R_W 57 y_O_drop ∈ cA := cA_tbl (List.mem_of_getElem? (i := 535) (by decide +kernel)) rfl
theorem wd_536 : Cond.instanceMethod y_O_drop ∈ cA := cA_tbl (List.mem_of_getElem? (i := 536) (by decide +kernel)) rfl
theorem wd_537 : Cond.selects R_O y_O_drop y_O_drop ∈ cA := cA_tbl (List.mem_of_getElem? (i := 537) (by decide +kernel)) rfl
theorem wd_538 : Cond.code y_O_drop b_O_drop 1 (some .boolean) ∈ cA := cA_tbl (List.mem_of_getElem? (i := 538) (by decide +kernel)) rfl
theorem wd_539 : Cond.methodLink R_W 62 y_O_assume ∈ cA := cA_tbl (List.mem_of_getElem? (i := 539) (by decide +kernel)) rfl
theorem wd_540 : Cond.instanceMethod y_O_assume ∈ cA := cA_tbl (List.mem_of_getElem? (i := 540) (by decide +kernel)) rfl
theorem wd_541 : Cond.selects R_O y_O_assume y_O_assume ∈ cA := cA_tbl (List.mem_of_getElem? (i := 541) (by decide +kernel)) rfl
theorem wd_542 : Cond.code y_O_assume b_O_assume 4 (some .boolean) ∈ cA := cA_tbl (List.mem_of_getElem? (i := 542) (by decide +kernel)) rfl
theorem wd_543 : Cond.methodLink R_W 66 y_O_retract ∈ cA := cA_tbl (List.mem_of_getElem? (i := 543) (by decide +kernel)) rfl
theorem wd_544 : Cond.instanceMethod y_O_retract ∈ cA := cA_tbl (List.mem_of_getElem? (i := 544) (by decide +kernel)) rfl
theorem wd_545 : Cond.selects R_O y_O_retract y_O_retract ∈ cA := cA_tbl (List.mem_of_getElem? (i := 545) (by decide +kernel)) rfl
theorem wd_546 : Cond.code y_O_retract b_O_retract 1 (some .boolean) ∈ cA := cA_tbl (List.mem_of_getElem? (i := 546) (by decide +kernel)) rfl
theorem wd_547 : Cond.methodLink R_W 70 y_O_solve ∈ cA := cA_tbl (List.mem_of_getElem? (i := 547) (by decide +kernel)) rfl
theorem wd_548 : Cond.instanceMethod y_O_solve ∈ cA := cA_tbl (List.mem_of_getElem? (i := 548) (by decide +kernel)) rfl
theorem wd_549 : Cond.selects R_O y_O_solve y_O_solve ∈ cA := cA_tbl (List.mem_of_getElem? (i := 549) (by decide +kernel)) rfl
theorem wd_550 : Cond.code y_O_solve b_O_solve 1 (some .boolean) ∈ cA := cA_tbl (List.mem_of_getElem? (i := 550) (by decide +kernel)) rfl
theorem wd_551 : Cond.methodLink R_O 135 y_O_first ∈ cA := cA_tbl (List.mem_of_getElem? (i := 551) (by decide +kernel)) rfl
theorem wd_553 : Cond.instanceMethod y_O_first ∈ cA := cA_tbl (List.mem_of_getElem? (i := 553) (by decide +kernel)) rfl
theorem wd_554 : Cond.code y_O_first b_O_first 4 (some .int) ∈ cA := cA_tbl (List.mem_of_getElem? (i := 554) (by decide +kernel)) rfl
theorem wd_555 : Cond.methodLink R_O 132 y_O_look ∈ cA := cA_tbl (List.mem_of_getElem? (i := 555) (by decide +kernel)) rfl
theorem wd_557 : Cond.instanceMethod y_O_look ∈ cA := cA_tbl (List.mem_of_getElem? (i := 557) (by decide +kernel)) rfl
theorem wd_558 : Cond.code y_O_look b_O_look 3 none ∈ cA := cA_tbl (List.mem_of_getElem? (i := 558) (by decide +kernel)) rfl
theorem wd_559 : Cond.methodLink R_O 125 y_O_valueIn ∈ cA := cA_tbl (List.mem_of_getElem? (i := 559) (by decide +kernel)) rfl
theorem wd_561 : Cond.instanceMethod y_O_valueIn ∈ cA := cA_tbl (List.mem_of_getElem? (i := 561) (by decide +kernel)) rfl
theorem wd_562 : Cond.code y_O_valueIn b_O_valueIn 3 (some .int) ∈ cA := cA_tbl (List.mem_of_getElem? (i := 562) (by decide +kernel)) rfl
theorem wd_563 : Cond.methodLink R_O 128 y_O_all ∈ cA := cA_tbl (List.mem_of_getElem? (i := 563) (by decide +kernel)) rfl
theorem wd_565 : Cond.instanceMethod y_O_all ∈ cA := cA_tbl (List.mem_of_getElem? (i := 565) (by decide +kernel)) rfl
theorem wd_566 : Cond.code y_O_all b_O_all 3 (some .boolean) ∈ cA := cA_tbl (List.mem_of_getElem? (i := 566) (by decide +kernel)) rfl
theorem wd_567 : Cond.methodLink R_O 122 y_O_satisfied ∈ cA := cA_tbl (List.mem_of_getElem? (i := 567) (by decide +kernel)) rfl
theorem wd_569 : Cond.instanceMethod y_O_satisfied ∈ cA := cA_tbl (List.mem_of_getElem? (i := 569) (by decide +kernel)) rfl
theorem wd_570 : Cond.code y_O_satisfied b_O_satisfied 2 (some .boolean) ∈ cA := cA_tbl (List.mem_of_getElem? (i := 570) (by decide +kernel)) rfl
theorem wd_571 : Cond.methodLink R_O 90 y_O_of ∈ cA := cA_tbl (List.mem_of_getElem? (i := 571) (by decide +kernel)) rfl
theorem wd_573 : Cond.instanceMethod y_O_of ∈ cA := cA_tbl (List.mem_of_getElem? (i := 573) (by decide +kernel)) rfl
theorem wd_574 : Cond.code y_O_of b_O_of 3 (some .int) ∈ cA := cA_tbl (List.mem_of_getElem? (i := 574) (by decide +kernel)) rfl
theorem wd_575 : Cond.methodLink R_O 103 y_O_times ∈ cA := cA_tbl (List.mem_of_getElem? (i := 575) (by decide +kernel)) rfl
theorem wd_577 : Cond.instanceMethod y_O_times ∈ cA := cA_tbl (List.mem_of_getElem? (i := 577) (by decide +kernel)) rfl
theorem wd_578 : Cond.code y_O_times b_O_times 3 (some .int) ∈ cA := cA_tbl (List.mem_of_getElem? (i := 578) (by decide +kernel)) rfl
theorem wd_579 : Cond.methodLink R_O 106 y_O_greatestOf ∈ cA := cA_tbl (List.mem_of_getElem? (i := 579) (by decide +kernel)) rfl
theorem wd_581 : Cond.instanceMethod y_O_greatestOf ∈ cA := cA_tbl (List.mem_of_getElem? (i := 581) (by decide +kernel)) rfl
theorem wd_582 : Cond.code y_O_greatestOf b_O_greatestOf 5 (some .int) ∈ cA := cA_tbl (List.mem_of_getElem? (i := 582) (by decide +kernel)) rfl
theorem wd_583 : Cond.methodLink R_O 110 y_O_entryIs ∈ cA := cA_tbl (List.mem_of_getElem? (i := 583) (by decide +kernel)) rfl
theorem wd_585 : Cond.instanceMethod y_O_entryIs ∈ cA := cA_tbl (List.mem_of_getElem? (i := 585) (by decide +kernel)) rfl
theorem wd_586 : Cond.code y_O_entryIs b_O_entryIs 4 (some .boolean) ∈ cA := cA_tbl (List.mem_of_getElem? (i := 586) (by decide +kernel)) rfl
theorem wd_587 : Cond.methodLink R_O 113 y_O_differ ∈ cA := cA_tbl (List.mem_of_getElem? (i := 587) (by decide +kernel)) rfl
theorem wd_589 : Cond.instanceMethod y_O_differ ∈ cA := cA_tbl (List.mem_of_getElem? (i := 589) (by decide +kernel)) rfl
theorem wd_590 : Cond.code y_O_differ b_O_differ 6 (some .boolean) ∈ cA := cA_tbl (List.mem_of_getElem? (i := 590) (by decide +kernel)) rfl
theorem wd_591 : Cond.methodLink R_O 116 y_O_fits ∈ cA := cA_tbl (List.mem_of_getElem? (i := 591) (by decide +kernel)) rfl
theorem wd_593 : Cond.instanceMethod y_O_fits ∈ cA := cA_tbl (List.mem_of_getElem? (i := 593) (by decide +kernel)) rfl
theorem wd_594 : Cond.code y_O_fits b_O_fits 4 (some .boolean) ∈ cA := cA_tbl (List.mem_of_getElem? (i := 594) (by decide +kernel)) rfl
theorem wd_595 : Cond.methodLink R_O 100 y_O_needed ∈ cA := cA_tbl (List.mem_of_getElem? (i := 595) (by decide +kernel)) rfl
theorem wd_597 : Cond.instanceMethod y_O_needed ∈ cA := cA_tbl (List.mem_of_getElem? (i := 597) (by decide +kernel)) rfl
theorem wd_598 : Cond.code y_O_needed b_O_needed 7 (some .int) ∈ cA := cA_tbl (List.mem_of_getElem? (i := 598) (by decide +kernel)) rfl
theorem wd_599 : Cond.methodLink R_O 96 y_O_nibble ∈ cA := cA_tbl (List.mem_of_getElem? (i := 599) (by decide +kernel)) rfl
theorem wd_600 : Cond.static y_O_nibble ∈ cA := cA_tbl (List.mem_of_getElem? (i := 600) (by decide +kernel)) rfl
theorem wd_601 : Cond.code y_O_nibble b_O_nibble 3 (some .int) ∈ cA := cA_tbl (List.mem_of_getElem? (i := 601) (by decide +kernel)) rfl
theorem wd_602 : Cond.constantLong R_O 94 (15 : Int64) ∈ cA := cA_tbl (List.mem_of_getElem? (i := 602) (by decide +kernel)) rfl
theorem wd_603 : Cond.methodLink R_O 119 y_O_anyPart ∈ cA := cA_tbl (List.mem_of_getElem? (i := 603) (by decide +kernel)) rfl
theorem wd_605 : Cond.instanceMethod y_O_anyPart ∈ cA := cA_tbl (List.mem_of_getElem? (i := 605) (by decide +kernel)) rfl
theorem wd_606 : Cond.code y_O_anyPart b_O_anyPart 7 (some .boolean) ∈ cA := cA_tbl (List.mem_of_getElem? (i := 606) (by decide +kernel)) rfl
theorem wd_607 : Cond.methodLink R_W 75 y_O_best ∈ cA := cA_tbl (List.mem_of_getElem? (i := 607) (by decide +kernel)) rfl
theorem wd_608 : Cond.instanceMethod y_O_best ∈ cA := cA_tbl (List.mem_of_getElem? (i := 608) (by decide +kernel)) rfl
theorem wd_609 : Cond.selects R_O y_O_best y_O_best ∈ cA := cA_tbl (List.mem_of_getElem? (i := 609) (by decide +kernel)) rfl
theorem wd_610 : Cond.code y_O_best b_O_best 4 (some .boolean) ∈ cA := cA_tbl (List.mem_of_getElem? (i := 610) (by decide +kernel)) rfl
theorem wd_611 : Cond.methodLink R_O 138 y_O_extreme ∈ cA := cA_tbl (List.mem_of_getElem? (i := 611) (by decide +kernel)) rfl
theorem wd_613 : Cond.instanceMethod y_O_extreme ∈ cA := cA_tbl (List.mem_of_getElem? (i := 613) (by decide +kernel)) rfl
theorem wd_614 : Cond.code y_O_extreme b_O_extreme 7 (some .int) ∈ cA := cA_tbl (List.mem_of_getElem? (i := 614) (by decide +kernel)) rfl
theorem wd_615 : Cond.methodLink R_W 79 y_O_value ∈ cA := cA_tbl (List.mem_of_getElem? (i := 615) (by decide +kernel)) rfl
theorem wd_616 : Cond.instanceMethod y_O_value ∈ cA := cA_tbl (List.mem_of_getElem? (i := 616) (by decide +kernel)) rfl
theorem wd_617 : Cond.selects R_O y_O_value y_O_value ∈ cA := cA_tbl (List.mem_of_getElem? (i := 617) (by decide +kernel)) rfl
theorem wd_618 : Cond.code y_O_value b_O_value 2 (some .int) ∈ cA := cA_tbl (List.mem_of_getElem? (i := 618) (by decide +kernel)) rfl
theorem wd_619 : Cond.methodLink R_W 83 y_O_least ∈ cA := cA_tbl (List.mem_of_getElem? (i := 619) (by decide +kernel)) rfl
theorem wd_620 : Cond.instanceMethod y_O_least ∈ cA := cA_tbl (List.mem_of_getElem? (i := 620) (by decide +kernel)) rfl
theorem wd_621 : Cond.selects R_O y_O_least y_O_least ∈ cA := cA_tbl (List.mem_of_getElem? (i := 621) (by decide +kernel)) rfl
theorem wd_622 : Cond.code y_O_least b_O_least 2 (some .int) ∈ cA := cA_tbl (List.mem_of_getElem? (i := 622) (by decide +kernel)) rfl
theorem wd_623 : Cond.methodLink R_W 87 y_O_greatest ∈ cA := cA_tbl (List.mem_of_getElem? (i := 623) (by decide +kernel)) rfl
theorem wd_624 : Cond.instanceMethod y_O_greatest ∈ cA := cA_tbl (List.mem_of_getElem? (i := 624) (by decide +kernel)) rfl
theorem wd_625 : Cond.selects R_O y_O_greatest y_O_greatest ∈ cA := cA_tbl (List.mem_of_getElem? (i := 625) (by decide +kernel)) rfl
theorem wd_626 : Cond.code y_O_greatest b_O_greatest 2 (some .int) ∈ cA := cA_tbl (List.mem_of_getElem? (i := 626) (by decide +kernel)) rfl
theorem wd_627 : Cond.methodLink R_W 92 y_O_implies ∈ cA := cA_tbl (List.mem_of_getElem? (i := 627) (by decide +kernel)) rfl
theorem wd_628 : Cond.instanceMethod y_O_implies ∈ cA := cA_tbl (List.mem_of_getElem? (i := 628) (by decide +kernel)) rfl
theorem wd_629 : Cond.selects R_O y_O_implies y_O_implies ∈ cA := cA_tbl (List.mem_of_getElem? (i := 629) (by decide +kernel)) rfl
theorem wd_630 : Cond.code y_O_implies b_O_implies 4 (some .boolean) ∈ cA := cA_tbl (List.mem_of_getElem? (i := 630) (by decide +kernel)) rfl
theorem wd_631 : Cond.methodLink R_W 97 y_O_variables ∈ cA := cA_tbl (List.mem_of_getElem? (i := 631) (by decide +kernel)) rfl
theorem wd_632 : Cond.instanceMethod y_O_variables ∈ cA := cA_tbl (List.mem_of_getElem? (i := 632) (by decide +kernel)) rfl
theorem wd_633 : Cond.selects R_O y_O_variables y_O_variables ∈ cA := cA_tbl (List.mem_of_getElem? (i := 633) (by decide +kernel)) rfl
theorem wd_634 : Cond.code y_O_variables b_O_variables 1 (some .int) ∈ cA := cA_tbl (List.mem_of_getElem? (i := 634) (by decide +kernel)) rfl
theorem wd_635 : Cond.methodLink R_W 101 y_O_constraints ∈ cA := cA_tbl (List.mem_of_getElem? (i := 635) (by decide +kernel)) rfl
theorem wd_636 : Cond.instanceMethod y_O_constraints ∈ cA := cA_tbl (List.mem_of_getElem? (i := 636) (by decide +kernel)) rfl
theorem wd_637 : Cond.selects R_O y_O_constraints y_O_constraints ∈ cA := cA_tbl (List.mem_of_getElem? (i := 637) (by decide +kernel)) rfl
theorem wd_638 : Cond.code y_O_constraints b_O_constraints 1 (some .int) ∈ cA := cA_tbl (List.mem_of_getElem? (i := 638) (by decide +kernel)) rfl
theorem wd_639 : Cond.methodLink R_W 105 y_O_assumptions ∈ cA := cA_tbl (List.mem_of_getElem? (i := 639) (by decide +kernel)) rfl
theorem wd_640 : Cond.instanceMethod y_O_assumptions ∈ cA := cA_tbl (List.mem_of_getElem? (i := 640) (by decide +kernel)) rfl
theorem wd_641 : Cond.selects R_O y_O_assumptions y_O_assumptions ∈ cA := cA_tbl (List.mem_of_getElem? (i := 641) (by decide +kernel)) rfl
theorem wd_642 : Cond.code y_O_assumptions b_O_assumptions 1 (some .int) ∈ cA := cA_tbl (List.mem_of_getElem? (i := 642) (by decide +kernel)) rfl
theorem wd_643 : Cond.methodLink R_W 109 y_O_space ∈ cA := cA_tbl (List.mem_of_getElem? (i := 643) (by decide +kernel)) rfl
theorem wd_644 : Cond.instanceMethod y_O_space ∈ cA := cA_tbl (List.mem_of_getElem? (i := 644) (by decide +kernel)) rfl
theorem wd_645 : Cond.selects R_O y_O_space y_O_space ∈ cA := cA_tbl (List.mem_of_getElem? (i := 645) (by decide +kernel)) rfl
theorem wd_646 : Cond.code y_O_space b_O_space 1 (some .int) ∈ cA := cA_tbl (List.mem_of_getElem? (i := 646) (by decide +kernel)) rfl
theorem wd_647 : Cond.constantLong R_W 32 (4294967295 : Int64) ∈ cA := cA_tbl (List.mem_of_getElem? (i := 647) (by decide +kernel)) rfl
end
