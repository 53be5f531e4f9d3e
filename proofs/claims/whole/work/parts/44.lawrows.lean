theorem qh_119 : Cond.methodLink R_law 13 y_S_create ∈ qa_WG := qa_in (List.mem_append_right _ (List.mem_of_getElem? (i := 119) (by decide +kernel))) rfl
theorem qh_120 : Cond.instanceMethod y_S_create ∈ qa_WG := qa_in (List.mem_append_right _ (List.mem_of_getElem? (i := 120) (by decide +kernel))) rfl
theorem qh_121 : Cond.selects R_S y_S_create y_S_create ∈ qa_WG := qa_in (List.mem_append_right _ (List.mem_of_getElem? (i := 121) (by decide +kernel))) rfl
theorem qh_122 : Cond.code y_S_create prog_1_method_2_code 3 (Option.some Jvm.ClassFile.FieldType.int) ∈ qa_WG := qa_in (List.mem_append_right _ (List.mem_of_getElem? (i := 122) (by decide +kernel))) rfl
theorem qh_490 : Cond.methodLink R_law 17 y_M_create ∈ qa_WG := qa_in (List.mem_append_right _ (List.mem_of_getElem? (i := 490) (by decide +kernel))) rfl
theorem qh_491 : Cond.instanceMethod y_M_create ∈ qa_WG := qa_in (List.mem_append_right _ (List.mem_of_getElem? (i := 491) (by decide +kernel))) rfl
theorem qh_492 : Cond.selects R_M y_M_create y_M_create ∈ qa_WG := qa_in (List.mem_append_right _ (List.mem_of_getElem? (i := 492) (by decide +kernel))) rfl
theorem qh_493 : Cond.code y_M_create prog_6_method_18_code 3 (Option.some Jvm.ClassFile.FieldType.int) ∈ qa_WG := qa_in (List.mem_append_right _ (List.mem_of_getElem? (i := 493) (by decide +kernel))) rfl
theorem qh_285 : Cond.methodLink R_law 18 y_S_write ∈ qa_WG := qa_in (List.mem_append_right _ (List.mem_of_getElem? (i := 285) (by decide +kernel))) rfl
theorem qh_286 : Cond.instanceMethod y_S_write ∈ qa_WG := qa_in (List.mem_append_right _ (List.mem_of_getElem? (i := 286) (by decide +kernel))) rfl
theorem qh_287 : Cond.selects R_S y_S_write y_S_write ∈ qa_WG := qa_in (List.mem_append_right _ (List.mem_of_getElem? (i := 287) (by decide +kernel))) rfl
theorem qh_288 : Cond.code y_S_write prog_1_method_3_code 5 (Option.some Jvm.ClassFile.FieldType.int) ∈ qa_WG := qa_in (List.mem_append_right _ (List.mem_of_getElem? (i := 288) (by decide +kernel))) rfl
theorem qh_522 : Cond.methodLink R_law 22 y_M_write ∈ qa_WG := qa_in (List.mem_append_right _ (List.mem_of_getElem? (i := 522) (by decide +kernel))) rfl
theorem qh_523 : Cond.instanceMethod y_M_write ∈ qa_WG := qa_in (List.mem_append_right _ (List.mem_of_getElem? (i := 523) (by decide +kernel))) rfl
theorem qh_524 : Cond.selects R_M y_M_write y_M_write ∈ qa_WG := qa_in (List.mem_append_right _ (List.mem_of_getElem? (i := 524) (by decide +kernel))) rfl
theorem qh_525 : Cond.code y_M_write prog_6_method_19_code 5 (Option.some Jvm.ClassFile.FieldType.int) ∈ qa_WG := qa_in (List.mem_append_right _ (List.mem_of_getElem? (i := 525) (by decide +kernel))) rfl
theorem qh_304 : Cond.methodLink R_law 23 y_S_rebase ∈ qa_WG := qa_in (List.mem_append_right _ (List.mem_of_getElem? (i := 304) (by decide +kernel))) rfl
theorem qh_305 : Cond.instanceMethod y_S_rebase ∈ qa_WG := qa_in (List.mem_append_right _ (List.mem_of_getElem? (i := 305) (by decide +kernel))) rfl
theorem qh_306 : Cond.selects R_S y_S_rebase y_S_rebase ∈ qa_WG := qa_in (List.mem_append_right _ (List.mem_of_getElem? (i := 306) (by decide +kernel))) rfl
theorem qh_307 : Cond.code y_S_rebase prog_1_method_4_code 3 (Option.some Jvm.ClassFile.FieldType.int) ∈ qa_WG := qa_in (List.mem_append_right _ (List.mem_of_getElem? (i := 307) (by decide +kernel))) rfl
theorem qh_562 : Cond.methodLink R_law 26 y_M_rebase ∈ qa_WG := qa_in (List.mem_append_right _ (List.mem_of_getElem? (i := 562) (by decide +kernel))) rfl
theorem qh_563 : Cond.instanceMethod y_M_rebase ∈ qa_WG := qa_in (List.mem_append_right _ (List.mem_of_getElem? (i := 563) (by decide +kernel))) rfl
theorem qh_564 : Cond.selects R_M y_M_rebase y_M_rebase ∈ qa_WG := qa_in (List.mem_append_right _ (List.mem_of_getElem? (i := 564) (by decide +kernel))) rfl
theorem qh_565 : Cond.code y_M_rebase prog_6_method_20_code 4 (Option.some Jvm.ClassFile.FieldType.int) ∈ qa_WG := qa_in (List.mem_append_right _ (List.mem_of_getElem? (i := 565) (by decide +kernel))) rfl
theorem qh_315 : Cond.methodLink R_law 27 y_S_abandon ∈ qa_WG := qa_in (List.mem_append_right _ (List.mem_of_getElem? (i := 315) (by decide +kernel))) rfl
theorem qh_316 : Cond.instanceMethod y_S_abandon ∈ qa_WG := qa_in (List.mem_append_right _ (List.mem_of_getElem? (i := 316) (by decide +kernel))) rfl
theorem qh_317 : Cond.selects R_S y_S_abandon y_S_abandon ∈ qa_WG := qa_in (List.mem_append_right _ (List.mem_of_getElem? (i := 317) (by decide +kernel))) rfl
theorem qh_318 : Cond.code y_S_abandon prog_1_method_5_code 2 (Option.some Jvm.ClassFile.FieldType.int) ∈ qa_WG := qa_in (List.mem_append_right _ (List.mem_of_getElem? (i := 318) (by decide +kernel))) rfl
theorem qh_566 : Cond.methodLink R_law 30 y_M_abandon ∈ qa_WG := qa_in (List.mem_append_right _ (List.mem_of_getElem? (i := 566) (by decide +kernel))) rfl
theorem qh_567 : Cond.instanceMethod y_M_abandon ∈ qa_WG := qa_in (List.mem_append_right _ (List.mem_of_getElem? (i := 567) (by decide +kernel))) rfl
theorem qh_568 : Cond.selects R_M y_M_abandon y_M_abandon ∈ qa_WG := qa_in (List.mem_append_right _ (List.mem_of_getElem? (i := 568) (by decide +kernel))) rfl
theorem qh_569 : Cond.code y_M_abandon prog_6_method_21_code 2 (Option.some Jvm.ClassFile.FieldType.int) ∈ qa_WG := qa_in (List.mem_append_right _ (List.mem_of_getElem? (i := 569) (by decide +kernel))) rfl
theorem qh_319 : Cond.methodLink R_law 31 y_S_squash ∈ qa_WG := qa_in (List.mem_append_right _ (List.mem_of_getElem? (i := 319) (by decide +kernel))) rfl
theorem qh_320 : Cond.instanceMethod y_S_squash ∈ qa_WG := qa_in (List.mem_append_right _ (List.mem_of_getElem? (i := 320) (by decide +kernel))) rfl
theorem qh_321 : Cond.selects R_S y_S_squash y_S_squash ∈ qa_WG := qa_in (List.mem_append_right _ (List.mem_of_getElem? (i := 321) (by decide +kernel))) rfl
theorem qh_322 : Cond.code y_S_squash prog_1_method_6_code 4 (Option.some Jvm.ClassFile.FieldType.int) ∈ qa_WG := qa_in (List.mem_append_right _ (List.mem_of_getElem? (i := 322) (by decide +kernel))) rfl
theorem qh_570 : Cond.methodLink R_law 34 y_M_squash ∈ qa_WG := qa_in (List.mem_append_right _ (List.mem_of_getElem? (i := 570) (by decide +kernel))) rfl
theorem qh_571 : Cond.instanceMethod y_M_squash ∈ qa_WG := qa_in (List.mem_append_right _ (List.mem_of_getElem? (i := 571) (by decide +kernel))) rfl
theorem qh_572 : Cond.selects R_M y_M_squash y_M_squash ∈ qa_WG := qa_in (List.mem_append_right _ (List.mem_of_getElem? (i := 572) (by decide +kernel))) rfl
theorem qh_573 : Cond.code y_M_squash prog_6_method_22_code 4 (Option.some Jvm.ClassFile.FieldType.int) ∈ qa_WG := qa_in (List.mem_append_right _ (List.mem_of_getElem? (i := 573) (by decide +kernel))) rfl
theorem qh_323 : Cond.methodLink R_law 35 y_S_edit ∈ qa_WG := qa_in (List.mem_append_right _ (List.mem_of_getElem? (i := 323) (by decide +kernel))) rfl
theorem qh_324 : Cond.instanceMethod y_S_edit ∈ qa_WG := qa_in (List.mem_append_right _ (List.mem_of_getElem? (i := 324) (by decide +kernel))) rfl
theorem qh_325 : Cond.selects R_S y_S_edit y_S_edit ∈ qa_WG := qa_in (List.mem_append_right _ (List.mem_of_getElem? (i := 325) (by decide +kernel))) rfl
theorem qh_326 : Cond.code y_S_edit prog_1_method_7_code 2 (Option.some Jvm.ClassFile.FieldType.int) ∈ qa_WG := qa_in (List.mem_append_right _ (List.mem_of_getElem? (i := 326) (by decide +kernel))) rfl
theorem qh_574 : Cond.methodLink R_law 38 y_M_edit ∈ qa_WG := qa_in (List.mem_append_right _ (List.mem_of_getElem? (i := 574) (by decide +kernel))) rfl
theorem qh_575 : Cond.instanceMethod y_M_edit ∈ qa_WG := qa_in (List.mem_append_right _ (List.mem_of_getElem? (i := 575) (by decide +kernel))) rfl
theorem qh_576 : Cond.selects R_M y_M_edit y_M_edit ∈ qa_WG := qa_in (List.mem_append_right _ (List.mem_of_getElem? (i := 576) (by decide +kernel))) rfl
theorem qh_577 : Cond.code y_M_edit prog_6_method_23_code 2 (Option.some Jvm.ClassFile.FieldType.int) ∈ qa_WG := qa_in (List.mem_append_right _ (List.mem_of_getElem? (i := 577) (by decide +kernel))) rfl
theorem qh_327 : Cond.methodLink R_law 39 y_S_mark ∈ qa_WG := qa_in (List.mem_append_right _ (List.mem_of_getElem? (i := 327) (by decide +kernel))) rfl
theorem qh_328 : Cond.instanceMethod y_S_mark ∈ qa_WG := qa_in (List.mem_append_right _ (List.mem_of_getElem? (i := 328) (by decide +kernel))) rfl
theorem qh_329 : Cond.selects R_S y_S_mark y_S_mark ∈ qa_WG := qa_in (List.mem_append_right _ (List.mem_of_getElem? (i := 329) (by decide +kernel))) rfl
theorem qh_330 : Cond.code y_S_mark prog_1_method_8_code 3 (Option.some Jvm.ClassFile.FieldType.int) ∈ qa_WG := qa_in (List.mem_append_right _ (List.mem_of_getElem? (i := 330) (by decide +kernel))) rfl
theorem qh_578 : Cond.methodLink R_law 42 y_M_mark ∈ qa_WG := qa_in (List.mem_append_right _ (List.mem_of_getElem? (i := 578) (by decide +kernel))) rfl
theorem qh_579 : Cond.instanceMethod y_M_mark ∈ qa_WG := qa_in (List.mem_append_right _ (List.mem_of_getElem? (i := 579) (by decide +kernel))) rfl
theorem qh_580 : Cond.selects R_M y_M_mark y_M_mark ∈ qa_WG := qa_in (List.mem_append_right _ (List.mem_of_getElem? (i := 580) (by decide +kernel))) rfl
theorem qh_581 : Cond.code y_M_mark prog_6_method_24_code 3 (Option.some Jvm.ClassFile.FieldType.int) ∈ qa_WG := qa_in (List.mem_append_right _ (List.mem_of_getElem? (i := 581) (by decide +kernel))) rfl
theorem qh_332 : Cond.methodLink R_law 43 y_S_undo ∈ qa_WG := qa_in (List.mem_append_right _ (List.mem_of_getElem? (i := 332) (by decide +kernel))) rfl
theorem qh_333 : Cond.instanceMethod y_S_undo ∈ qa_WG := qa_in (List.mem_append_right _ (List.mem_of_getElem? (i := 333) (by decide +kernel))) rfl
theorem qh_334 : Cond.selects R_S y_S_undo y_S_undo ∈ qa_WG := qa_in (List.mem_append_right _ (List.mem_of_getElem? (i := 334) (by decide +kernel))) rfl
theorem qh_335 : Cond.code y_S_undo prog_1_method_9_code 4 (Option.some Jvm.ClassFile.FieldType.int) ∈ qa_WG := qa_in (List.mem_append_right _ (List.mem_of_getElem? (i := 335) (by decide +kernel))) rfl
theorem qh_582 : Cond.methodLink R_law 47 y_M_undo ∈ qa_WG := qa_in (List.mem_append_right _ (List.mem_of_getElem? (i := 582) (by decide +kernel))) rfl
theorem qh_583 : Cond.instanceMethod y_M_undo ∈ qa_WG := qa_in (List.mem_append_right _ (List.mem_of_getElem? (i := 583) (by decide +kernel))) rfl
theorem qh_584 : Cond.selects R_M y_M_undo y_M_undo ∈ qa_WG := qa_in (List.mem_append_right _ (List.mem_of_getElem? (i := 584) (by decide +kernel))) rfl
theorem qh_585 : Cond.code y_M_undo prog_6_method_25_code 2 (Option.some Jvm.ClassFile.FieldType.int) ∈ qa_WG := qa_in (List.mem_append_right _ (List.mem_of_getElem? (i := 585) (by decide +kernel))) rfl
theorem qh_344 : Cond.methodLink R_law 48 y_S_restore ∈ qa_WG := qa_in (List.mem_append_right _ (List.mem_of_getElem? (i := 344) (by decide +kernel))) rfl
theorem qh_345 : Cond.instanceMethod y_S_restore ∈ qa_WG := qa_in (List.mem_append_right _ (List.mem_of_getElem? (i := 345) (by decide +kernel))) rfl
theorem qh_346 : Cond.selects R_S y_S_restore y_S_restore ∈ qa_WG := qa_in (List.mem_append_right _ (List.mem_of_getElem? (i := 346) (by decide +kernel))) rfl
theorem qh_347 : Cond.code y_S_restore prog_1_method_10_code 2 (Option.some Jvm.ClassFile.FieldType.int) ∈ qa_WG := qa_in (List.mem_append_right _ (List.mem_of_getElem? (i := 347) (by decide +kernel))) rfl
theorem qh_586 : Cond.methodLink R_law 51 y_M_restore ∈ qa_WG := qa_in (List.mem_append_right _ (List.mem_of_getElem? (i := 586) (by decide +kernel))) rfl
theorem qh_587 : Cond.instanceMethod y_M_restore ∈ qa_WG := qa_in (List.mem_append_right _ (List.mem_of_getElem? (i := 587) (by decide +kernel))) rfl
theorem qh_588 : Cond.selects R_M y_M_restore y_M_restore ∈ qa_WG := qa_in (List.mem_append_right _ (List.mem_of_getElem? (i := 588) (by decide +kernel))) rfl
theorem qh_589 : Cond.code y_M_restore prog_6_method_26_code 2 (Option.some Jvm.ClassFile.FieldType.int) ∈ qa_WG := qa_in (List.mem_append_right _ (List.mem_of_getElem? (i := 589) (by decide +kernel))) rfl
theorem qh_349 : Cond.methodLink R_law 52 y_S_fork ∈ qa_WG := qa_in (List.mem_append_right _ (List.mem_of_getElem? (i := 349) (by decide +kernel))) rfl
theorem qh_350 : Cond.instanceMethod y_S_fork ∈ qa_WG := qa_in (List.mem_append_right _ (List.mem_of_getElem? (i := 350) (by decide +kernel))) rfl
theorem qh_351 : Cond.selects R_S y_S_fork y_S_fork ∈ qa_WG := qa_in (List.mem_append_right _ (List.mem_of_getElem? (i := 351) (by decide +kernel))) rfl
theorem qh_352 : Cond.code y_S_fork prog_1_method_11_code 2 (Option.some Jvm.ClassFile.FieldType.boolean) ∈ qa_WG := qa_in (List.mem_append_right _ (List.mem_of_getElem? (i := 352) (by decide +kernel))) rfl
theorem qh_590 : Cond.methodLink R_law 56 y_M_fork ∈ qa_WG := qa_in (List.mem_append_right _ (List.mem_of_getElem? (i := 590) (by decide +kernel))) rfl
theorem qh_591 : Cond.instanceMethod y_M_fork ∈ qa_WG := qa_in (List.mem_append_right _ (List.mem_of_getElem? (i := 591) (by decide +kernel))) rfl
theorem qh_592 : Cond.selects R_M y_M_fork y_M_fork ∈ qa_WG := qa_in (List.mem_append_right _ (List.mem_of_getElem? (i := 592) (by decide +kernel))) rfl
theorem qh_593 : Cond.code y_M_fork prog_6_method_27_code 2 (Option.some Jvm.ClassFile.FieldType.boolean) ∈ qa_WG := qa_in (List.mem_append_right _ (List.mem_of_getElem? (i := 593) (by decide +kernel))) rfl
theorem qh_357 : Cond.methodLink R_law 57 y_S_choose ∈ qa_WG := qa_in (List.mem_append_right _ (List.mem_of_getElem? (i := 357) (by decide +kernel))) rfl
theorem qh_358 : Cond.instanceMethod y_S_choose ∈ qa_WG := qa_in (List.mem_append_right _ (List.mem_of_getElem? (i := 358) (by decide +kernel))) rfl
theorem qh_359 : Cond.selects R_S y_S_choose y_S_choose ∈ qa_WG := qa_in (List.mem_append_right _ (List.mem_of_getElem? (i := 359) (by decide +kernel))) rfl
theorem qh_360 : Cond.code y_S_choose prog_1_method_12_code 3 (Option.some Jvm.ClassFile.FieldType.boolean) ∈ qa_WG := qa_in (List.mem_append_right _ (List.mem_of_getElem? (i := 360) (by decide +kernel))) rfl
theorem qh_594 : Cond.methodLink R_law 60 y_M_choose ∈ qa_WG := qa_in (List.mem_append_right _ (List.mem_of_getElem? (i := 594) (by decide +kernel))) rfl
theorem qh_595 : Cond.instanceMethod y_M_choose ∈ qa_WG := qa_in (List.mem_append_right _ (List.mem_of_getElem? (i := 595) (by decide +kernel))) rfl
theorem qh_596 : Cond.selects R_M y_M_choose y_M_choose ∈ qa_WG := qa_in (List.mem_append_right _ (List.mem_of_getElem? (i := 596) (by decide +kernel))) rfl
theorem qh_597 : Cond.code y_M_choose prog_6_method_28_code 2 (Option.some Jvm.ClassFile.FieldType.boolean) ∈ qa_WG := qa_in (List.mem_append_right _ (List.mem_of_getElem? (i := 597) (by decide +kernel))) rfl
theorem qh_361 : Cond.methodLink R_law 61 y_S_join ∈ qa_WG := qa_in (List.mem_append_right _ (List.mem_of_getElem? (i := 361) (by decide +kernel))) rfl
theorem qh_362 : Cond.instanceMethod y_S_join ∈ qa_WG := qa_in (List.mem_append_right _ (List.mem_of_getElem? (i := 362) (by decide +kernel))) rfl
theorem qh_363 : Cond.selects R_S y_S_join y_S_join ∈ qa_WG := qa_in (List.mem_append_right _ (List.mem_of_getElem? (i := 363) (by decide +kernel))) rfl
theorem qh_364 : Cond.code y_S_join prog_1_method_13_code 2 (Option.some Jvm.ClassFile.FieldType.int) ∈ qa_WG := qa_in (List.mem_append_right _ (List.mem_of_getElem? (i := 364) (by decide +kernel))) rfl
theorem qh_598 : Cond.methodLink R_law 64 y_M_join ∈ qa_WG := qa_in (List.mem_append_right _ (List.mem_of_getElem? (i := 598) (by decide +kernel))) rfl
theorem qh_599 : Cond.instanceMethod y_M_join ∈ qa_WG := qa_in (List.mem_append_right _ (List.mem_of_getElem? (i := 599) (by decide +kernel))) rfl
theorem qh_600 : Cond.selects R_M y_M_join y_M_join ∈ qa_WG := qa_in (List.mem_append_right _ (List.mem_of_getElem? (i := 600) (by decide +kernel))) rfl
theorem qh_601 : Cond.code y_M_join prog_6_method_30_code 7 (Option.some Jvm.ClassFile.FieldType.int) ∈ qa_WG := qa_in (List.mem_append_right _ (List.mem_of_getElem? (i := 601) (by decide +kernel))) rfl
theorem qh_372 : Cond.methodLink R_law 65 y_S_operation ∈ qa_WG := qa_in (List.mem_append_right _ (List.mem_of_getElem? (i := 372) (by decide +kernel))) rfl
theorem qh_373 : Cond.instanceMethod y_S_operation ∈ qa_WG := qa_in (List.mem_append_right _ (List.mem_of_getElem? (i := 373) (by decide +kernel))) rfl
theorem qh_374 : Cond.selects R_S y_S_operation y_S_operation ∈ qa_WG := qa_in (List.mem_append_right _ (List.mem_of_getElem? (i := 374) (by decide +kernel))) rfl
theorem qh_375 : Cond.code y_S_operation prog_1_method_14_code 1 (Option.some Jvm.ClassFile.FieldType.int) ∈ qa_WG := qa_in (List.mem_append_right _ (List.mem_of_getElem? (i := 375) (by decide +kernel))) rfl
theorem qh_605 : Cond.methodLink R_law 68 y_M_operation ∈ qa_WG := qa_in (List.mem_append_right _ (List.mem_of_getElem? (i := 605) (by decide +kernel))) rfl
theorem qh_606 : Cond.instanceMethod y_M_operation ∈ qa_WG := qa_in (List.mem_append_right _ (List.mem_of_getElem? (i := 606) (by decide +kernel))) rfl
theorem qh_607 : Cond.selects R_M y_M_operation y_M_operation ∈ qa_WG := qa_in (List.mem_append_right _ (List.mem_of_getElem? (i := 607) (by decide +kernel))) rfl
theorem qh_608 : Cond.code y_M_operation prog_6_method_32_code 1 (Option.some Jvm.ClassFile.FieldType.int) ∈ qa_WG := qa_in (List.mem_append_right _ (List.mem_of_getElem? (i := 608) (by decide +kernel))) rfl
theorem qh_376 : Cond.methodLink R_law 69 y_S_before ∈ qa_WG := qa_in (List.mem_append_right _ (List.mem_of_getElem? (i := 376) (by decide +kernel))) rfl
theorem qh_377 : Cond.instanceMethod y_S_before ∈ qa_WG := qa_in (List.mem_append_right _ (List.mem_of_getElem? (i := 377) (by decide +kernel))) rfl
theorem qh_378 : Cond.selects R_S y_S_before y_S_before ∈ qa_WG := qa_in (List.mem_append_right _ (List.mem_of_getElem? (i := 378) (by decide +kernel))) rfl
theorem qh_379 : Cond.code y_S_before prog_1_method_15_code 3 (Option.some Jvm.ClassFile.FieldType.int) ∈ qa_WG := qa_in (List.mem_append_right _ (List.mem_of_getElem? (i := 379) (by decide +kernel))) rfl
theorem qh_609 : Cond.methodLink R_law 72 y_M_before ∈ qa_WG := qa_in (List.mem_append_right _ (List.mem_of_getElem? (i := 609) (by decide +kernel))) rfl
theorem qh_610 : Cond.instanceMethod y_M_before ∈ qa_WG := qa_in (List.mem_append_right _ (List.mem_of_getElem? (i := 610) (by decide +kernel))) rfl
theorem qh_611 : Cond.selects R_M y_M_before y_M_before ∈ qa_WG := qa_in (List.mem_append_right _ (List.mem_of_getElem? (i := 611) (by decide +kernel))) rfl
theorem qh_612 : Cond.code y_M_before prog_6_method_33_code 3 (Option.some Jvm.ClassFile.FieldType.int) ∈ qa_WG := qa_in (List.mem_append_right _ (List.mem_of_getElem? (i := 612) (by decide +kernel))) rfl
theorem qh_380 : Cond.methodLink R_law 73 y_S_visible ∈ qa_WG := qa_in (List.mem_append_right _ (List.mem_of_getElem? (i := 380) (by decide +kernel))) rfl
theorem qh_381 : Cond.instanceMethod y_S_visible ∈ qa_WG := qa_in (List.mem_append_right _ (List.mem_of_getElem? (i := 381) (by decide +kernel))) rfl
theorem qh_382 : Cond.selects R_S y_S_visible y_S_visible ∈ qa_WG := qa_in (List.mem_append_right _ (List.mem_of_getElem? (i := 382) (by decide +kernel))) rfl
theorem qh_383 : Cond.code y_S_visible prog_1_method_16_code 3 (Option.some Jvm.ClassFile.FieldType.boolean) ∈ qa_WG := qa_in (List.mem_append_right _ (List.mem_of_getElem? (i := 383) (by decide +kernel))) rfl
theorem qh_617 : Cond.methodLink R_law 77 y_M_visible ∈ qa_WG := qa_in (List.mem_append_right _ (List.mem_of_getElem? (i := 617) (by decide +kernel))) rfl
theorem qh_618 : Cond.instanceMethod y_M_visible ∈ qa_WG := qa_in (List.mem_append_right _ (List.mem_of_getElem? (i := 618) (by decide +kernel))) rfl
theorem qh_619 : Cond.selects R_M y_M_visible y_M_visible ∈ qa_WG := qa_in (List.mem_append_right _ (List.mem_of_getElem? (i := 619) (by decide +kernel))) rfl
theorem qh_620 : Cond.code y_M_visible prog_6_method_34_code 3 (Option.some Jvm.ClassFile.FieldType.boolean) ∈ qa_WG := qa_in (List.mem_append_right _ (List.mem_of_getElem? (i := 620) (by decide +kernel))) rfl
theorem qh_385 : Cond.methodLink R_law 78 y_S_working ∈ qa_WG := qa_in (List.mem_append_right _ (List.mem_of_getElem? (i := 385) (by decide +kernel))) rfl
theorem qh_386 : Cond.instanceMethod y_S_working ∈ qa_WG := qa_in (List.mem_append_right _ (List.mem_of_getElem? (i := 386) (by decide +kernel))) rfl
theorem qh_387 : Cond.selects R_S y_S_working y_S_working ∈ qa_WG := qa_in (List.mem_append_right _ (List.mem_of_getElem? (i := 387) (by decide +kernel))) rfl
theorem qh_388 : Cond.code y_S_working prog_1_method_17_code 2 (Option.some Jvm.ClassFile.FieldType.int) ∈ qa_WG := qa_in (List.mem_append_right _ (List.mem_of_getElem? (i := 388) (by decide +kernel))) rfl
theorem qh_621 : Cond.methodLink R_law 81 y_M_working ∈ qa_WG := qa_in (List.mem_append_right _ (List.mem_of_getElem? (i := 621) (by decide +kernel))) rfl
theorem qh_622 : Cond.instanceMethod y_M_working ∈ qa_WG := qa_in (List.mem_append_right _ (List.mem_of_getElem? (i := 622) (by decide +kernel))) rfl
theorem qh_623 : Cond.selects R_M y_M_working y_M_working ∈ qa_WG := qa_in (List.mem_append_right _ (List.mem_of_getElem? (i := 623) (by decide +kernel))) rfl
theorem qh_624 : Cond.code y_M_working prog_6_method_35_code 2 (Option.some Jvm.ClassFile.FieldType.int) ∈ qa_WG := qa_in (List.mem_append_right _ (List.mem_of_getElem? (i := 624) (by decide +kernel))) rfl
theorem qh_390 : Cond.methodLink R_law 82 y_S_marked ∈ qa_WG := qa_in (List.mem_append_right _ (List.mem_of_getElem? (i := 390) (by decide +kernel))) rfl
theorem qh_391 : Cond.instanceMethod y_S_marked ∈ qa_WG := qa_in (List.mem_append_right _ (List.mem_of_getElem? (i := 391) (by decide +kernel))) rfl
theorem qh_392 : Cond.selects R_S y_S_marked y_S_marked ∈ qa_WG := qa_in (List.mem_append_right _ (List.mem_of_getElem? (i := 392) (by decide +kernel))) rfl
theorem qh_393 : Cond.code y_S_marked prog_1_method_18_code 3 (Option.some Jvm.ClassFile.FieldType.int) ∈ qa_WG := qa_in (List.mem_append_right _ (List.mem_of_getElem? (i := 393) (by decide +kernel))) rfl
theorem qh_625 : Cond.methodLink R_law 85 y_M_marked ∈ qa_WG := qa_in (List.mem_append_right _ (List.mem_of_getElem? (i := 625) (by decide +kernel))) rfl
theorem qh_626 : Cond.instanceMethod y_M_marked ∈ qa_WG := qa_in (List.mem_append_right _ (List.mem_of_getElem? (i := 626) (by decide +kernel))) rfl
theorem qh_627 : Cond.selects R_M y_M_marked y_M_marked ∈ qa_WG := qa_in (List.mem_append_right _ (List.mem_of_getElem? (i := 627) (by decide +kernel))) rfl
theorem qh_628 : Cond.code y_M_marked prog_6_method_36_code 3 (Option.some Jvm.ClassFile.FieldType.int) ∈ qa_WG := qa_in (List.mem_append_right _ (List.mem_of_getElem? (i := 628) (by decide +kernel))) rfl
theorem qh_395 : Cond.methodLink R_law 86 y_S_head ∈ qa_WG := qa_in (List.mem_append_right _ (List.mem_of_getElem? (i := 395) (by decide +kernel))) rfl
theorem qh_396 : Cond.instanceMethod y_S_head ∈ qa_WG := qa_in (List.mem_append_right _ (List.mem_of_getElem? (i := 396) (by decide +kernel))) rfl
theorem qh_397 : Cond.selects R_S y_S_head y_S_head ∈ qa_WG := qa_in (List.mem_append_right _ (List.mem_of_getElem? (i := 397) (by decide +kernel))) rfl
theorem qh_398 : Cond.code y_S_head prog_1_method_19_code 9 (Option.some Jvm.ClassFile.FieldType.int) ∈ qa_WG := qa_in (List.mem_append_right _ (List.mem_of_getElem? (i := 398) (by decide +kernel))) rfl
theorem qh_629 : Cond.methodLink R_law 89 y_M_head ∈ qa_WG := qa_in (List.mem_append_right _ (List.mem_of_getElem? (i := 629) (by decide +kernel))) rfl
theorem qh_630 : Cond.instanceMethod y_M_head ∈ qa_WG := qa_in (List.mem_append_right _ (List.mem_of_getElem? (i := 630) (by decide +kernel))) rfl
theorem qh_631 : Cond.selects R_M y_M_head y_M_head ∈ qa_WG := qa_in (List.mem_append_right _ (List.mem_of_getElem? (i := 631) (by decide +kernel))) rfl
theorem qh_632 : Cond.code y_M_head prog_6_method_38_code 5 (Option.some Jvm.ClassFile.FieldType.int) ∈ qa_WG := qa_in (List.mem_append_right _ (List.mem_of_getElem? (i := 632) (by decide +kernel))) rfl
theorem qh_404 : Cond.methodLink R_law 90 y_S_commit ∈ qa_WG := qa_in (List.mem_append_right _ (List.mem_of_getElem? (i := 404) (by decide +kernel))) rfl
theorem qh_405 : Cond.instanceMethod y_S_commit ∈ qa_WG := qa_in (List.mem_append_right _ (List.mem_of_getElem? (i := 405) (by decide +kernel))) rfl
theorem qh_406 : Cond.selects R_S y_S_commit y_S_commit ∈ qa_WG := qa_in (List.mem_append_right _ (List.mem_of_getElem? (i := 406) (by decide +kernel))) rfl
theorem qh_407 : Cond.code y_S_commit prog_1_method_20_code 3 (Option.some Jvm.ClassFile.FieldType.int) ∈ qa_WG := qa_in (List.mem_append_right _ (List.mem_of_getElem? (i := 407) (by decide +kernel))) rfl
theorem qh_637 : Cond.methodLink R_law 93 y_M_commit ∈ qa_WG := qa_in (List.mem_append_right _ (List.mem_of_getElem? (i := 637) (by decide +kernel))) rfl
theorem qh_638 : Cond.instanceMethod y_M_commit ∈ qa_WG := qa_in (List.mem_append_right _ (List.mem_of_getElem? (i := 638) (by decide +kernel))) rfl
theorem qh_639 : Cond.selects R_M y_M_commit y_M_commit ∈ qa_WG := qa_in (List.mem_append_right _ (List.mem_of_getElem? (i := 639) (by decide +kernel))) rfl
theorem qh_640 : Cond.code y_M_commit prog_6_method_39_code 3 (Option.some Jvm.ClassFile.FieldType.int) ∈ qa_WG := qa_in (List.mem_append_right _ (List.mem_of_getElem? (i := 640) (by decide +kernel))) rfl
theorem qh_408 : Cond.methodLink R_law 94 y_S_count ∈ qa_WG := qa_in (List.mem_append_right _ (List.mem_of_getElem? (i := 408) (by decide +kernel))) rfl
theorem qh_409 : Cond.instanceMethod y_S_count ∈ qa_WG := qa_in (List.mem_append_right _ (List.mem_of_getElem? (i := 409) (by decide +kernel))) rfl
theorem qh_410 : Cond.selects R_S y_S_count y_S_count ∈ qa_WG := qa_in (List.mem_append_right _ (List.mem_of_getElem? (i := 410) (by decide +kernel))) rfl
theorem qh_411 : Cond.code y_S_count prog_1_method_21_code 4 (Option.some Jvm.ClassFile.FieldType.long) ∈ qa_WG := qa_in (List.mem_append_right _ (List.mem_of_getElem? (i := 411) (by decide +kernel))) rfl
theorem qh_641 : Cond.methodLink R_law 98 y_M_count ∈ qa_WG := qa_in (List.mem_append_right _ (List.mem_of_getElem? (i := 641) (by decide +kernel))) rfl
theorem qh_642 : Cond.instanceMethod y_M_count ∈ qa_WG := qa_in (List.mem_append_right _ (List.mem_of_getElem? (i := 642) (by decide +kernel))) rfl
theorem qh_643 : Cond.selects R_M y_M_count y_M_count ∈ qa_WG := qa_in (List.mem_append_right _ (List.mem_of_getElem? (i := 643) (by decide +kernel))) rfl
theorem qh_644 : Cond.code y_M_count prog_6_method_40_code 4 (Option.some Jvm.ClassFile.FieldType.long) ∈ qa_WG := qa_in (List.mem_append_right _ (List.mem_of_getElem? (i := 644) (by decide +kernel))) rfl
theorem qh_9 : Cond.instantiable R_S 6 ∈ qa_WG := qa_in (List.mem_append_right _ (List.mem_of_getElem? (i := 9) (by decide +kernel))) rfl
theorem qh_414 : Cond.instantiable R_M 23 ∈ qa_WG := qa_in (List.mem_append_right _ (List.mem_of_getElem? (i := 414) (by decide +kernel))) rfl
theorem qh_8 : Cond.classLink R_law 7 R_S ∈ qa_WG := qa_in (List.mem_append_right _ (List.mem_of_getElem? (i := 8) (by decide +kernel))) rfl
theorem qh_413 : Cond.classLink R_law 10 R_M ∈ qa_WG := qa_in (List.mem_append_right _ (List.mem_of_getElem? (i := 413) (by decide +kernel))) rfl
theorem qh_10 : Cond.methodLink R_law 9 y_S_init ∈ qa_WG := qa_in (List.mem_append_right _ (List.mem_of_getElem? (i := 10) (by decide +kernel))) rfl
theorem qh_415 : Cond.methodLink R_law 12 y_M_init ∈ qa_WG := qa_in (List.mem_append_right _ (List.mem_of_getElem? (i := 415) (by decide +kernel))) rfl
theorem qh_11 : Cond.instanceMethod y_S_init ∈ qa_WG := qa_in (List.mem_append_right _ (List.mem_of_getElem? (i := 11) (by decide +kernel))) rfl
theorem qh_416 : Cond.instanceMethod y_M_init ∈ qa_WG := qa_in (List.mem_append_right _ (List.mem_of_getElem? (i := 416) (by decide +kernel))) rfl
theorem qo_L_13_S_create : GoodIn qa_WG (wsV R_law 13 R_S y_S_create qv_S_create) := qa_good qh_122 (List.forall_mem_cons.mpr ⟨qh_119, List.forall_mem_cons.mpr ⟨qh_120, List.forall_mem_cons.mpr ⟨qh_121, List.forall_mem_cons.mpr ⟨qh_1, fun _ h => by cases h⟩⟩⟩⟩)
theorem qo_L_17_M_create : GoodIn qa_WG (wsV R_law 17 R_M y_M_create qv_M_create) := qa_good qh_493 (List.forall_mem_cons.mpr ⟨qh_490, List.forall_mem_cons.mpr ⟨qh_491, List.forall_mem_cons.mpr ⟨qh_492, List.forall_mem_cons.mpr ⟨qh_5, fun _ h => by cases h⟩⟩⟩⟩)
theorem qo_L_18_S_write : GoodIn qa_WG (wsV R_law 18 R_S y_S_write qv_S_write) := qa_good qh_288 (List.forall_mem_cons.mpr ⟨qh_285, List.forall_mem_cons.mpr ⟨qh_286, List.forall_mem_cons.mpr ⟨qh_287, List.forall_mem_cons.mpr ⟨qh_1, fun _ h => by cases h⟩⟩⟩⟩)
theorem qo_L_22_M_write : GoodIn qa_WG (wsV R_law 22 R_M y_M_write qv_M_write) := qa_good qh_525 (List.forall_mem_cons.mpr ⟨qh_522, List.forall_mem_cons.mpr ⟨qh_523, List.forall_mem_cons.mpr ⟨qh_524, List.forall_mem_cons.mpr ⟨qh_5, fun _ h => by cases h⟩⟩⟩⟩)
theorem qo_L_23_S_rebase : GoodIn qa_WG (wsV R_law 23 R_S y_S_rebase qv_S_rebase) := qa_good qh_307 (List.forall_mem_cons.mpr ⟨qh_304, List.forall_mem_cons.mpr ⟨qh_305, List.forall_mem_cons.mpr ⟨qh_306, List.forall_mem_cons.mpr ⟨qh_1, fun _ h => by cases h⟩⟩⟩⟩)
theorem qo_L_26_M_rebase : GoodIn qa_WG (wsV R_law 26 R_M y_M_rebase qv_M_rebase) := qa_good qh_565 (List.forall_mem_cons.mpr ⟨qh_562, List.forall_mem_cons.mpr ⟨qh_563, List.forall_mem_cons.mpr ⟨qh_564, List.forall_mem_cons.mpr ⟨qh_5, fun _ h => by cases h⟩⟩⟩⟩)
theorem qo_L_27_S_abandon : GoodIn qa_WG (wsV R_law 27 R_S y_S_abandon qv_S_abandon) := qa_good qh_318 (List.forall_mem_cons.mpr ⟨qh_315, List.forall_mem_cons.mpr ⟨qh_316, List.forall_mem_cons.mpr ⟨qh_317, List.forall_mem_cons.mpr ⟨qh_1, fun _ h => by cases h⟩⟩⟩⟩)
theorem qo_L_30_M_abandon : GoodIn qa_WG (wsV R_law 30 R_M y_M_abandon qv_M_abandon) := qa_good qh_569 (List.forall_mem_cons.mpr ⟨qh_566, List.forall_mem_cons.mpr ⟨qh_567, List.forall_mem_cons.mpr ⟨qh_568, List.forall_mem_cons.mpr ⟨qh_5, fun _ h => by cases h⟩⟩⟩⟩)
theorem qo_L_31_S_squash : GoodIn qa_WG (wsV R_law 31 R_S y_S_squash qv_S_squash) := qa_good qh_322 (List.forall_mem_cons.mpr ⟨qh_319, List.forall_mem_cons.mpr ⟨qh_320, List.forall_mem_cons.mpr ⟨qh_321, List.forall_mem_cons.mpr ⟨qh_1, fun _ h => by cases h⟩⟩⟩⟩)
theorem qo_L_34_M_squash : GoodIn qa_WG (wsV R_law 34 R_M y_M_squash qv_M_squash) := qa_good qh_573 (List.forall_mem_cons.mpr ⟨qh_570, List.forall_mem_cons.mpr ⟨qh_571, List.forall_mem_cons.mpr ⟨qh_572, List.forall_mem_cons.mpr ⟨qh_5, fun _ h => by cases h⟩⟩⟩⟩)
theorem qo_L_35_S_edit : GoodIn qa_WG (wsV R_law 35 R_S y_S_edit qv_S_edit) := qa_good qh_326 (List.forall_mem_cons.mpr ⟨qh_323, List.forall_mem_cons.mpr ⟨qh_324, List.forall_mem_cons.mpr ⟨qh_325, List.forall_mem_cons.mpr ⟨qh_1, fun _ h => by cases h⟩⟩⟩⟩)
theorem qo_L_38_M_edit : GoodIn qa_WG (wsV R_law 38 R_M y_M_edit qv_M_edit) := qa_good qh_577 (List.forall_mem_cons.mpr ⟨qh_574, List.forall_mem_cons.mpr ⟨qh_575, List.forall_mem_cons.mpr ⟨qh_576, List.forall_mem_cons.mpr ⟨qh_5, fun _ h => by cases h⟩⟩⟩⟩)
theorem qo_L_39_S_mark : GoodIn qa_WG (wsV R_law 39 R_S y_S_mark qv_S_mark) := qa_good qh_330 (List.forall_mem_cons.mpr ⟨qh_327, List.forall_mem_cons.mpr ⟨qh_328, List.forall_mem_cons.mpr ⟨qh_329, List.forall_mem_cons.mpr ⟨qh_1, fun _ h => by cases h⟩⟩⟩⟩)
theorem qo_L_42_M_mark : GoodIn qa_WG (wsV R_law 42 R_M y_M_mark qv_M_mark) := qa_good qh_581 (List.forall_mem_cons.mpr ⟨qh_578, List.forall_mem_cons.mpr ⟨qh_579, List.forall_mem_cons.mpr ⟨qh_580, List.forall_mem_cons.mpr ⟨qh_5, fun _ h => by cases h⟩⟩⟩⟩)
theorem qo_L_43_S_undo : GoodIn qa_WG (wsV R_law 43 R_S y_S_undo qv_S_undo) := qa_good qh_335 (List.forall_mem_cons.mpr ⟨qh_332, List.forall_mem_cons.mpr ⟨qh_333, List.forall_mem_cons.mpr ⟨qh_334, List.forall_mem_cons.mpr ⟨qh_1, fun _ h => by cases h⟩⟩⟩⟩)
theorem qo_L_47_M_undo : GoodIn qa_WG (wsV R_law 47 R_M y_M_undo qv_M_undo) := qa_good qh_585 (List.forall_mem_cons.mpr ⟨qh_582, List.forall_mem_cons.mpr ⟨qh_583, List.forall_mem_cons.mpr ⟨qh_584, List.forall_mem_cons.mpr ⟨qh_5, fun _ h => by cases h⟩⟩⟩⟩)
theorem qo_L_48_S_restore : GoodIn qa_WG (wsV R_law 48 R_S y_S_restore qv_S_restore) := qa_good qh_347 (List.forall_mem_cons.mpr ⟨qh_344, List.forall_mem_cons.mpr ⟨qh_345, List.forall_mem_cons.mpr ⟨qh_346, List.forall_mem_cons.mpr ⟨qh_1, fun _ h => by cases h⟩⟩⟩⟩)
theorem qo_L_51_M_restore : GoodIn qa_WG (wsV R_law 51 R_M y_M_restore qv_M_restore) := qa_good qh_589 (List.forall_mem_cons.mpr ⟨qh_586, List.forall_mem_cons.mpr ⟨qh_587, List.forall_mem_cons.mpr ⟨qh_588, List.forall_mem_cons.mpr ⟨qh_5, fun _ h => by cases h⟩⟩⟩⟩)
theorem qo_L_52_S_fork : GoodIn qa_WG (wsV R_law 52 R_S y_S_fork qv_S_fork) := qa_good qh_352 (List.forall_mem_cons.mpr ⟨qh_349, List.forall_mem_cons.mpr ⟨qh_350, List.forall_mem_cons.mpr ⟨qh_351, List.forall_mem_cons.mpr ⟨qh_1, fun _ h => by cases h⟩⟩⟩⟩)
theorem qo_L_56_M_fork : GoodIn qa_WG (wsV R_law 56 R_M y_M_fork qv_M_fork) := qa_good qh_593 (List.forall_mem_cons.mpr ⟨qh_590, List.forall_mem_cons.mpr ⟨qh_591, List.forall_mem_cons.mpr ⟨qh_592, List.forall_mem_cons.mpr ⟨qh_5, fun _ h => by cases h⟩⟩⟩⟩)
theorem qo_L_57_S_choose : GoodIn qa_WG (wsV R_law 57 R_S y_S_choose qv_S_choose) := qa_good qh_360 (List.forall_mem_cons.mpr ⟨qh_357, List.forall_mem_cons.mpr ⟨qh_358, List.forall_mem_cons.mpr ⟨qh_359, List.forall_mem_cons.mpr ⟨qh_1, fun _ h => by cases h⟩⟩⟩⟩)
theorem qo_L_60_M_choose : GoodIn qa_WG (wsV R_law 60 R_M y_M_choose qv_M_choose) := qa_good qh_597 (List.forall_mem_cons.mpr ⟨qh_594, List.forall_mem_cons.mpr ⟨qh_595, List.forall_mem_cons.mpr ⟨qh_596, List.forall_mem_cons.mpr ⟨qh_5, fun _ h => by cases h⟩⟩⟩⟩)
theorem qo_L_61_S_join : GoodIn qa_WG (wsV R_law 61 R_S y_S_join qv_S_join) := qa_good qh_364 (List.forall_mem_cons.mpr ⟨qh_361, List.forall_mem_cons.mpr ⟨qh_362, List.forall_mem_cons.mpr ⟨qh_363, List.forall_mem_cons.mpr ⟨qh_1, fun _ h => by cases h⟩⟩⟩⟩)
theorem qo_L_64_M_join : GoodIn qa_WG (wsV R_law 64 R_M y_M_join qv_M_join) := qa_good qh_601 (List.forall_mem_cons.mpr ⟨qh_598, List.forall_mem_cons.mpr ⟨qh_599, List.forall_mem_cons.mpr ⟨qh_600, List.forall_mem_cons.mpr ⟨qh_5, fun _ h => by cases h⟩⟩⟩⟩)
theorem qo_L_65_S_operation : GoodIn qa_WG (wsV R_law 65 R_S y_S_operation qv_S_operation) := qa_good qh_375 (List.forall_mem_cons.mpr ⟨qh_372, List.forall_mem_cons.mpr ⟨qh_373, List.forall_mem_cons.mpr ⟨qh_374, List.forall_mem_cons.mpr ⟨qh_1, fun _ h => by cases h⟩⟩⟩⟩)
theorem qo_L_68_M_operation : GoodIn qa_WG (wsV R_law 68 R_M y_M_operation qv_M_operation) := qa_good qh_608 (List.forall_mem_cons.mpr ⟨qh_605, List.forall_mem_cons.mpr ⟨qh_606, List.forall_mem_cons.mpr ⟨qh_607, List.forall_mem_cons.mpr ⟨qh_5, fun _ h => by cases h⟩⟩⟩⟩)
theorem qo_L_69_S_before : GoodIn qa_WG (wsV R_law 69 R_S y_S_before qv_S_before) := qa_good qh_379 (List.forall_mem_cons.mpr ⟨qh_376, List.forall_mem_cons.mpr ⟨qh_377, List.forall_mem_cons.mpr ⟨qh_378, List.forall_mem_cons.mpr ⟨qh_1, fun _ h => by cases h⟩⟩⟩⟩)
theorem qo_L_72_M_before : GoodIn qa_WG (wsV R_law 72 R_M y_M_before qv_M_before) := qa_good qh_612 (List.forall_mem_cons.mpr ⟨qh_609, List.forall_mem_cons.mpr ⟨qh_610, List.forall_mem_cons.mpr ⟨qh_611, List.forall_mem_cons.mpr ⟨qh_5, fun _ h => by cases h⟩⟩⟩⟩)
theorem qo_L_73_S_visible : GoodIn qa_WG (wsV R_law 73 R_S y_S_visible qv_S_visible) := qa_good qh_383 (List.forall_mem_cons.mpr ⟨qh_380, List.forall_mem_cons.mpr ⟨qh_381, List.forall_mem_cons.mpr ⟨qh_382, List.forall_mem_cons.mpr ⟨qh_1, fun _ h => by cases h⟩⟩⟩⟩)
theorem qo_L_77_M_visible : GoodIn qa_WG (wsV R_law 77 R_M y_M_visible qv_M_visible) := qa_good qh_620 (List.forall_mem_cons.mpr ⟨qh_617, List.forall_mem_cons.mpr ⟨qh_618, List.forall_mem_cons.mpr ⟨qh_619, List.forall_mem_cons.mpr ⟨qh_5, fun _ h => by cases h⟩⟩⟩⟩)
theorem qo_L_78_S_working : GoodIn qa_WG (wsV R_law 78 R_S y_S_working qv_S_working) := qa_good qh_388 (List.forall_mem_cons.mpr ⟨qh_385, List.forall_mem_cons.mpr ⟨qh_386, List.forall_mem_cons.mpr ⟨qh_387, List.forall_mem_cons.mpr ⟨qh_1, fun _ h => by cases h⟩⟩⟩⟩)
theorem qo_L_81_M_working : GoodIn qa_WG (wsV R_law 81 R_M y_M_working qv_M_working) := qa_good qh_624 (List.forall_mem_cons.mpr ⟨qh_621, List.forall_mem_cons.mpr ⟨qh_622, List.forall_mem_cons.mpr ⟨qh_623, List.forall_mem_cons.mpr ⟨qh_5, fun _ h => by cases h⟩⟩⟩⟩)
theorem qo_L_82_S_marked : GoodIn qa_WG (wsV R_law 82 R_S y_S_marked qv_S_marked) := qa_good qh_393 (List.forall_mem_cons.mpr ⟨qh_390, List.forall_mem_cons.mpr ⟨qh_391, List.forall_mem_cons.mpr ⟨qh_392, List.forall_mem_cons.mpr ⟨qh_1, fun _ h => by cases h⟩⟩⟩⟩)
theorem qo_L_85_M_marked : GoodIn qa_WG (wsV R_law 85 R_M y_M_marked qv_M_marked) := qa_good qh_628 (List.forall_mem_cons.mpr ⟨qh_625, List.forall_mem_cons.mpr ⟨qh_626, List.forall_mem_cons.mpr ⟨qh_627, List.forall_mem_cons.mpr ⟨qh_5, fun _ h => by cases h⟩⟩⟩⟩)
theorem qo_L_86_S_head : GoodIn qa_WG (wsV R_law 86 R_S y_S_head qv_S_head) := qa_good qh_398 (List.forall_mem_cons.mpr ⟨qh_395, List.forall_mem_cons.mpr ⟨qh_396, List.forall_mem_cons.mpr ⟨qh_397, List.forall_mem_cons.mpr ⟨qh_1, fun _ h => by cases h⟩⟩⟩⟩)
theorem qo_L_89_M_head : GoodIn qa_WG (wsV R_law 89 R_M y_M_head qv_M_head) := qa_good qh_632 (List.forall_mem_cons.mpr ⟨qh_629, List.forall_mem_cons.mpr ⟨qh_630, List.forall_mem_cons.mpr ⟨qh_631, List.forall_mem_cons.mpr ⟨qh_5, fun _ h => by cases h⟩⟩⟩⟩)
theorem qo_L_90_S_commit : GoodIn qa_WG (wsV R_law 90 R_S y_S_commit qv_S_commit) := qa_good qh_407 (List.forall_mem_cons.mpr ⟨qh_404, List.forall_mem_cons.mpr ⟨qh_405, List.forall_mem_cons.mpr ⟨qh_406, List.forall_mem_cons.mpr ⟨qh_1, fun _ h => by cases h⟩⟩⟩⟩)
theorem qo_L_93_M_commit : GoodIn qa_WG (wsV R_law 93 R_M y_M_commit qv_M_commit) := qa_good qh_640 (List.forall_mem_cons.mpr ⟨qh_637, List.forall_mem_cons.mpr ⟨qh_638, List.forall_mem_cons.mpr ⟨qh_639, List.forall_mem_cons.mpr ⟨qh_5, fun _ h => by cases h⟩⟩⟩⟩)
theorem qo_L_94_S_count : GoodIn qa_WG (wsV R_law 94 R_S y_S_count qv_S_count) := qa_good qh_411 (List.forall_mem_cons.mpr ⟨qh_408, List.forall_mem_cons.mpr ⟨qh_409, List.forall_mem_cons.mpr ⟨qh_410, List.forall_mem_cons.mpr ⟨qh_1, fun _ h => by cases h⟩⟩⟩⟩)
theorem qo_L_98_M_count : GoodIn qa_WG (wsV R_law 98 R_M y_M_count qv_M_count) := qa_good qh_644 (List.forall_mem_cons.mpr ⟨qh_641, List.forall_mem_cons.mpr ⟨qh_642, List.forall_mem_cons.mpr ⟨qh_643, List.forall_mem_cons.mpr ⟨qh_5, fun _ h => by cases h⟩⟩⟩⟩)
/-! The law's walk: both worlds side by side. -/
def q_LS (dC : Nat → ClassId) (dI : Nat → Nat → Nat) (a a' : Nat → Nat) (k k' : Nat → ClassId) (A : Nat → Prop) (s : State) (x y : QX) (H : Heap) (locs : List Loc) : Prop :=
  qa_S (dC, dI) classes (qC_t k ++ qM_t k') (fun z : QX × QX => qC_w a k z.1 ++ qM_w a' k' z.2) A s (x, y) H locs
theorem lw_cutC {s : State} {H : Heap} {locs : List Loc} {A : Nat → Prop} {dC : Nat → ClassId} {dI : Nat → Nat → Nat} {a a' : Nat → Nat} {k k' : Nat → ClassId} {x y : QX} (S : q_LS dC dI a a' k k' A s x y H locs) : qa_S (dC, dI) classes (qC_t k) (qC_w a k) A s x H locs :=
  ⟨S.1.sub [0, 1, 2, 3, 4, 5, 6, 7, 8, 9, 10, 11, 12, 13, 14] rfl, S.2.1.sub [0, 1, 2, 3, 4, 5, 6, 7, 8, 9, 10, 11, 12, 13, 14] (by decide) rfl, S.2.2.1.sub [0, 1, 2, 3, 4, 5, 6, 7, 8, 9, 10] rfl, S.2.2.2.1, S.2.2.2.2.1, S.2.2.2.2.2⟩
theorem lw_cutM {s : State} {H : Heap} {locs : List Loc} {A : Nat → Prop} {dC : Nat → ClassId} {dI : Nat → Nat → Nat} {a a' : Nat → Nat} {k k' : Nat → ClassId} {x y : QX} (S : q_LS dC dI a a' k k' A s x y H locs) : qa_S (dC, dI) classes (qM_t k') (qM_w a' k') A s y H locs :=
  ⟨S.1.sub [15, 16, 17, 18, 19, 20, 21, 22, 23, 24, 25, 26, 27, 28] rfl, S.2.1.sub [15, 16, 17, 18, 19, 20, 21, 22, 23, 24, 25, 26, 27, 28] (by decide) rfl, S.2.2.1.sub [11, 12, 13, 14, 15, 16, 17, 18, 19, 20, 21, 22, 23] rfl, S.2.2.2.1, S.2.2.2.2.1, S.2.2.2.2.2⟩
theorem lw_callCi {p : Program} {l : Launch} {e : Env} {s : State} {m : MethodId} {below : List Frame} {meth : Method} {c : Code} {b : Nat} {H : Heap} {locs : List Loc} {A : Nat → Prop} {dC : Nat → ClassId} {dI : Nat → Nat → Nat} {a a' : Nat → Nat} {k k' : Nat → ClassId} {x y : QX} {pc : Nat} {ls : Array Slot} {rest st0 : List Value} {Q : State → Prop} {post : Int32 → QX → Prop} {aa : Array Value} (run : va_Run p l e room_1 s m #[Value.ref b] below meth c H locs 29 11716 0 0 (F0 m pc ls st0) rest (va_Qi post (qa_B (dC, dI) classes (qC_t k) (qC_w a k) (va_A (qC_w a k x) H.size)) (va_A (qC_w a k x) H.size) aa) (va_A (qC_w a k x) H.size)) (S : q_LS dC dI a a' k k' A s x y H locs)
    (kk : ∀ (r : Int32) (x' : QX) (H1 : Heap) (locs1 : List Loc), post r x' → q_LS dC dI a a' k k' A s x' y H1 locs1 → W p l e room_1 s m #[Value.ref b] below meth c H1 locs1 29 11716 Q (F0 m (pc + 3) ls (.int r :: rest))) : W p l e room_1 s m #[Value.ref b] below meth c H locs 29 11716 Q (F0 m pc ls st0) := by
  obtain ⟨hP, hD, hK, hS, hA, hN⟩ := S
  have hF := va_free (wc := qC_w a k x) hD hS hA [0, 1, 2, 3, 4, 5, 6, 7, 8, 9, 10, 11, 12, 13, 14] rfl
  refine va_calli run hS (fun q _ h => hF q h) hF (fun r u t H1 locs1 ht hvm hp hB hz hk hS1 => ?_)
  obtain ⟨hP1, hK1, hD1⟩ := hB
  rw [ht] at hP1
  obtain ⟨hP2, hD2⟩ := va_join (wr := qM_w a' k' y) (w1 := qC_w a k u) hP hD [0, 1, 2, 3, 4, 5, 6, 7, 8, 9, 10, 11, 12, 13, 14] [15, 16, 17, 18, 19, 20, 21, 22, 23, 24, 25, 26, 27, 28] rfl rfl (by decide) (by decide) hk hF hP1 hD1
  have hP3 := hP2.sub (ws' := qC_w a k u ++ qM_w a' k' y) [14, 15, 16, 17, 18, 19, 20, 21, 22, 23, 24, 25, 26, 27, 28, 0, 1, 2, 3, 4, 5, 6, 7, 8, 9, 10, 11, 12, 13] rfl
  have hD3 := hD2.sub (ws' := qC_w a k u ++ qM_w a' k' y) [14, 15, 16, 17, 18, 19, 20, 21, 22, 23, 24, 25, 26, 27, 28, 0, 1, 2, 3, 4, 5, 6, 7, 8, 9, 10, 11, 12, 13] (by decide) rfl
  exact kk r u H1 locs1 hp ⟨hP3, hD3, hK, hS1, hA, hN⟩
theorem lw_callMi {p : Program} {l : Launch} {e : Env} {s : State} {m : MethodId} {below : List Frame} {meth : Method} {c : Code} {b : Nat} {H : Heap} {locs : List Loc} {A : Nat → Prop} {dC : Nat → ClassId} {dI : Nat → Nat → Nat} {a a' : Nat → Nat} {k k' : Nat → ClassId} {x y : QX} {pc : Nat} {ls : Array Slot} {rest st0 : List Value} {Q : State → Prop} {post : Int32 → QX → Prop} {aa : Array Value} (run : va_Run p l e room_1 s m #[Value.ref b] below meth c H locs 29 11716 0 0 (F0 m pc ls st0) rest (va_Qi post (qa_B (dC, dI) classes (qM_t k') (qM_w a' k') (va_A (qM_w a' k' y) H.size)) (va_A (qM_w a' k' y) H.size) aa) (va_A (qM_w a' k' y) H.size)) (S : q_LS dC dI a a' k k' A s x y H locs)
    (kk : ∀ (r : Int32) (y' : QX) (H1 : Heap) (locs1 : List Loc), post r y' → q_LS dC dI a a' k k' A s x y' H1 locs1 → W p l e room_1 s m #[Value.ref b] below meth c H1 locs1 29 11716 Q (F0 m (pc + 3) ls (.int r :: rest))) : W p l e room_1 s m #[Value.ref b] below meth c H locs 29 11716 Q (F0 m pc ls st0) := by
  obtain ⟨hP, hD, hK, hS, hA, hN⟩ := S
  have hF := va_free (wc := qM_w a' k' y) hD hS hA [15, 16, 17, 18, 19, 20, 21, 22, 23, 24, 25, 26, 27, 28] rfl
  refine va_calli run hS (fun q _ h => hF q h) hF (fun r u t H1 locs1 ht hvm hp hB hz hk hS1 => ?_)
  obtain ⟨hP1, hK1, hD1⟩ := hB
  rw [ht] at hP1
  obtain ⟨hP2, hD2⟩ := va_join (wr := qC_w a k x) (w1 := qM_w a' k' u) hP hD [15, 16, 17, 18, 19, 20, 21, 22, 23, 24, 25, 26, 27, 28] [0, 1, 2, 3, 4, 5, 6, 7, 8, 9, 10, 11, 12, 13, 14] rfl rfl (by decide) (by decide) hk hF hP1 hD1
  exact kk r u H1 locs1 hp ⟨hP2, hD2, hK, hS1, hA, hN⟩
theorem lw_callCl {p : Program} {l : Launch} {e : Env} {s : State} {m : MethodId} {below : List Frame} {meth : Method} {c : Code} {b : Nat} {H : Heap} {locs : List Loc} {A : Nat → Prop} {dC : Nat → ClassId} {dI : Nat → Nat → Nat} {a a' : Nat → Nat} {k k' : Nat → ClassId} {x y : QX} {pc : Nat} {ls : Array Slot} {rest st0 : List Value} {Q : State → Prop} {post : Int64 → QX → Prop} {aa : Array Value} (run : va_Run p l e room_1 s m #[Value.ref b] below meth c H locs 29 11716 0 0 (F0 m pc ls st0) rest (va_Ql post (qa_B (dC, dI) classes (qC_t k) (qC_w a k) (va_A (qC_w a k x) H.size)) (va_A (qC_w a k x) H.size) aa) (va_A (qC_w a k x) H.size)) (S : q_LS dC dI a a' k k' A s x y H locs)
    (kk : ∀ (r : Int64) (x' : QX) (H1 : Heap) (locs1 : List Loc), post r x' → q_LS dC dI a a' k k' A s x' y H1 locs1 → W p l e room_1 s m #[Value.ref b] below meth c H1 locs1 29 11716 Q (F0 m (pc + 3) ls (.long r :: rest))) : W p l e room_1 s m #[Value.ref b] below meth c H locs 29 11716 Q (F0 m pc ls st0) := by
  obtain ⟨hP, hD, hK, hS, hA, hN⟩ := S
  have hF := va_free (wc := qC_w a k x) hD hS hA [0, 1, 2, 3, 4, 5, 6, 7, 8, 9, 10, 11, 12, 13, 14] rfl
  refine va_calll run hS (fun q _ h => hF q h) hF (fun r u t H1 locs1 ht hvm hp hB hz hk hS1 => ?_)
  obtain ⟨hP1, hK1, hD1⟩ := hB
  rw [ht] at hP1
  obtain ⟨hP2, hD2⟩ := va_join (wr := qM_w a' k' y) (w1 := qC_w a k u) hP hD [0, 1, 2, 3, 4, 5, 6, 7, 8, 9, 10, 11, 12, 13, 14] [15, 16, 17, 18, 19, 20, 21, 22, 23, 24, 25, 26, 27, 28] rfl rfl (by decide) (by decide) hk hF hP1 hD1
  have hP3 := hP2.sub (ws' := qC_w a k u ++ qM_w a' k' y) [14, 15, 16, 17, 18, 19, 20, 21, 22, 23, 24, 25, 26, 27, 28, 0, 1, 2, 3, 4, 5, 6, 7, 8, 9, 10, 11, 12, 13] rfl
  have hD3 := hD2.sub (ws' := qC_w a k u ++ qM_w a' k' y) [14, 15, 16, 17, 18, 19, 20, 21, 22, 23, 24, 25, 26, 27, 28, 0, 1, 2, 3, 4, 5, 6, 7, 8, 9, 10, 11, 12, 13] (by decide) rfl
  exact kk r u H1 locs1 hp ⟨hP3, hD3, hK, hS1, hA, hN⟩
theorem lw_callMl {p : Program} {l : Launch} {e : Env} {s : State} {m : MethodId} {below : List Frame} {meth : Method} {c : Code} {b : Nat} {H : Heap} {locs : List Loc} {A : Nat → Prop} {dC : Nat → ClassId} {dI : Nat → Nat → Nat} {a a' : Nat → Nat} {k k' : Nat → ClassId} {x y : QX} {pc : Nat} {ls : Array Slot} {rest st0 : List Value} {Q : State → Prop} {post : Int64 → QX → Prop} {aa : Array Value} (run : va_Run p l e room_1 s m #[Value.ref b] below meth c H locs 29 11716 0 0 (F0 m pc ls st0) rest (va_Ql post (qa_B (dC, dI) classes (qM_t k') (qM_w a' k') (va_A (qM_w a' k' y) H.size)) (va_A (qM_w a' k' y) H.size) aa) (va_A (qM_w a' k' y) H.size)) (S : q_LS dC dI a a' k k' A s x y H locs)
    (kk : ∀ (r : Int64) (y' : QX) (H1 : Heap) (locs1 : List Loc), post r y' → q_LS dC dI a a' k k' A s x y' H1 locs1 → W p l e room_1 s m #[Value.ref b] below meth c H1 locs1 29 11716 Q (F0 m (pc + 3) ls (.long r :: rest))) : W p l e room_1 s m #[Value.ref b] below meth c H locs 29 11716 Q (F0 m pc ls st0) := by
  obtain ⟨hP, hD, hK, hS, hA, hN⟩ := S
  have hF := va_free (wc := qM_w a' k' y) hD hS hA [15, 16, 17, 18, 19, 20, 21, 22, 23, 24, 25, 26, 27, 28] rfl
  refine va_calll run hS (fun q _ h => hF q h) hF (fun r u t H1 locs1 ht hvm hp hB hz hk hS1 => ?_)
  obtain ⟨hP1, hK1, hD1⟩ := hB
  rw [ht] at hP1
  obtain ⟨hP2, hD2⟩ := va_join (wr := qC_w a k x) (w1 := qM_w a' k' u) hP hD [15, 16, 17, 18, 19, 20, 21, 22, 23, 24, 25, 26, 27, 28] [0, 1, 2, 3, 4, 5, 6, 7, 8, 9, 10, 11, 12, 13, 14] rfl rfl (by decide) (by decide) hk hF hP1 hD1
  exact kk r u H1 locs1 hp ⟨hP2, hD2, hK, hS1, hA, hN⟩
theorem lw_runV {p : Program} {l : Launch} {e : Env} {R : Room} {s : State} {m : MethodId} {args : Array Value} {below : List Frame} {meth : Method} {c : Code} {H : Heap} {locs : List Loc} {cells slots : Nat} {D : va_G} {cl : List vw_C} {tys : List (ClassId × FieldType)} {X : Type} {wf : X → va_W} {A : Nat → Prop} {x : X} {cc : ByteArray} {nL : Nat} {own : String} {pc : Nat} {ls : Array Slot} {rest st0 : List Value} {retC : Option FieldType} {y : MethodName} {bytes : ByteArray} {maxL index n : Nat} {wsC : List Cond} {rm : Room} {Qc : Array Value → State → Outcome → State → Prop} {free : Addr → Prop} {As : List Value} {b : Nat} {Cn : String}
    (C : CallFix p m c cc nL s args qa_WG own) (S : qa_S D cl tys wf A s x H locs) (hM : Met l y wsC rm (qa_Pre D cl tys wf (.ref b :: As) x H.size) Qc 0 0 free)
    (cw : CallW R s args own Cn index y bytes maxL retC wsC rm 0 0 n) (hrecv : ∃ cellB : Cell, H[b]? = some cellB ∧ cellB.vm.isStatics = false ∧ s.vm.findClass Cn = some cellB.cls)
    (hn : As.length = n) (hls : ls.size = nL) (hst : st0 = As.reverse ++ .ref b :: rest) (hroom : (rest.map fun v => v.category).sum ≤ 8) (hdg : decode cc pc = .ok (.invokevirtual index, 3)) (hf : cells + 0 ≤ R.cells ∧ slots + 0 ≤ R.slots) :
    va_Run p l e R s m args below meth c H locs cells slots 0 0 (F0 m pc ls st0) rest (Qc (Value.ref b :: As).toArray) free :=
  va_runV C hM cw ⟨qa_blind, hrecv, fun U hU hW => qa_pre S U hU hW⟩ rfl hn hls hst (lv_room hroom) hdg hf
