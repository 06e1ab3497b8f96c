set_option maxRecDepth 20000 in
theorem wk_330 : ((Jvm.Cond.selects "WorkspaceBox$Picture" ({ cls := "WorkspaceBox$Picture", name := "writeData", desc := "(I)V" } : Jvm.MethodName) ({ cls := "WorkspaceBox$Picture", name := "writeData", desc := "(I)V" } : Jvm.MethodName)) : Cond) ∈ wq_all := List.mem_of_getElem? (i := 330) (by decide +kernel)
set_option maxRecDepth 20000 in
theorem wk_331 : ((Jvm.Cond.code ({ cls := "WorkspaceBox$Picture", name := "writeData", desc := "(I)V" } : Jvm.MethodName) prog_5_method_4_code (2 : Nat) (Option.none : Option Jvm.ClassFile.FieldType)) : Cond) ∈ wq_all := List.mem_of_getElem? (i := 331) (by decide +kernel)
set_option maxRecDepth 20000 in
theorem wk_332 : ((Jvm.Cond.methodLink "WorkspaceBox$Picture" (42 : Nat) ({ cls := "WorkspaceBox$Bytes", name := "put", desc := "(II)V" } : Jvm.MethodName)) : Cond) ∈ wq_all := List.mem_of_getElem? (i := 332) (by decide +kernel)
set_option maxRecDepth 20000 in
theorem wk_333 : ((Jvm.Cond.methodLink "WorkspaceBox$Memory" (72 : Nat) ({ cls := "WorkspaceBox$Grom", name := "writeAddress", desc := "(I)V" } : Jvm.MethodName)) : Cond) ∈ wq_all := List.mem_of_getElem? (i := 333) (by decide +kernel)
set_option maxRecDepth 20000 in
theorem wk_334 : ((Jvm.Cond.instanceMethod ({ cls := "WorkspaceBox$Grom", name := "writeAddress", desc := "(I)V" } : Jvm.MethodName)) : Cond) ∈ wq_all := List.mem_of_getElem? (i := 334) (by decide +kernel)
set_option maxRecDepth 20000 in
theorem wk_335 : ((Jvm.Cond.selects "WorkspaceBox$Grom" ({ cls := "WorkspaceBox$Grom", name := "writeAddress", desc := "(I)V" } : Jvm.MethodName) ({ cls := "WorkspaceBox$Grom", name := "writeAddress", desc := "(I)V" } : Jvm.MethodName)) : Cond) ∈ wq_all := List.mem_of_getElem? (i := 335) (by decide +kernel)
set_option maxRecDepth 20000 in
theorem wk_336 : ((Jvm.Cond.code ({ cls := "WorkspaceBox$Grom", name := "writeAddress", desc := "(I)V" } : Jvm.MethodName) prog_3_method_4_code (2 : Nat) (Option.none : Option Jvm.ClassFile.FieldType)) : Cond) ∈ wq_all := List.mem_of_getElem? (i := 336) (by decide +kernel)
set_option maxRecDepth 20000 in
theorem wk_337 : ((Jvm.Cond.constant "WorkspaceBox$Grom" (36 : Nat) (65280 : Int32)) : Cond) ∈ wq_all := List.mem_of_getElem? (i := 337) (by decide +kernel)
set_option maxRecDepth 20000 in
theorem wk_338 : ((Jvm.Cond.methodLink "WorkspaceBox$Grom" (27 : Nat) ({ cls := "WorkspaceBox$Bytes", name := "get", desc := "(I)I" } : Jvm.MethodName)) : Cond) ∈ wq_all := List.mem_of_getElem? (i := 338) (by decide +kernel)
set_option maxRecDepth 20000 in
theorem wk_339 : ((Jvm.Cond.constant "WorkspaceBox$Grom" (31 : Nat) (57344 : Int32)) : Cond) ∈ wq_all := List.mem_of_getElem? (i := 339) (by decide +kernel)
set_option maxRecDepth 20000 in
theorem wk_340 : ((Jvm.Cond.methodLink "WorkspaceBox$Memory" (75 : Nat) ({ cls := "WorkspaceBox$Memory", name := "store", desc := "(II)V" } : Jvm.MethodName)) : Cond) ∈ wq_all := List.mem_of_getElem? (i := 340) (by decide +kernel)
set_option maxRecDepth 20000 in
theorem wk_341 : ((Jvm.Cond.instanceMethod ({ cls := "WorkspaceBox$Memory", name := "store", desc := "(II)V" } : Jvm.MethodName)) : Cond) ∈ wq_all := List.mem_of_getElem? (i := 341) (by decide +kernel)
set_option maxRecDepth 20000 in
theorem wk_342 : ((Jvm.Cond.code ({ cls := "WorkspaceBox$Memory", name := "store", desc := "(II)V" } : Jvm.MethodName) prog_4_method_7_code (3 : Nat) (Option.none : Option Jvm.ClassFile.FieldType)) : Cond) ∈ wq_all := List.mem_of_getElem? (i := 342) (by decide +kernel)
set_option maxRecDepth 20000 in
theorem wk_343 : ((Jvm.Cond.methodLink "WorkspaceBox$Memory" (83 : Nat) ({ cls := "WorkspaceBox$Bytes", name := "put", desc := "(II)V" } : Jvm.MethodName)) : Cond) ∈ wq_all := List.mem_of_getElem? (i := 343) (by decide +kernel)
set_option maxRecDepth 20000 in
theorem wk_344 : ((Jvm.Cond.constant "WorkspaceBox$Memory" (81 : Nat) (40960 : Int32)) : Cond) ∈ wq_all := List.mem_of_getElem? (i := 344) (by decide +kernel)
set_option maxRecDepth 20000 in
theorem wk_345 : ((Jvm.Cond.constant "WorkspaceBox$Memory" (82 : Nat) (33792 : Int32)) : Cond) ∈ wq_all := List.mem_of_getElem? (i := 345) (by decide +kernel)
set_option maxRecDepth 20000 in
theorem wk_346 : ((Jvm.Cond.methodLink "WorkspaceBoxLaw" (38 : Nat) ({ cls := "WorkspaceBox", name := "reset", desc := "()V" } : Jvm.MethodName)) : Cond) ∈ wq_all := List.mem_of_getElem? (i := 346) (by decide +kernel)
set_option maxRecDepth 20000 in
theorem wk_347 : ((Jvm.Cond.instanceMethod ({ cls := "WorkspaceBox", name := "reset", desc := "()V" } : Jvm.MethodName)) : Cond) ∈ wq_all := List.mem_of_getElem? (i := 347) (by decide +kernel)
set_option maxRecDepth 20000 in
theorem wk_348 : ((Jvm.Cond.selects "WorkspaceBox" ({ cls := "WorkspaceBox", name := "reset", desc := "()V" } : Jvm.MethodName) ({ cls := "WorkspaceBox", name := "reset", desc := "()V" } : Jvm.MethodName)) : Cond) ∈ wq_all := List.mem_of_getElem? (i := 348) (by decide +kernel)
set_option maxRecDepth 20000 in
theorem wk_349 : ((Jvm.Cond.code ({ cls := "WorkspaceBox", name := "reset", desc := "()V" } : Jvm.MethodName) prog_1_method_8_code (1 : Nat) (Option.none : Option Jvm.ClassFile.FieldType)) : Cond) ∈ wq_all := List.mem_of_getElem? (i := 349) (by decide +kernel)
set_option maxRecDepth 20000 in
theorem wk_350 : ((Jvm.Cond.methodLink "WorkspaceBox" (92 : Nat) ({ cls := "WorkspaceBox$Processor", name := "restart", desc := "()V" } : Jvm.MethodName)) : Cond) ∈ wq_all := List.mem_of_getElem? (i := 350) (by decide +kernel)
set_option maxRecDepth 20000 in
theorem wk_351 : ((Jvm.Cond.instanceMethod ({ cls := "WorkspaceBox$Processor", name := "restart", desc := "()V" } : Jvm.MethodName)) : Cond) ∈ wq_all := List.mem_of_getElem? (i := 351) (by decide +kernel)
set_option maxRecDepth 20000 in
theorem wk_352 : ((Jvm.Cond.selects "WorkspaceBox$Processor" ({ cls := "WorkspaceBox$Processor", name := "restart", desc := "()V" } : Jvm.MethodName) ({ cls := "WorkspaceBox$Processor", name := "restart", desc := "()V" } : Jvm.MethodName)) : Cond) ∈ wq_all := List.mem_of_getElem? (i := 352) (by decide +kernel)
set_option maxRecDepth 20000 in
theorem wk_353 : ((Jvm.Cond.code ({ cls := "WorkspaceBox$Processor", name := "restart", desc := "()V" } : Jvm.MethodName) prog_6_method_2_code (1 : Nat) (Option.none : Option Jvm.ClassFile.FieldType)) : Cond) ∈ wq_all := List.mem_of_getElem? (i := 353) (by decide +kernel)
set_option maxRecDepth 20000 in
theorem wk_354 : ((Jvm.Cond.methodLink "WorkspaceBox$Processor" (25 : Nat) ({ cls := "WorkspaceBox$Memory", name := "wordAt", desc := "(I)I" } : Jvm.MethodName)) : Cond) ∈ wq_all := List.mem_of_getElem? (i := 354) (by decide +kernel)
set_option maxRecDepth 20000 in
theorem wk_355 : ((Jvm.Cond.instanceMethod ({ cls := "WorkspaceBox$Memory", name := "wordAt", desc := "(I)I" } : Jvm.MethodName)) : Cond) ∈ wq_all := List.mem_of_getElem? (i := 355) (by decide +kernel)
set_option maxRecDepth 20000 in
theorem wk_356 : ((Jvm.Cond.selects "WorkspaceBox$Memory" ({ cls := "WorkspaceBox$Memory", name := "wordAt", desc := "(I)I" } : Jvm.MethodName) ({ cls := "WorkspaceBox$Memory", name := "wordAt", desc := "(I)I" } : Jvm.MethodName)) : Cond) ∈ wq_all := List.mem_of_getElem? (i := 356) (by decide +kernel)
set_option maxRecDepth 20000 in
theorem wk_357 : ((Jvm.Cond.code ({ cls := "WorkspaceBox$Memory", name := "wordAt", desc := "(I)I" } : Jvm.MethodName) prog_4_method_2_code (3 : Nat) (Option.some Jvm.ClassFile.FieldType.int)) : Cond) ∈ wq_all := List.mem_of_getElem? (i := 357) (by decide +kernel)
set_option maxRecDepth 20000 in
theorem wk_358 : ((Jvm.Cond.constant "WorkspaceBox$Memory" (37 : Nat) (65534 : Int32)) : Cond) ∈ wq_all := List.mem_of_getElem? (i := 358) (by decide +kernel)
set_option maxRecDepth 20000 in
theorem wk_359 : ((Jvm.Cond.methodLink "WorkspaceBox$Memory" (38 : Nat) ({ cls := "WorkspaceBox$Memory", name := "byteAt", desc := "(I)I" } : Jvm.MethodName)) : Cond) ∈ wq_all := List.mem_of_getElem? (i := 359) (by decide +kernel)
set_option maxRecDepth 20000 in
theorem wk_360 : ((Jvm.Cond.instanceMethod ({ cls := "WorkspaceBox$Memory", name := "byteAt", desc := "(I)I" } : Jvm.MethodName)) : Cond) ∈ wq_all := List.mem_of_getElem? (i := 360) (by decide +kernel)
set_option maxRecDepth 20000 in
theorem wk_361 : ((Jvm.Cond.selects "WorkspaceBox$Memory" ({ cls := "WorkspaceBox$Memory", name := "byteAt", desc := "(I)I" } : Jvm.MethodName) ({ cls := "WorkspaceBox$Memory", name := "byteAt", desc := "(I)I" } : Jvm.MethodName)) : Cond) ∈ wq_all := List.mem_of_getElem? (i := 361) (by decide +kernel)
set_option maxRecDepth 20000 in
theorem wk_362 : ((Jvm.Cond.code ({ cls := "WorkspaceBox$Memory", name := "byteAt", desc := "(I)I" } : Jvm.MethodName) prog_4_method_4_code (4 : Nat) (Option.some Jvm.ClassFile.FieldType.int)) : Cond) ∈ wq_all := List.mem_of_getElem? (i := 362) (by decide +kernel)
set_option maxRecDepth 20000 in
theorem wk_363 : ((Jvm.Cond.methodLink "WorkspaceBox$Memory" (48 : Nat) ({ cls := "WorkspaceBox$Picture", name := "readStatus", desc := "()I" } : Jvm.MethodName)) : Cond) ∈ wq_all := List.mem_of_getElem? (i := 363) (by decide +kernel)
set_option maxRecDepth 20000 in
theorem wk_364 : ((Jvm.Cond.instanceMethod ({ cls := "WorkspaceBox$Picture", name := "readStatus", desc := "()I" } : Jvm.MethodName)) : Cond) ∈ wq_all := List.mem_of_getElem? (i := 364) (by decide +kernel)
set_option maxRecDepth 20000 in
theorem wk_365 : ((Jvm.Cond.selects "WorkspaceBox$Picture" ({ cls := "WorkspaceBox$Picture", name := "readStatus", desc := "()I" } : Jvm.MethodName) ({ cls := "WorkspaceBox$Picture", name := "readStatus", desc := "()I" } : Jvm.MethodName)) : Cond) ∈ wq_all := List.mem_of_getElem? (i := 365) (by decide +kernel)
set_option maxRecDepth 20000 in
theorem wk_366 : ((Jvm.Cond.code ({ cls := "WorkspaceBox$Picture", name := "readStatus", desc := "()I" } : Jvm.MethodName) prog_5_method_3_code (2 : Nat) (Option.some Jvm.ClassFile.FieldType.int)) : Cond) ∈ wq_all := List.mem_of_getElem? (i := 366) (by decide +kernel)
set_option maxRecDepth 20000 in
theorem wk_367 : ((Jvm.Cond.methodLink "WorkspaceBox$Memory" (54 : Nat) ({ cls := "WorkspaceBox$Picture", name := "readData", desc := "()I" } : Jvm.MethodName)) : Cond) ∈ wq_all := List.mem_of_getElem? (i := 367) (by decide +kernel)
set_option maxRecDepth 20000 in
theorem wk_368 : ((Jvm.Cond.instanceMethod ({ cls := "WorkspaceBox$Picture", name := "readData", desc := "()I" } : Jvm.MethodName)) : Cond) ∈ wq_all := List.mem_of_getElem? (i := 368) (by decide +kernel)
set_option maxRecDepth 20000 in
theorem wk_369 : ((Jvm.Cond.selects "WorkspaceBox$Picture" ({ cls := "WorkspaceBox$Picture", name := "readData", desc := "()I" } : Jvm.MethodName) ({ cls := "WorkspaceBox$Picture", name := "readData", desc := "()I" } : Jvm.MethodName)) : Cond) ∈ wq_all := List.mem_of_getElem? (i := 369) (by decide +kernel)
set_option maxRecDepth 20000 in
theorem wk_370 : ((Jvm.Cond.code ({ cls := "WorkspaceBox$Picture", name := "readData", desc := "()I" } : Jvm.MethodName) prog_5_method_2_code (2 : Nat) (Option.some Jvm.ClassFile.FieldType.int)) : Cond) ∈ wq_all := List.mem_of_getElem? (i := 370) (by decide +kernel)
set_option maxRecDepth 20000 in
theorem wk_371 : ((Jvm.Cond.methodLink "WorkspaceBox$Memory" (57 : Nat) ({ cls := "WorkspaceBox$Grom", name := "readAddress", desc := "()I" } : Jvm.MethodName)) : Cond) ∈ wq_all := List.mem_of_getElem? (i := 371) (by decide +kernel)
set_option maxRecDepth 20000 in
theorem wk_372 : ((Jvm.Cond.instanceMethod ({ cls := "WorkspaceBox$Grom", name := "readAddress", desc := "()I" } : Jvm.MethodName)) : Cond) ∈ wq_all := List.mem_of_getElem? (i := 372) (by decide +kernel)
set_option maxRecDepth 20000 in
theorem wk_373 : ((Jvm.Cond.selects "WorkspaceBox$Grom" ({ cls := "WorkspaceBox$Grom", name := "readAddress", desc := "()I" } : Jvm.MethodName) ({ cls := "WorkspaceBox$Grom", name := "readAddress", desc := "()I" } : Jvm.MethodName)) : Cond) ∈ wq_all := List.mem_of_getElem? (i := 373) (by decide +kernel)
set_option maxRecDepth 20000 in
theorem wk_374 : ((Jvm.Cond.code ({ cls := "WorkspaceBox$Grom", name := "readAddress", desc := "()I" } : Jvm.MethodName) prog_3_method_3_code (2 : Nat) (Option.some Jvm.ClassFile.FieldType.int)) : Cond) ∈ wq_all := List.mem_of_getElem? (i := 374) (by decide +kernel)
set_option maxRecDepth 20000 in
theorem wk_375 : ((Jvm.Cond.methodLink "WorkspaceBox$Memory" (62 : Nat) ({ cls := "WorkspaceBox$Grom", name := "readData", desc := "()I" } : Jvm.MethodName)) : Cond) ∈ wq_all := List.mem_of_getElem? (i := 375) (by decide +kernel)
set_option maxRecDepth 20000 in
theorem wk_376 : ((Jvm.Cond.instanceMethod ({ cls := "WorkspaceBox$Grom", name := "readData", desc := "()I" } : Jvm.MethodName)) : Cond) ∈ wq_all := List.mem_of_getElem? (i := 376) (by decide +kernel)
set_option maxRecDepth 20000 in
theorem wk_377 : ((Jvm.Cond.selects "WorkspaceBox$Grom" ({ cls := "WorkspaceBox$Grom", name := "readData", desc := "()I" } : Jvm.MethodName) ({ cls := "WorkspaceBox$Grom", name := "readData", desc := "()I" } : Jvm.MethodName)) : Cond) ∈ wq_all := List.mem_of_getElem? (i := 377) (by decide +kernel)
set_option maxRecDepth 20000 in
theorem wk_378 : ((Jvm.Cond.code ({ cls := "WorkspaceBox$Grom", name := "readData", desc := "()I" } : Jvm.MethodName) prog_3_method_2_code (2 : Nat) (Option.some Jvm.ClassFile.FieldType.int)) : Cond) ∈ wq_all := List.mem_of_getElem? (i := 378) (by decide +kernel)
set_option maxRecDepth 20000 in
theorem wk_379 : ((Jvm.Cond.methodLink "WorkspaceBox$Memory" (63 : Nat) ({ cls := "WorkspaceBox$Memory", name := "storedAt", desc := "(I)I" } : Jvm.MethodName)) : Cond) ∈ wq_all := List.mem_of_getElem? (i := 379) (by decide +kernel)
set_option maxRecDepth 20000 in
theorem wk_380 : ((Jvm.Cond.instanceMethod ({ cls := "WorkspaceBox$Memory", name := "storedAt", desc := "(I)I" } : Jvm.MethodName)) : Cond) ∈ wq_all := List.mem_of_getElem? (i := 380) (by decide +kernel)
set_option maxRecDepth 20000 in
theorem wk_381 : ((Jvm.Cond.selects "WorkspaceBox$Memory" ({ cls := "WorkspaceBox$Memory", name := "storedAt", desc := "(I)I" } : Jvm.MethodName) ({ cls := "WorkspaceBox$Memory", name := "storedAt", desc := "(I)I" } : Jvm.MethodName)) : Cond) ∈ wq_all := List.mem_of_getElem? (i := 381) (by decide +kernel)
set_option maxRecDepth 20000 in
theorem wk_382 : ((Jvm.Cond.code ({ cls := "WorkspaceBox$Memory", name := "storedAt", desc := "(I)I" } : Jvm.MethodName) prog_4_method_6_code (2 : Nat) (Option.some Jvm.ClassFile.FieldType.int)) : Cond) ∈ wq_all := List.mem_of_getElem? (i := 382) (by decide +kernel)
set_option maxRecDepth 20000 in
theorem wk_383 : ((Jvm.Cond.methodLink "WorkspaceBox$Memory" (78 : Nat) ({ cls := "WorkspaceBox$Bytes", name := "get", desc := "(I)I" } : Jvm.MethodName)) : Cond) ∈ wq_all := List.mem_of_getElem? (i := 383) (by decide +kernel)
set_option maxRecDepth 20000 in
theorem wk_384 : ((Jvm.Cond.constant "WorkspaceBox$Processor" (31 : Nat) (65534 : Int32)) : Cond) ∈ wq_all := List.mem_of_getElem? (i := 384) (by decide +kernel)
set_option maxRecDepth 20000 in
theorem wk_385 : ((Jvm.Cond.methodLink "WorkspaceBoxLaw" (48 : Nat) ({ cls := "WorkspaceBox", name := "state", desc := "(I)I" } : Jvm.MethodName)) : Cond) ∈ wq_all := List.mem_of_getElem? (i := 385) (by decide +kernel)
set_option maxRecDepth 20000 in
theorem wk_386 : ((Jvm.Cond.instanceMethod ({ cls := "WorkspaceBox", name := "state", desc := "(I)I" } : Jvm.MethodName)) : Cond) ∈ wq_all := List.mem_of_getElem? (i := 386) (by decide +kernel)
set_option maxRecDepth 20000 in
theorem wk_387 : ((Jvm.Cond.selects "WorkspaceBox" ({ cls := "WorkspaceBox", name := "state", desc := "(I)I" } : Jvm.MethodName) ({ cls := "WorkspaceBox", name := "state", desc := "(I)I" } : Jvm.MethodName)) : Cond) ∈ wq_all := List.mem_of_getElem? (i := 387) (by decide +kernel)
set_option maxRecDepth 20000 in
theorem wk_388 : ((Jvm.Cond.code ({ cls := "WorkspaceBox", name := "state", desc := "(I)I" } : Jvm.MethodName) prog_1_method_10_code (2 : Nat) (Option.some Jvm.ClassFile.FieldType.int)) : Cond) ∈ wq_all := List.mem_of_getElem? (i := 388) (by decide +kernel)
set_option maxRecDepth 20000 in
theorem wk_389 : ((Jvm.Cond.methodLink "WorkspaceBox" (127 : Nat) ({ cls := "WorkspaceBox$Memory", name := "wordAt", desc := "(I)I" } : Jvm.MethodName)) : Cond) ∈ wq_all := List.mem_of_getElem? (i := 389) (by decide +kernel)
set_option maxRecDepth 20000 in
theorem wk_390 : ((Jvm.Cond.methodLink "WorkspaceBoxLaw" (52 : Nat) ({ cls := "WorkspaceBox", name := "peek", desc := "(I)I" } : Jvm.MethodName)) : Cond) ∈ wq_all := List.mem_of_getElem? (i := 390) (by decide +kernel)
set_option maxRecDepth 20000 in
theorem wk_391 : ((Jvm.Cond.instanceMethod ({ cls := "WorkspaceBox", name := "peek", desc := "(I)I" } : Jvm.MethodName)) : Cond) ∈ wq_all := List.mem_of_getElem? (i := 391) (by decide +kernel)
set_option maxRecDepth 20000 in
theorem wk_392 : ((Jvm.Cond.selects "WorkspaceBox" ({ cls := "WorkspaceBox", name := "peek", desc := "(I)I" } : Jvm.MethodName) ({ cls := "WorkspaceBox", name := "peek", desc := "(I)I" } : Jvm.MethodName)) : Cond) ∈ wq_all := List.mem_of_getElem? (i := 392) (by decide +kernel)
set_option maxRecDepth 20000 in
theorem wk_393 : ((Jvm.Cond.code ({ cls := "WorkspaceBox", name := "peek", desc := "(I)I" } : Jvm.MethodName) prog_1_method_11_code (2 : Nat) (Option.some Jvm.ClassFile.FieldType.int)) : Cond) ∈ wq_all := List.mem_of_getElem? (i := 393) (by decide +kernel)
set_option maxRecDepth 20000 in
theorem wk_394 : ((Jvm.Cond.methodLink "WorkspaceBox" (130 : Nat) ({ cls := "WorkspaceBox$Memory", name := "storedAt", desc := "(I)I" } : Jvm.MethodName)) : Cond) ∈ wq_all := List.mem_of_getElem? (i := 394) (by decide +kernel)
set_option maxRecDepth 20000 in
theorem wk_395 : ((Jvm.Cond.methodLink "WorkspaceBoxLaw" (56 : Nat) ({ cls := "WorkspaceBox", name := "set", desc := "(II)Z" } : Jvm.MethodName)) : Cond) ∈ wq_all := List.mem_of_getElem? (i := 395) (by decide +kernel)
set_option maxRecDepth 20000 in
theorem wk_396 : ((Jvm.Cond.instanceMethod ({ cls := "WorkspaceBox", name := "set", desc := "(II)Z" } : Jvm.MethodName)) : Cond) ∈ wq_all := List.mem_of_getElem? (i := 396) (by decide +kernel)
set_option maxRecDepth 20000 in
theorem wk_397 : ((Jvm.Cond.selects "WorkspaceBox" ({ cls := "WorkspaceBox", name := "set", desc := "(II)Z" } : Jvm.MethodName) ({ cls := "WorkspaceBox", name := "set", desc := "(II)Z" } : Jvm.MethodName)) : Cond) ∈ wq_all := List.mem_of_getElem? (i := 397) (by decide +kernel)
set_option maxRecDepth 20000 in
theorem wk_398 : ((Jvm.Cond.code ({ cls := "WorkspaceBox", name := "set", desc := "(II)Z" } : Jvm.MethodName) prog_1_method_12_code (3 : Nat) (Option.some Jvm.ClassFile.FieldType.boolean)) : Cond) ∈ wq_all := List.mem_of_getElem? (i := 398) (by decide +kernel)
set_option maxRecDepth 20000 in
theorem wk_399 : ((Jvm.Cond.constant "WorkspaceBox" (133 : Nat) (65534 : Int32)) : Cond) ∈ wq_all := List.mem_of_getElem? (i := 399) (by decide +kernel)
set_option maxRecDepth 20000 in
theorem wk_400 : ((Jvm.Cond.constant "WorkspaceBox" (134 : Nat) (65039 : Int32)) : Cond) ∈ wq_all := List.mem_of_getElem? (i := 400) (by decide +kernel)
set_option maxRecDepth 20000 in
theorem wk_401 : ((Jvm.Cond.methodLink "WorkspaceBoxLaw" (61 : Nat) ({ cls := "WorkspaceBox", name := "picture", desc := "(I)I" } : Jvm.MethodName)) : Cond) ∈ wq_all := List.mem_of_getElem? (i := 401) (by decide +kernel)
set_option maxRecDepth 20000 in
theorem wk_402 : ((Jvm.Cond.instanceMethod ({ cls := "WorkspaceBox", name := "picture", desc := "(I)I" } : Jvm.MethodName)) : Cond) ∈ wq_all := List.mem_of_getElem? (i := 402) (by decide +kernel)
set_option maxRecDepth 20000 in
theorem wk_403 : ((Jvm.Cond.selects "WorkspaceBox" ({ cls := "WorkspaceBox", name := "picture", desc := "(I)I" } : Jvm.MethodName) ({ cls := "WorkspaceBox", name := "picture", desc := "(I)I" } : Jvm.MethodName)) : Cond) ∈ wq_all := List.mem_of_getElem? (i := 403) (by decide +kernel)
set_option maxRecDepth 20000 in
theorem wk_404 : ((Jvm.Cond.code ({ cls := "WorkspaceBox", name := "picture", desc := "(I)I" } : Jvm.MethodName) prog_1_method_13_code (2 : Nat) (Option.some Jvm.ClassFile.FieldType.int)) : Cond) ∈ wq_all := List.mem_of_getElem? (i := 404) (by decide +kernel)
set_option maxRecDepth 20000 in
theorem wk_405 : ((Jvm.Cond.methodLink "WorkspaceBoxLaw" (68 : Nat) ({ cls := "WorkspaceBox", name := "grom", desc := "(I)I" } : Jvm.MethodName)) : Cond) ∈ wq_all := List.mem_of_getElem? (i := 405) (by decide +kernel)
set_option maxRecDepth 20000 in
theorem wk_406 : ((Jvm.Cond.instanceMethod ({ cls := "WorkspaceBox", name := "grom", desc := "(I)I" } : Jvm.MethodName)) : Cond) ∈ wq_all := List.mem_of_getElem? (i := 406) (by decide +kernel)
set_option maxRecDepth 20000 in
theorem wk_407 : ((Jvm.Cond.selects "WorkspaceBox" ({ cls := "WorkspaceBox", name := "grom", desc := "(I)I" } : Jvm.MethodName) ({ cls := "WorkspaceBox", name := "grom", desc := "(I)I" } : Jvm.MethodName)) : Cond) ∈ wq_all := List.mem_of_getElem? (i := 407) (by decide +kernel)
set_option maxRecDepth 20000 in
theorem wk_408 : ((Jvm.Cond.code ({ cls := "WorkspaceBox", name := "grom", desc := "(I)I" } : Jvm.MethodName) prog_1_method_15_code (2 : Nat) (Option.some Jvm.ClassFile.FieldType.int)) : Cond) ∈ wq_all := List.mem_of_getElem? (i := 408) (by decide +kernel)
set_option maxRecDepth 20000 in
theorem wk_409 : ((Jvm.Cond.methodLink "WorkspaceBoxLaw" (72 : Nat) ({ cls := "WorkspaceBox", name := "frame", desc := "()V" } : Jvm.MethodName)) : Cond) ∈ wq_all := List.mem_of_getElem? (i := 409) (by decide +kernel)
set_option maxRecDepth 20000 in
theorem wk_410 : ((Jvm.Cond.instanceMethod ({ cls := "WorkspaceBox", name := "frame", desc := "()V" } : Jvm.MethodName)) : Cond) ∈ wq_all := List.mem_of_getElem? (i := 410) (by decide +kernel)
set_option maxRecDepth 20000 in
theorem wk_411 : ((Jvm.Cond.selects "WorkspaceBox" ({ cls := "WorkspaceBox", name := "frame", desc := "()V" } : Jvm.MethodName) ({ cls := "WorkspaceBox", name := "frame", desc := "()V" } : Jvm.MethodName)) : Cond) ∈ wq_all := List.mem_of_getElem? (i := 411) (by decide +kernel)
set_option maxRecDepth 20000 in
theorem wk_412 : ((Jvm.Cond.code ({ cls := "WorkspaceBox", name := "frame", desc := "()V" } : Jvm.MethodName) prog_1_method_16_code (1 : Nat) (Option.none : Option Jvm.ClassFile.FieldType)) : Cond) ∈ wq_all := List.mem_of_getElem? (i := 412) (by decide +kernel)
set_option maxRecDepth 20000 in
theorem wk_413 : ((Jvm.Cond.methodLink "WorkspaceBoxLaw" (76 : Nat) ({ cls := "WorkspaceBox", name := "interrupt", desc := "(I)Z" } : Jvm.MethodName)) : Cond) ∈ wq_all := List.mem_of_getElem? (i := 413) (by decide +kernel)
set_option maxRecDepth 20000 in
theorem wk_414 : ((Jvm.Cond.instanceMethod ({ cls := "WorkspaceBox", name := "interrupt", desc := "(I)Z" } : Jvm.MethodName)) : Cond) ∈ wq_all := List.mem_of_getElem? (i := 414) (by decide +kernel)
set_option maxRecDepth 20000 in
theorem wk_415 : ((Jvm.Cond.selects "WorkspaceBox" ({ cls := "WorkspaceBox", name := "interrupt", desc := "(I)Z" } : Jvm.MethodName) ({ cls := "WorkspaceBox", name := "interrupt", desc := "(I)Z" } : Jvm.MethodName)) : Cond) ∈ wq_all := List.mem_of_getElem? (i := 415) (by decide +kernel)
set_option maxRecDepth 20000 in
theorem wk_416 : ((Jvm.Cond.code ({ cls := "WorkspaceBox", name := "interrupt", desc := "(I)Z" } : Jvm.MethodName) prog_1_method_17_code (2 : Nat) (Option.some Jvm.ClassFile.FieldType.boolean)) : Cond) ∈ wq_all := List.mem_of_getElem? (i := 416) (by decide +kernel)
set_option maxRecDepth 20000 in
theorem wk_417 : ((Jvm.Cond.methodLink "WorkspaceBoxLaw" (81 : Nat) ({ cls := "WorkspaceBox", name := "key", desc := "(IIZ)Z" } : Jvm.MethodName)) : Cond) ∈ wq_all := List.mem_of_getElem? (i := 417) (by decide +kernel)
set_option maxRecDepth 20000 in
theorem wk_418 : ((Jvm.Cond.instanceMethod ({ cls := "WorkspaceBox", name := "key", desc := "(IIZ)Z" } : Jvm.MethodName)) : Cond) ∈ wq_all := List.mem_of_getElem? (i := 418) (by decide +kernel)
set_option maxRecDepth 20000 in
theorem wk_419 : ((Jvm.Cond.selects "WorkspaceBox" ({ cls := "WorkspaceBox", name := "key", desc := "(IIZ)Z" } : Jvm.MethodName) ({ cls := "WorkspaceBox", name := "key", desc := "(IIZ)Z" } : Jvm.MethodName)) : Cond) ∈ wq_all := List.mem_of_getElem? (i := 419) (by decide +kernel)
set_option maxRecDepth 20000 in
theorem wk_420 : ((Jvm.Cond.code ({ cls := "WorkspaceBox", name := "key", desc := "(IIZ)Z" } : Jvm.MethodName) prog_1_method_18_code (4 : Nat) (Option.some Jvm.ClassFile.FieldType.boolean)) : Cond) ∈ wq_all := List.mem_of_getElem? (i := 420) (by decide +kernel)
set_option maxRecDepth 20000 in
theorem wk_421 : ((Jvm.Cond.methodLink "WorkspaceBox" (165 : Nat) ({ cls := "WorkspaceBox$Wires", name := "press", desc := "(IIZ)V" } : Jvm.MethodName)) : Cond) ∈ wq_all := List.mem_of_getElem? (i := 421) (by decide +kernel)
set_option maxRecDepth 20000 in
theorem wk_422 : ((Jvm.Cond.instanceMethod ({ cls := "WorkspaceBox$Wires", name := "press", desc := "(IIZ)V" } : Jvm.MethodName)) : Cond) ∈ wq_all := List.mem_of_getElem? (i := 422) (by decide +kernel)
set_option maxRecDepth 20000 in
theorem wk_423 : ((Jvm.Cond.selects "WorkspaceBox$Wires" ({ cls := "WorkspaceBox$Wires", name := "press", desc := "(IIZ)V" } : Jvm.MethodName) ({ cls := "WorkspaceBox$Wires", name := "press", desc := "(IIZ)V" } : Jvm.MethodName)) : Cond) ∈ wq_all := List.mem_of_getElem? (i := 423) (by decide +kernel)
set_option maxRecDepth 20000 in
theorem wk_424 : ((Jvm.Cond.code ({ cls := "WorkspaceBox$Wires", name := "press", desc := "(IIZ)V" } : Jvm.MethodName) prog_7_method_6_code (6 : Nat) (Option.none : Option Jvm.ClassFile.FieldType)) : Cond) ∈ wq_all := List.mem_of_getElem? (i := 424) (by decide +kernel)
set_option maxRecDepth 20000 in
theorem wk_425 : ((Jvm.Cond.constantLong "WorkspaceBox$Wires" (17 : Nat) (-1 : Int64)) : Cond) ∈ wq_all := List.mem_of_getElem? (i := 425) (by decide +kernel)
set_option maxRecDepth 20000 in
theorem wk_426 : ((Jvm.Cond.methodLink "WorkspaceBoxLaw" (86 : Nat) ({ cls := "WorkspaceBox", name := "out", desc := "(I)I" } : Jvm.MethodName)) : Cond) ∈ wq_all := List.mem_of_getElem? (i := 426) (by decide +kernel)
set_option maxRecDepth 20000 in
theorem wk_427 : ((Jvm.Cond.instanceMethod ({ cls := "WorkspaceBox", name := "out", desc := "(I)I" } : Jvm.MethodName)) : Cond) ∈ wq_all := List.mem_of_getElem? (i := 427) (by decide +kernel)
set_option maxRecDepth 20000 in
theorem wk_428 : ((Jvm.Cond.selects "WorkspaceBox" ({ cls := "WorkspaceBox", name := "out", desc := "(I)I" } : Jvm.MethodName) ({ cls := "WorkspaceBox", name := "out", desc := "(I)I" } : Jvm.MethodName)) : Cond) ∈ wq_all := List.mem_of_getElem? (i := 428) (by decide +kernel)
set_option maxRecDepth 20000 in
theorem wk_429 : ((Jvm.Cond.code ({ cls := "WorkspaceBox", name := "out", desc := "(I)I" } : Jvm.MethodName) prog_1_method_19_code (2 : Nat) (Option.some Jvm.ClassFile.FieldType.int)) : Cond) ∈ wq_all := List.mem_of_getElem? (i := 429) (by decide +kernel)
set_option maxRecDepth 20000 in
theorem wk_430 : ((Jvm.Cond.methodLink "WorkspaceBox" (169 : Nat) ({ cls := "WorkspaceBox$Wires", name := "exists", desc := "(I)Z" } : Jvm.MethodName)) : Cond) ∈ wq_all := List.mem_of_getElem? (i := 430) (by decide +kernel)
set_option maxRecDepth 20000 in
theorem wk_431 : ((Jvm.Cond.static ({ cls := "WorkspaceBox$Wires", name := "exists", desc := "(I)Z" } : Jvm.MethodName)) : Cond) ∈ wq_all := List.mem_of_getElem? (i := 431) (by decide +kernel)
set_option maxRecDepth 20000 in
theorem wk_432 : ((Jvm.Cond.code ({ cls := "WorkspaceBox$Wires", name := "exists", desc := "(I)Z" } : Jvm.MethodName) prog_7_method_2_code (1 : Nat) (Option.some Jvm.ClassFile.FieldType.boolean)) : Cond) ∈ wq_all := List.mem_of_getElem? (i := 432) (by decide +kernel)
set_option maxRecDepth 20000 in
theorem wk_433 : ((Jvm.Cond.methodLink "WorkspaceBox" (173 : Nat) ({ cls := "WorkspaceBox$Wires", name := "sent", desc := "(I)I" } : Jvm.MethodName)) : Cond) ∈ wq_all := List.mem_of_getElem? (i := 433) (by decide +kernel)
set_option maxRecDepth 20000 in
theorem wk_434 : ((Jvm.Cond.instanceMethod ({ cls := "WorkspaceBox$Wires", name := "sent", desc := "(I)I" } : Jvm.MethodName)) : Cond) ∈ wq_all := List.mem_of_getElem? (i := 434) (by decide +kernel)
set_option maxRecDepth 20000 in
theorem wk_435 : ((Jvm.Cond.selects "WorkspaceBox$Wires" ({ cls := "WorkspaceBox$Wires", name := "sent", desc := "(I)I" } : Jvm.MethodName) ({ cls := "WorkspaceBox$Wires", name := "sent", desc := "(I)I" } : Jvm.MethodName)) : Cond) ∈ wq_all := List.mem_of_getElem? (i := 435) (by decide +kernel)
set_option maxRecDepth 20000 in
theorem wk_436 : ((Jvm.Cond.code ({ cls := "WorkspaceBox$Wires", name := "sent", desc := "(I)I" } : Jvm.MethodName) prog_7_method_3_code (2 : Nat) (Option.some Jvm.ClassFile.FieldType.int)) : Cond) ∈ wq_all := List.mem_of_getElem? (i := 436) (by decide +kernel)
set_option maxRecDepth 20000 in
theorem wk_437 : ((Jvm.Cond.methodLink "WorkspaceBoxLaw" (90 : Nat) ({ cls := "WorkspaceBox", name := "in", desc := "(I)I" } : Jvm.MethodName)) : Cond) ∈ wq_all := List.mem_of_getElem? (i := 437) (by decide +kernel)
set_option maxRecDepth 20000 in
theorem wk_438 : ((Jvm.Cond.instanceMethod ({ cls := "WorkspaceBox", name := "in", desc := "(I)I" } : Jvm.MethodName)) : Cond) ∈ wq_all := List.mem_of_getElem? (i := 438) (by decide +kernel)
set_option maxRecDepth 20000 in
theorem wk_439 : ((Jvm.Cond.selects "WorkspaceBox" ({ cls := "WorkspaceBox", name := "in", desc := "(I)I" } : Jvm.MethodName) ({ cls := "WorkspaceBox", name := "in", desc := "(I)I" } : Jvm.MethodName)) : Cond) ∈ wq_all := List.mem_of_getElem? (i := 439) (by decide +kernel)
set_option maxRecDepth 20000 in
theorem wk_440 : ((Jvm.Cond.code ({ cls := "WorkspaceBox", name := "in", desc := "(I)I" } : Jvm.MethodName) prog_1_method_20_code (2 : Nat) (Option.some Jvm.ClassFile.FieldType.int)) : Cond) ∈ wq_all := List.mem_of_getElem? (i := 440) (by decide +kernel)
set_option maxRecDepth 20000 in
theorem wk_441 : ((Jvm.Cond.methodLink "WorkspaceBox" (176 : Nat) ({ cls := "WorkspaceBox$Wires", name := "coming", desc := "(I)I" } : Jvm.MethodName)) : Cond) ∈ wq_all := List.mem_of_getElem? (i := 441) (by decide +kernel)
set_option maxRecDepth 20000 in
theorem wk_442 : ((Jvm.Cond.instanceMethod ({ cls := "WorkspaceBox$Wires", name := "coming", desc := "(I)I" } : Jvm.MethodName)) : Cond) ∈ wq_all := List.mem_of_getElem? (i := 442) (by decide +kernel)
set_option maxRecDepth 20000 in
theorem wk_443 : ((Jvm.Cond.selects "WorkspaceBox$Wires" ({ cls := "WorkspaceBox$Wires", name := "coming", desc := "(I)I" } : Jvm.MethodName) ({ cls := "WorkspaceBox$Wires", name := "coming", desc := "(I)I" } : Jvm.MethodName)) : Cond) ∈ wq_all := List.mem_of_getElem? (i := 443) (by decide +kernel)
set_option maxRecDepth 20000 in
theorem wk_444 : ((Jvm.Cond.code ({ cls := "WorkspaceBox$Wires", name := "coming", desc := "(I)I" } : Jvm.MethodName) prog_7_method_5_code (3 : Nat) (Option.some Jvm.ClassFile.FieldType.int)) : Cond) ∈ wq_all := List.mem_of_getElem? (i := 444) (by decide +kernel)
set_option maxRecDepth 20000 in
theorem wk_445 : ((Jvm.Cond.methodLink "WorkspaceBox$Wires" (25 : Nat) ({ cls := "WorkspaceBox$Wires", name := "sent", desc := "(I)I" } : Jvm.MethodName)) : Cond) ∈ wq_all := List.mem_of_getElem? (i := 445) (by decide +kernel)
set_option maxRecDepth 20000 in
theorem wk_446 : ((Jvm.Cond.methodLink "WorkspaceBoxLaw" (94 : Nat) ({ cls := "WorkspaceBox", name := "pixel", desc := "(II)I" } : Jvm.MethodName)) : Cond) ∈ wq_all := List.mem_of_getElem? (i := 446) (by decide +kernel)
set_option maxRecDepth 20000 in
theorem wk_447 : ((Jvm.Cond.instanceMethod ({ cls := "WorkspaceBox", name := "pixel", desc := "(II)I" } : Jvm.MethodName)) : Cond) ∈ wq_all := List.mem_of_getElem? (i := 447) (by decide +kernel)
set_option maxRecDepth 20000 in
theorem wk_448 : ((Jvm.Cond.selects "WorkspaceBox" ({ cls := "WorkspaceBox", name := "pixel", desc := "(II)I" } : Jvm.MethodName) ({ cls := "WorkspaceBox", name := "pixel", desc := "(II)I" } : Jvm.MethodName)) : Cond) ∈ wq_all := List.mem_of_getElem? (i := 448) (by decide +kernel)
set_option maxRecDepth 20000 in
theorem wk_449 : ((Jvm.Cond.code ({ cls := "WorkspaceBox", name := "pixel", desc := "(II)I" } : Jvm.MethodName) prog_1_method_21_code (3 : Nat) (Option.some Jvm.ClassFile.FieldType.int)) : Cond) ∈ wq_all := List.mem_of_getElem? (i := 449) (by decide +kernel)
set_option maxRecDepth 20000 in
theorem wk_450 : ((Jvm.Cond.methodLink "WorkspaceBox" (179 : Nat) ({ cls := "WorkspaceBox$Picture", name := "colourAt", desc := "(II)I" } : Jvm.MethodName)) : Cond) ∈ wq_all := List.mem_of_getElem? (i := 450) (by decide +kernel)
set_option maxRecDepth 20000 in
theorem wk_451 : ((Jvm.Cond.instanceMethod ({ cls := "WorkspaceBox$Picture", name := "colourAt", desc := "(II)I" } : Jvm.MethodName)) : Cond) ∈ wq_all := List.mem_of_getElem? (i := 451) (by decide +kernel)
set_option maxRecDepth 20000 in
theorem wk_452 : ((Jvm.Cond.selects "WorkspaceBox$Picture" ({ cls := "WorkspaceBox$Picture", name := "colourAt", desc := "(II)I" } : Jvm.MethodName) ({ cls := "WorkspaceBox$Picture", name := "colourAt", desc := "(II)I" } : Jvm.MethodName)) : Cond) ∈ wq_all := List.mem_of_getElem? (i := 452) (by decide +kernel)
set_option maxRecDepth 20000 in
theorem wk_453 : ((Jvm.Cond.code ({ cls := "WorkspaceBox$Picture", name := "colourAt", desc := "(II)I" } : Jvm.MethodName) prog_5_method_7_code (9 : Nat) (Option.some Jvm.ClassFile.FieldType.int)) : Cond) ∈ wq_all := List.mem_of_getElem? (i := 453) (by decide +kernel)
set_option maxRecDepth 20000 in
theorem wk_454 : ((Jvm.Cond.methodLink "WorkspaceBoxLaw" (42 : Nat) ({ cls := "WorkspaceBoxLaw", name := "run", desc := "(LWorkspaceBox;I[J)I" } : Jvm.MethodName)) : Cond) ∈ wq_all := List.mem_of_getElem? (i := 454) (by decide +kernel)
set_option maxRecDepth 20000 in
theorem wk_455 : ((Jvm.Cond.static ({ cls := "WorkspaceBoxLaw", name := "run", desc := "(LWorkspaceBox;I[J)I" } : Jvm.MethodName)) : Cond) ∈ wq_all := List.mem_of_getElem? (i := 455) (by decide +kernel)
set_option maxRecDepth 20000 in
theorem wk_456 : ((Jvm.Cond.codeWith ({ cls := "WorkspaceBoxLaw", name := "run", desc := "(LWorkspaceBox;I[J)I" } : Jvm.MethodName) method_3_code (4 : Nat) (Option.some Jvm.ClassFile.FieldType.int) [((0 : Nat), (9 : Nat), (12 : Nat), (13 : Nat))]) : Cond) ∈ wq_all := List.mem_of_getElem? (i := 456) (by decide +kernel)
set_option maxRecDepth 20000 in
theorem wk_457 : ((Jvm.Cond.classLink "WorkspaceBoxLaw" (13 : Nat) "java/lang/IllegalArgumentException") : Cond) ∈ wq_all := List.mem_of_getElem? (i := 457) (by decide +kernel)
set_option maxRecDepth 20000 in
theorem wk_458 : ((Jvm.Cond.methodLink "WorkspaceBoxLaw" (7 : Nat) ({ cls := "WorkspaceBox", name := "run", desc := "(I)I" } : Jvm.MethodName)) : Cond) ∈ wq_all := List.mem_of_getElem? (i := 458) (by decide +kernel)
set_option maxRecDepth 20000 in
theorem wk_459 : ((Jvm.Cond.instanceMethod ({ cls := "WorkspaceBox", name := "run", desc := "(I)I" } : Jvm.MethodName)) : Cond) ∈ wq_all := List.mem_of_getElem? (i := 459) (by decide +kernel)
set_option maxRecDepth 20000 in
theorem wk_460 : ((Jvm.Cond.selects "WorkspaceBox" ({ cls := "WorkspaceBox", name := "run", desc := "(I)I" } : Jvm.MethodName) ({ cls := "WorkspaceBox", name := "run", desc := "(I)I" } : Jvm.MethodName)) : Cond) ∈ wq_all := List.mem_of_getElem? (i := 460) (by decide +kernel)
set_option maxRecDepth 20000 in
theorem wk_461 : ((Jvm.Cond.code ({ cls := "WorkspaceBox", name := "run", desc := "(I)I" } : Jvm.MethodName) prog_1_method_9_code (3 : Nat) (Option.some Jvm.ClassFile.FieldType.int)) : Cond) ∈ wq_all := List.mem_of_getElem? (i := 461) (by decide +kernel)
set_option maxRecDepth 20000 in
theorem wk_462 : ((Jvm.Cond.classLink "WorkspaceBox" (95 : Nat) "java/lang/IllegalArgumentException") : Cond) ∈ wq_all := List.mem_of_getElem? (i := 462) (by decide +kernel)
set_option maxRecDepth 20000 in
theorem wk_463 : ((Jvm.Cond.instantiable "java/lang/IllegalArgumentException" (6 : Nat)) : Cond) ∈ wq_all := List.mem_of_getElem? (i := 463) (by decide +kernel)
set_option maxRecDepth 20000 in
theorem wk_464 : ((Jvm.Cond.selects "java/lang/IllegalArgumentException" ({ cls := "java/lang/Throwable", name := "fillInStackTrace", desc := "(I)Ljava/lang/Throwable;" } : Jvm.MethodName) ({ cls := "java/lang/Throwable", name := "fillInStackTrace", desc := "(I)Ljava/lang/Throwable;" } : Jvm.MethodName)) : Cond) ∈ wq_all := List.mem_of_getElem? (i := 464) (by decide +kernel)
set_option maxRecDepth 20000 in
theorem wk_465 : ((Jvm.Cond.selects "java/lang/IllegalArgumentException" ({ cls := "java/lang/Throwable", name := "fillInStackTrace", desc := "()Ljava/lang/Throwable;" } : Jvm.MethodName) ({ cls := "java/lang/Throwable", name := "fillInStackTrace", desc := "()Ljava/lang/Throwable;" } : Jvm.MethodName)) : Cond) ∈ wq_all := List.mem_of_getElem? (i := 465) (by decide +kernel)
set_option maxRecDepth 20000 in
theorem wk_466 : ((Jvm.Cond.lays "java/lang/IllegalArgumentException" "java/lang/Throwable" "cause" "Ljava/lang/Throwable;") : Cond) ∈ wq_all := List.mem_of_getElem? (i := 466) (by decide +kernel)
set_option maxRecDepth 20000 in
theorem wk_467 : ((Jvm.Cond.lays "java/lang/Throwable" "java/lang/Throwable" "cause" "Ljava/lang/Throwable;") : Cond) ∈ wq_all := List.mem_of_getElem? (i := 467) (by decide +kernel)
set_option maxRecDepth 20000 in
theorem wk_468 : ((Jvm.Cond.lays "java/lang/IllegalArgumentException" "java/lang/Throwable" "stackTrace" "[Ljava/lang/StackTraceElement;") : Cond) ∈ wq_all := List.mem_of_getElem? (i := 468) (by decide +kernel)
set_option maxRecDepth 20000 in
theorem wk_469 : ((Jvm.Cond.lays "java/lang/Throwable" "java/lang/Throwable" "stackTrace" "[Ljava/lang/StackTraceElement;") : Cond) ∈ wq_all := List.mem_of_getElem? (i := 469) (by decide +kernel)
set_option maxRecDepth 20000 in
theorem wk_470 : ((Jvm.Cond.lays "java/lang/IllegalArgumentException" "java/lang/Throwable" "suppressedExceptions" "Ljava/util/List;") : Cond) ∈ wq_all := List.mem_of_getElem? (i := 470) (by decide +kernel)
set_option maxRecDepth 20000 in
theorem wk_471 : ((Jvm.Cond.lays "java/lang/Throwable" "java/lang/Throwable" "suppressedExceptions" "Ljava/util/List;") : Cond) ∈ wq_all := List.mem_of_getElem? (i := 471) (by decide +kernel)
set_option maxRecDepth 20000 in
theorem wk_472 : ((Jvm.Cond.lays "java/lang/IllegalArgumentException" "java/lang/Throwable" "detailMessage" "Ljava/lang/String;") : Cond) ∈ wq_all := List.mem_of_getElem? (i := 472) (by decide +kernel)
set_option maxRecDepth 20000 in
theorem wk_473 : ((Jvm.Cond.lays "java/lang/Throwable" "java/lang/Throwable" "detailMessage" "Ljava/lang/String;") : Cond) ∈ wq_all := List.mem_of_getElem? (i := 473) (by decide +kernel)
set_option maxRecDepth 20000 in
theorem wk_474 : ((Jvm.Cond.lays "java/lang/IllegalArgumentException" "java/lang/Throwable" "backtrace" "Ljava/lang/Object;") : Cond) ∈ wq_all := List.mem_of_getElem? (i := 474) (by decide +kernel)
set_option maxRecDepth 20000 in
theorem wk_475 : ((Jvm.Cond.lays "java/lang/Throwable" "java/lang/Throwable" "backtrace" "Ljava/lang/Object;") : Cond) ∈ wq_all := List.mem_of_getElem? (i := 475) (by decide +kernel)
set_option maxRecDepth 20000 in
theorem wk_476 : ((Jvm.Cond.fieldLink "java/lang/Throwable" (198 : Nat) "java/lang/Throwable" "backtrace" "Ljava/lang/Object;") : Cond) ∈ wq_all := List.mem_of_getElem? (i := 476) (by decide +kernel)
set_option maxRecDepth 20000 in
theorem wk_477 : ((Jvm.Cond.superclass "java/lang/Throwable" "java/lang/Object") : Cond) ∈ wq_all := List.mem_of_getElem? (i := 477) (by decide +kernel)
set_option maxRecDepth 20000 in
theorem wk_478 : ((Jvm.Cond.instanceMethod ({ cls := "java/lang/Throwable", name := "<init>", desc := "()V" } : Jvm.MethodName)) : Cond) ∈ wq_all := List.mem_of_getElem? (i := 478) (by decide +kernel)
set_option maxRecDepth 20000 in
theorem wk_479 : ((Jvm.Cond.code ({ cls := "java/lang/Throwable", name := "<init>", desc := "()V" } : Jvm.MethodName) prog_15_method_1_code (1 : Nat) (Option.none : Option Jvm.ClassFile.FieldType)) : Cond) ∈ wq_all := List.mem_of_getElem? (i := 479) (by decide +kernel)
set_option maxRecDepth 20000 in
theorem wk_480 : ((Jvm.Cond.methodLink "java/lang/Throwable" (1 : Nat) ({ cls := "java/lang/Object", name := "<init>", desc := "()V" } : Jvm.MethodName)) : Cond) ∈ wq_all := List.mem_of_getElem? (i := 480) (by decide +kernel)
set_option maxRecDepth 20000 in
theorem wk_481 : ((Jvm.Cond.fieldLink "java/lang/Throwable" (13 : Nat) "java/lang/Throwable" "UNASSIGNED_STACK" "[Ljava/lang/StackTraceElement;") : Cond) ∈ wq_all := List.mem_of_getElem? (i := 481) (by decide +kernel)
set_option maxRecDepth 20000 in
theorem wk_482 : ((Jvm.Cond.fieldLink "java/lang/Throwable" (20 : Nat) "java/lang/Throwable" "SUPPRESSED_SENTINEL" "Ljava/util/List;") : Cond) ∈ wq_all := List.mem_of_getElem? (i := 482) (by decide +kernel)
set_option maxRecDepth 20000 in
theorem wk_483 : ((Jvm.Cond.methodLink "java/lang/Throwable" (27 : Nat) ({ cls := "java/lang/Throwable", name := "fillInStackTrace", desc := "()Ljava/lang/Throwable;" } : Jvm.MethodName)) : Cond) ∈ wq_all := List.mem_of_getElem? (i := 483) (by decide +kernel)
set_option maxRecDepth 20000 in
theorem wk_484 : ((Jvm.Cond.instanceMethod ({ cls := "java/lang/Throwable", name := "fillInStackTrace", desc := "()Ljava/lang/Throwable;" } : Jvm.MethodName)) : Cond) ∈ wq_all := List.mem_of_getElem? (i := 484) (by decide +kernel)
set_option maxRecDepth 20000 in
theorem wk_485 : ((Jvm.Cond.sameMethod "java/lang/Throwable" "java/lang/Throwable" "fillInStackTrace" "()Ljava/lang/Throwable;") : Cond) ∈ wq_all := List.mem_of_getElem? (i := 485) (by decide +kernel)
set_option maxRecDepth 20000 in
theorem wk_486 : ((Jvm.Cond.selects "java/util/NoSuchElementException" ({ cls := "java/lang/Throwable", name := "fillInStackTrace", desc := "()Ljava/lang/Throwable;" } : Jvm.MethodName) ({ cls := "java/lang/Throwable", name := "fillInStackTrace", desc := "()Ljava/lang/Throwable;" } : Jvm.MethodName)) : Cond) ∈ wq_all := List.mem_of_getElem? (i := 486) (by decide +kernel)
set_option maxRecDepth 20000 in
theorem wk_487 : ((Jvm.Cond.codeSync ({ cls := "java/lang/Throwable", name := "fillInStackTrace", desc := "()Ljava/lang/Throwable;" } : Jvm.MethodName) prog_15_method_18_code (1 : Nat) (Option.some (Jvm.ClassFile.FieldType.object "java/lang/Throwable"))) : Cond) ∈ wq_all := List.mem_of_getElem? (i := 487) (by decide +kernel)
set_option maxRecDepth 20000 in
theorem wk_488 : ((Jvm.Cond.methodLink "java/lang/Throwable" (202 : Nat) ({ cls := "java/lang/Throwable", name := "fillInStackTrace", desc := "(I)Ljava/lang/Throwable;" } : Jvm.MethodName)) : Cond) ∈ wq_all := List.mem_of_getElem? (i := 488) (by decide +kernel)
set_option maxRecDepth 20000 in
theorem wk_489 : ((Jvm.Cond.instanceMethod ({ cls := "java/lang/Throwable", name := "fillInStackTrace", desc := "(I)Ljava/lang/Throwable;" } : Jvm.MethodName)) : Cond) ∈ wq_all := List.mem_of_getElem? (i := 489) (by decide +kernel)
set_option maxRecDepth 20000 in
theorem wk_490 : ((Jvm.Cond.instantiable "java/lang/Throwable" (6 : Nat)) : Cond) ∈ wq_all := List.mem_of_getElem? (i := 490) (by decide +kernel)
set_option maxRecDepth 20000 in
theorem wk_491 : ((Jvm.Cond.native ({ cls := "java/lang/Throwable", name := "fillInStackTrace", desc := "(I)Ljava/lang/Throwable;" } : Jvm.MethodName)) : Cond) ∈ wq_all := List.mem_of_getElem? (i := 491) (by decide +kernel)
set_option maxRecDepth 20000 in
theorem wk_492 : ((Jvm.Cond.methodLink "WorkspaceBox" (99 : Nat) ({ cls := "java/lang/IllegalArgumentException", name := "<init>", desc := "(Ljava/lang/String;)V" } : Jvm.MethodName)) : Cond) ∈ wq_all := List.mem_of_getElem? (i := 492) (by decide +kernel)
set_option maxRecDepth 20000 in
theorem wk_493 : ((Jvm.Cond.instanceMethod ({ cls := "java/lang/IllegalArgumentException", name := "<init>", desc := "(Ljava/lang/String;)V" } : Jvm.MethodName)) : Cond) ∈ wq_all := List.mem_of_getElem? (i := 493) (by decide +kernel)
set_option maxRecDepth 20000 in
theorem wk_494 : ((Jvm.Cond.code ({ cls := "java/lang/IllegalArgumentException", name := "<init>", desc := "(Ljava/lang/String;)V" } : Jvm.MethodName) prog_11_method_2_code (2 : Nat) (Option.none : Option Jvm.ClassFile.FieldType)) : Cond) ∈ wq_all := List.mem_of_getElem? (i := 494) (by decide +kernel)
set_option maxRecDepth 20000 in
theorem wk_495 : ((Jvm.Cond.methodLink "java/lang/IllegalArgumentException" (7 : Nat) ({ cls := "java/lang/RuntimeException", name := "<init>", desc := "(Ljava/lang/String;)V" } : Jvm.MethodName)) : Cond) ∈ wq_all := List.mem_of_getElem? (i := 495) (by decide +kernel)
set_option maxRecDepth 20000 in
theorem wk_496 : ((Jvm.Cond.instanceMethod ({ cls := "java/lang/RuntimeException", name := "<init>", desc := "(Ljava/lang/String;)V" } : Jvm.MethodName)) : Cond) ∈ wq_all := List.mem_of_getElem? (i := 496) (by decide +kernel)
set_option maxRecDepth 20000 in
theorem wk_497 : ((Jvm.Cond.code ({ cls := "java/lang/RuntimeException", name := "<init>", desc := "(Ljava/lang/String;)V" } : Jvm.MethodName) prog_13_method_2_code (2 : Nat) (Option.none : Option Jvm.ClassFile.FieldType)) : Cond) ∈ wq_all := List.mem_of_getElem? (i := 497) (by decide +kernel)
set_option maxRecDepth 20000 in
theorem wk_498 : ((Jvm.Cond.methodLink "java/lang/RuntimeException" (7 : Nat) ({ cls := "java/lang/Exception", name := "<init>", desc := "(Ljava/lang/String;)V" } : Jvm.MethodName)) : Cond) ∈ wq_all := List.mem_of_getElem? (i := 498) (by decide +kernel)
set_option maxRecDepth 20000 in
theorem wk_499 : ((Jvm.Cond.instanceMethod ({ cls := "java/lang/Exception", name := "<init>", desc := "(Ljava/lang/String;)V" } : Jvm.MethodName)) : Cond) ∈ wq_all := List.mem_of_getElem? (i := 499) (by decide +kernel)
set_option maxRecDepth 20000 in
theorem wk_500 : ((Jvm.Cond.code ({ cls := "java/lang/Exception", name := "<init>", desc := "(Ljava/lang/String;)V" } : Jvm.MethodName) prog_10_method_2_code (2 : Nat) (Option.none : Option Jvm.ClassFile.FieldType)) : Cond) ∈ wq_all := List.mem_of_getElem? (i := 500) (by decide +kernel)
set_option maxRecDepth 20000 in
theorem wk_501 : ((Jvm.Cond.methodLink "java/lang/Exception" (7 : Nat) ({ cls := "java/lang/Throwable", name := "<init>", desc := "(Ljava/lang/String;)V" } : Jvm.MethodName)) : Cond) ∈ wq_all := List.mem_of_getElem? (i := 501) (by decide +kernel)
set_option maxRecDepth 20000 in
theorem wk_502 : ((Jvm.Cond.instanceMethod ({ cls := "java/lang/Throwable", name := "<init>", desc := "(Ljava/lang/String;)V" } : Jvm.MethodName)) : Cond) ∈ wq_all := List.mem_of_getElem? (i := 502) (by decide +kernel)
set_option maxRecDepth 20000 in
theorem wk_503 : ((Jvm.Cond.code ({ cls := "java/lang/Throwable", name := "<init>", desc := "(Ljava/lang/String;)V" } : Jvm.MethodName) prog_15_method_2_code (2 : Nat) (Option.none : Option Jvm.ClassFile.FieldType)) : Cond) ∈ wq_all := List.mem_of_getElem? (i := 503) (by decide +kernel)
set_option maxRecDepth 20000 in
theorem wk_504 : ((Jvm.Cond.fieldLink "java/lang/Throwable" (31 : Nat) "java/lang/Throwable" "detailMessage" "Ljava/lang/String;") : Cond) ∈ wq_all := List.mem_of_getElem? (i := 504) (by decide +kernel)
set_option maxRecDepth 20000 in
theorem wk_505 : ((Jvm.Cond.fieldLink "java/lang/Throwable" (7 : Nat) "java/lang/Throwable" "cause" "Ljava/lang/Throwable;") : Cond) ∈ wq_all := List.mem_of_getElem? (i := 505) (by decide +kernel)
set_option maxRecDepth 20000 in
theorem wk_506 : ((Jvm.Cond.fieldLink "java/lang/Throwable" (17 : Nat) "java/lang/Throwable" "stackTrace" "[Ljava/lang/StackTraceElement;") : Cond) ∈ wq_all := List.mem_of_getElem? (i := 506) (by decide +kernel)
set_option maxRecDepth 20000 in
theorem wk_507 : ((Jvm.Cond.fieldLink "java/lang/Throwable" (24 : Nat) "java/lang/Throwable" "suppressedExceptions" "Ljava/util/List;") : Cond) ∈ wq_all := List.mem_of_getElem? (i := 507) (by decide +kernel)
set_option maxRecDepth 20000 in
theorem wk_508 : ((Jvm.Cond.soleField "java/lang/Throwable" "backtrace") : Cond) ∈ wq_all := List.mem_of_getElem? (i := 508) (by decide +kernel)
set_option maxRecDepth 20000 in
theorem wk_509 : ((Jvm.Cond.soleField "java/lang/Throwable" "detailMessage") : Cond) ∈ wq_all := List.mem_of_getElem? (i := 509) (by decide +kernel)
set_option maxRecDepth 20000 in
theorem wk_510 : ((Jvm.Cond.soleField "java/lang/Throwable" "cause") : Cond) ∈ wq_all := List.mem_of_getElem? (i := 510) (by decide +kernel)
set_option maxRecDepth 20000 in
theorem wk_511 : ((Jvm.Cond.soleField "java/lang/Throwable" "stackTrace") : Cond) ∈ wq_all := List.mem_of_getElem? (i := 511) (by decide +kernel)
set_option maxRecDepth 20000 in
theorem wk_512 : ((Jvm.Cond.lays "java/lang/IllegalArgumentException" "java/lang/Throwable" "depth" "I") : Cond) ∈ wq_all := List.mem_of_getElem? (i := 512) (by decide +kernel)
set_option maxRecDepth 20000 in
theorem wk_513 : ((Jvm.Cond.soleField "java/lang/Throwable" "depth") : Cond) ∈ wq_all := List.mem_of_getElem? (i := 513) (by decide +kernel)
set_option maxRecDepth 20000 in
theorem wk_514 : ((Jvm.Cond.soleField "java/lang/Throwable" "suppressedExceptions") : Cond) ∈ wq_all := List.mem_of_getElem? (i := 514) (by decide +kernel)
set_option maxRecDepth 20000 in
theorem wk_515 : ((Jvm.Cond.superclass "java/lang/IllegalArgumentException" "java/lang/RuntimeException") : Cond) ∈ wq_all := List.mem_of_getElem? (i := 515) (by decide +kernel)
set_option maxRecDepth 20000 in
theorem wk_516 : ((Jvm.Cond.arrayClass Jvm.ClassFile.FieldType.byte) : Cond) ∈ wq_all := List.mem_of_getElem? (i := 516) (by decide +kernel)
set_option maxRecDepth 20000 in
theorem wk_517 : ((Jvm.Cond.methodLink "WorkspaceBox" (102 : Nat) ({ cls := "WorkspaceBox$Processor", name := "fetch", desc := "()Z" } : Jvm.MethodName)) : Cond) ∈ wq_all := List.mem_of_getElem? (i := 517) (by decide +kernel)
set_option maxRecDepth 20000 in
theorem wk_518 : ((Jvm.Cond.instanceMethod ({ cls := "WorkspaceBox$Processor", name := "fetch", desc := "()Z" } : Jvm.MethodName)) : Cond) ∈ wq_all := List.mem_of_getElem? (i := 518) (by decide +kernel)
set_option maxRecDepth 20000 in
theorem wk_519 : ((Jvm.Cond.selects "WorkspaceBox$Processor" ({ cls := "WorkspaceBox$Processor", name := "fetch", desc := "()Z" } : Jvm.MethodName) ({ cls := "WorkspaceBox$Processor", name := "fetch", desc := "()Z" } : Jvm.MethodName)) : Cond) ∈ wq_all := List.mem_of_getElem? (i := 519) (by decide +kernel)
set_option maxRecDepth 20000 in
theorem wk_520 : ((Jvm.Cond.code ({ cls := "WorkspaceBox$Processor", name := "fetch", desc := "()Z" } : Jvm.MethodName) prog_6_method_3_code (1 : Nat) (Option.some Jvm.ClassFile.FieldType.boolean)) : Cond) ∈ wq_all := List.mem_of_getElem? (i := 520) (by decide +kernel)
set_option maxRecDepth 20000 in
theorem wk_521 : ((Jvm.Cond.methodLink "WorkspaceBox$Processor" (48 : Nat) ({ cls := "WorkspaceBox$Processor", name := "takeInterrupt", desc := "()V" } : Jvm.MethodName)) : Cond) ∈ wq_all := List.mem_of_getElem? (i := 521) (by decide +kernel)
set_option maxRecDepth 20000 in
theorem wk_522 : ((Jvm.Cond.instanceMethod ({ cls := "WorkspaceBox$Processor", name := "takeInterrupt", desc := "()V" } : Jvm.MethodName)) : Cond) ∈ wq_all := List.mem_of_getElem? (i := 522) (by decide +kernel)
set_option maxRecDepth 20000 in
theorem wk_523 : ((Jvm.Cond.code ({ cls := "WorkspaceBox$Processor", name := "takeInterrupt", desc := "()V" } : Jvm.MethodName) prog_6_method_4_code (2 : Nat) (Option.none : Option Jvm.ClassFile.FieldType)) : Cond) ∈ wq_all := List.mem_of_getElem? (i := 523) (by decide +kernel)
set_option maxRecDepth 20000 in
theorem wk_524 : ((Jvm.Cond.methodLink "WorkspaceBox$Processor" (55 : Nat) ({ cls := "WorkspaceBox$Processor", name := "askedLevel", desc := "()I" } : Jvm.MethodName)) : Cond) ∈ wq_all := List.mem_of_getElem? (i := 524) (by decide +kernel)
set_option maxRecDepth 20000 in
theorem wk_525 : ((Jvm.Cond.instanceMethod ({ cls := "WorkspaceBox$Processor", name := "askedLevel", desc := "()I" } : Jvm.MethodName)) : Cond) ∈ wq_all := List.mem_of_getElem? (i := 525) (by decide +kernel)
set_option maxRecDepth 20000 in
theorem wk_526 : ((Jvm.Cond.code ({ cls := "WorkspaceBox$Processor", name := "askedLevel", desc := "()I" } : Jvm.MethodName) prog_6_method_5_code (2 : Nat) (Option.some Jvm.ClassFile.FieldType.int)) : Cond) ∈ wq_all := List.mem_of_getElem? (i := 526) (by decide +kernel)
set_option maxRecDepth 20000 in
theorem wk_527 : ((Jvm.Cond.methodLink "WorkspaceBox$Processor" (66 : Nat) ({ cls := "WorkspaceBox$Picture", name := "asksForInterrupt", desc := "()Z" } : Jvm.MethodName)) : Cond) ∈ wq_all := List.mem_of_getElem? (i := 527) (by decide +kernel)
set_option maxRecDepth 20000 in
theorem wk_528 : ((Jvm.Cond.instanceMethod ({ cls := "WorkspaceBox$Picture", name := "asksForInterrupt", desc := "()Z" } : Jvm.MethodName)) : Cond) ∈ wq_all := List.mem_of_getElem? (i := 528) (by decide +kernel)
set_option maxRecDepth 20000 in
theorem wk_529 : ((Jvm.Cond.selects "WorkspaceBox$Picture" ({ cls := "WorkspaceBox$Picture", name := "asksForInterrupt", desc := "()Z" } : Jvm.MethodName) ({ cls := "WorkspaceBox$Picture", name := "asksForInterrupt", desc := "()Z" } : Jvm.MethodName)) : Cond) ∈ wq_all := List.mem_of_getElem? (i := 529) (by decide +kernel)
set_option maxRecDepth 20000 in
theorem wk_530 : ((Jvm.Cond.code ({ cls := "WorkspaceBox$Picture", name := "asksForInterrupt", desc := "()Z" } : Jvm.MethodName) prog_5_method_6_code (1 : Nat) (Option.some Jvm.ClassFile.FieldType.boolean)) : Cond) ∈ wq_all := List.mem_of_getElem? (i := 530) (by decide +kernel)
set_option maxRecDepth 20000 in
theorem wk_531 : ((Jvm.Cond.methodLink "WorkspaceBox$Processor" (73 : Nat) ({ cls := "WorkspaceBox$Wires", name := "sent", desc := "(I)I" } : Jvm.MethodName)) : Cond) ∈ wq_all := List.mem_of_getElem? (i := 531) (by decide +kernel)
set_option maxRecDepth 20000 in
theorem wk_532 : ((Jvm.Cond.methodLink "WorkspaceBox$Processor" (59 : Nat) ({ cls := "WorkspaceBox$Processor", name := "enter", desc := "(I)V" } : Jvm.MethodName)) : Cond) ∈ wq_all := List.mem_of_getElem? (i := 532) (by decide +kernel)
set_option maxRecDepth 20000 in
theorem wk_533 : ((Jvm.Cond.instanceMethod ({ cls := "WorkspaceBox$Processor", name := "enter", desc := "(I)V" } : Jvm.MethodName)) : Cond) ∈ wq_all := List.mem_of_getElem? (i := 533) (by decide +kernel)
set_option maxRecDepth 20000 in
theorem wk_534 : ((Jvm.Cond.code ({ cls := "WorkspaceBox$Processor", name := "enter", desc := "(I)V" } : Jvm.MethodName) prog_6_method_13_code (5 : Nat) (Option.none : Option Jvm.ClassFile.FieldType)) : Cond) ∈ wq_all := List.mem_of_getElem? (i := 534) (by decide +kernel)
set_option maxRecDepth 20000 in
theorem wk_535 : ((Jvm.Cond.methodLink "WorkspaceBox$Processor" (128 : Nat) ({ cls := "WorkspaceBox$Processor", name := "registerAddress", desc := "(I)I" } : Jvm.MethodName)) : Cond) ∈ wq_all := List.mem_of_getElem? (i := 535) (by decide +kernel)
set_option maxRecDepth 20000 in
theorem wk_536 : ((Jvm.Cond.instanceMethod ({ cls := "WorkspaceBox$Processor", name := "registerAddress", desc := "(I)I" } : Jvm.MethodName)) : Cond) ∈ wq_all := List.mem_of_getElem? (i := 536) (by decide +kernel)
set_option maxRecDepth 20000 in
theorem wk_537 : ((Jvm.Cond.code ({ cls := "WorkspaceBox$Processor", name := "registerAddress", desc := "(I)I" } : Jvm.MethodName) prog_6_method_11_code (2 : Nat) (Option.some Jvm.ClassFile.FieldType.int)) : Cond) ∈ wq_all := List.mem_of_getElem? (i := 537) (by decide +kernel)
set_option maxRecDepth 20000 in
theorem wk_538 : ((Jvm.Cond.constant "WorkspaceBox$Processor" (127 : Nat) (65535 : Int32)) : Cond) ∈ wq_all := List.mem_of_getElem? (i := 538) (by decide +kernel)
set_option maxRecDepth 20000 in
theorem wk_539 : ((Jvm.Cond.methodLink "WorkspaceBox$Processor" (131 : Nat) ({ cls := "WorkspaceBox$Memory", name := "putWord", desc := "(II)V" } : Jvm.MethodName)) : Cond) ∈ wq_all := List.mem_of_getElem? (i := 539) (by decide +kernel)
set_option maxRecDepth 20000 in
theorem wk_540 : ((Jvm.Cond.instanceMethod ({ cls := "WorkspaceBox$Memory", name := "putWord", desc := "(II)V" } : Jvm.MethodName)) : Cond) ∈ wq_all := List.mem_of_getElem? (i := 540) (by decide +kernel)
set_option maxRecDepth 20000 in
theorem wk_541 : ((Jvm.Cond.selects "WorkspaceBox$Memory" ({ cls := "WorkspaceBox$Memory", name := "putWord", desc := "(II)V" } : Jvm.MethodName) ({ cls := "WorkspaceBox$Memory", name := "putWord", desc := "(II)V" } : Jvm.MethodName)) : Cond) ∈ wq_all := List.mem_of_getElem? (i := 541) (by decide +kernel)
set_option maxRecDepth 20000 in
theorem wk_542 : ((Jvm.Cond.code ({ cls := "WorkspaceBox$Memory", name := "putWord", desc := "(II)V" } : Jvm.MethodName) prog_4_method_3_code (3 : Nat) (Option.none : Option Jvm.ClassFile.FieldType)) : Cond) ∈ wq_all := List.mem_of_getElem? (i := 542) (by decide +kernel)
set_option maxRecDepth 20000 in
theorem wk_543 : ((Jvm.Cond.methodLink "WorkspaceBox$Memory" (42 : Nat) ({ cls := "WorkspaceBox$Memory", name := "putByte", desc := "(II)V" } : Jvm.MethodName)) : Cond) ∈ wq_all := List.mem_of_getElem? (i := 543) (by decide +kernel)
set_option maxRecDepth 20000 in
theorem wk_544 : ((Jvm.Cond.methodLink "WorkspaceBox$Processor" (51 : Nat) ({ cls := "WorkspaceBox$Processor", name := "fetchInstruction", desc := "()Z" } : Jvm.MethodName)) : Cond) ∈ wq_all := List.mem_of_getElem? (i := 544) (by decide +kernel)
set_option maxRecDepth 20000 in
theorem wk_545 : ((Jvm.Cond.instanceMethod ({ cls := "WorkspaceBox$Processor", name := "fetchInstruction", desc := "()Z" } : Jvm.MethodName)) : Cond) ∈ wq_all := List.mem_of_getElem? (i := 545) (by decide +kernel)
set_option maxRecDepth 20000 in
theorem wk_546 : ((Jvm.Cond.code ({ cls := "WorkspaceBox$Processor", name := "fetchInstruction", desc := "()Z" } : Jvm.MethodName) prog_6_method_6_code (3 : Nat) (Option.some Jvm.ClassFile.FieldType.boolean)) : Cond) ∈ wq_all := List.mem_of_getElem? (i := 546) (by decide +kernel)
set_option maxRecDepth 20000 in
theorem wk_547 : ((Jvm.Cond.methodLink "WorkspaceBox$Processor" (76 : Nat) ({ cls := "WorkspaceBox$Processor", name := "nextWord", desc := "()I" } : Jvm.MethodName)) : Cond) ∈ wq_all := List.mem_of_getElem? (i := 547) (by decide +kernel)
set_option maxRecDepth 20000 in
theorem wk_548 : ((Jvm.Cond.instanceMethod ({ cls := "WorkspaceBox$Processor", name := "nextWord", desc := "()I" } : Jvm.MethodName)) : Cond) ∈ wq_all := List.mem_of_getElem? (i := 548) (by decide +kernel)
set_option maxRecDepth 20000 in
theorem wk_549 : ((Jvm.Cond.code ({ cls := "WorkspaceBox$Processor", name := "nextWord", desc := "()I" } : Jvm.MethodName) prog_6_method_10_code (2 : Nat) (Option.some Jvm.ClassFile.FieldType.int)) : Cond) ∈ wq_all := List.mem_of_getElem? (i := 549) (by decide +kernel)
set_option maxRecDepth 20000 in
theorem wk_550 : ((Jvm.Cond.methodLink "WorkspaceBox$Processor" (82 : Nat) ({ cls := "WorkspaceBox$Processor", name := "isNone", desc := "(I)Z" } : Jvm.MethodName)) : Cond) ∈ wq_all := List.mem_of_getElem? (i := 550) (by decide +kernel)
set_option maxRecDepth 20000 in
theorem wk_551 : ((Jvm.Cond.static ({ cls := "WorkspaceBox$Processor", name := "isNone", desc := "(I)Z" } : Jvm.MethodName)) : Cond) ∈ wq_all := List.mem_of_getElem? (i := 551) (by decide +kernel)
set_option maxRecDepth 20000 in
theorem wk_552 : ((Jvm.Cond.code ({ cls := "WorkspaceBox$Processor", name := "isNone", desc := "(I)Z" } : Jvm.MethodName) prog_6_method_8_code (1 : Nat) (Option.some Jvm.ClassFile.FieldType.boolean)) : Cond) ∈ wq_all := List.mem_of_getElem? (i := 552) (by decide +kernel)
set_option maxRecDepth 20000 in
theorem wk_553 : ((Jvm.Cond.methodLink "WorkspaceBox$Processor" (86 : Nat) ({ cls := "WorkspaceBox$Processor", name := "isExecute", desc := "(I)Z" } : Jvm.MethodName)) : Cond) ∈ wq_all := List.mem_of_getElem? (i := 553) (by decide +kernel)
set_option maxRecDepth 20000 in
theorem wk_554 : ((Jvm.Cond.static ({ cls := "WorkspaceBox$Processor", name := "isExecute", desc := "(I)Z" } : Jvm.MethodName)) : Cond) ∈ wq_all := List.mem_of_getElem? (i := 554) (by decide +kernel)
set_option maxRecDepth 20000 in
theorem wk_555 : ((Jvm.Cond.code ({ cls := "WorkspaceBox$Processor", name := "isExecute", desc := "(I)Z" } : Jvm.MethodName) prog_6_method_7_code (1 : Nat) (Option.some Jvm.ClassFile.FieldType.boolean)) : Cond) ∈ wq_all := List.mem_of_getElem? (i := 555) (by decide +kernel)
set_option maxRecDepth 20000 in
theorem wk_556 : ((Jvm.Cond.constant "WorkspaceBox$Processor" (93 : Nat) (65472 : Int32)) : Cond) ∈ wq_all := List.mem_of_getElem? (i := 556) (by decide +kernel)
set_option maxRecDepth 20000 in
theorem wk_557 : ((Jvm.Cond.methodLink "WorkspaceBox$Processor" (89 : Nat) ({ cls := "WorkspaceBox$Processor", name := "operandAddress", desc := "(IZ)I" } : Jvm.MethodName)) : Cond) ∈ wq_all := List.mem_of_getElem? (i := 557) (by decide +kernel)
set_option maxRecDepth 20000 in
theorem wk_558 : ((Jvm.Cond.instanceMethod ({ cls := "WorkspaceBox$Processor", name := "operandAddress", desc := "(IZ)I" } : Jvm.MethodName)) : Cond) ∈ wq_all := List.mem_of_getElem? (i := 558) (by decide +kernel)
set_option maxRecDepth 20000 in
theorem wk_559 : ((Jvm.Cond.code ({ cls := "WorkspaceBox$Processor", name := "operandAddress", desc := "(IZ)I" } : Jvm.MethodName) prog_6_method_12_code (6 : Nat) (Option.some Jvm.ClassFile.FieldType.int)) : Cond) ∈ wq_all := List.mem_of_getElem? (i := 559) (by decide +kernel)
set_option maxRecDepth 20000 in
theorem wk_560 : ((Jvm.Cond.methodLink "WorkspaceBox" (106 : Nat) ({ cls := "WorkspaceBox$Processor", name := "perform", desc := "()V" } : Jvm.MethodName)) : Cond) ∈ wq_all := List.mem_of_getElem? (i := 560) (by decide +kernel)
set_option maxRecDepth 20000 in
theorem wk_561 : ((Jvm.Cond.instanceMethod ({ cls := "WorkspaceBox$Processor", name := "perform", desc := "()V" } : Jvm.MethodName)) : Cond) ∈ wq_all := List.mem_of_getElem? (i := 561) (by decide +kernel)
set_option maxRecDepth 20000 in
theorem wk_562 : ((Jvm.Cond.selects "WorkspaceBox$Processor" ({ cls := "WorkspaceBox$Processor", name := "perform", desc := "()V" } : Jvm.MethodName) ({ cls := "WorkspaceBox$Processor", name := "perform", desc := "()V" } : Jvm.MethodName)) : Cond) ∈ wq_all := List.mem_of_getElem? (i := 562) (by decide +kernel)
set_option maxRecDepth 20000 in
theorem wk_563 : ((Jvm.Cond.code ({ cls := "WorkspaceBox$Processor", name := "perform", desc := "()V" } : Jvm.MethodName) prog_6_method_9_code (2 : Nat) (Option.none : Option Jvm.ClassFile.FieldType)) : Cond) ∈ wq_all := List.mem_of_getElem? (i := 563) (by decide +kernel)
set_option maxRecDepth 20000 in
theorem wk_564 : ((Jvm.Cond.methodLink "WorkspaceBox$Processor" (97 : Nat) ({ cls := "WorkspaceBox$Processor", name := "doImmediate", desc := "(I)V" } : Jvm.MethodName)) : Cond) ∈ wq_all := List.mem_of_getElem? (i := 564) (by decide +kernel)
set_option maxRecDepth 20000 in
theorem wk_565 : ((Jvm.Cond.instanceMethod ({ cls := "WorkspaceBox$Processor", name := "doImmediate", desc := "(I)V" } : Jvm.MethodName)) : Cond) ∈ wq_all := List.mem_of_getElem? (i := 565) (by decide +kernel)
set_option maxRecDepth 20000 in
theorem wk_566 : ((Jvm.Cond.code ({ cls := "WorkspaceBox$Processor", name := "doImmediate", desc := "(I)V" } : Jvm.MethodName) prog_6_method_19_code (7 : Nat) (Option.none : Option Jvm.ClassFile.FieldType)) : Cond) ∈ wq_all := List.mem_of_getElem? (i := 566) (by decide +kernel)
set_option maxRecDepth 20000 in
theorem wk_567 : ((Jvm.Cond.constant "WorkspaceBox$Processor" (149 : Nat) (65504 : Int32)) : Cond) ∈ wq_all := List.mem_of_getElem? (i := 567) (by decide +kernel)
set_option maxRecDepth 20000 in
theorem wk_568 : ((Jvm.Cond.methodLink "WorkspaceBox$Processor" (145 : Nat) ({ cls := "WorkspaceBox$Processor", name := "compare", desc := "(IIZ)V" } : Jvm.MethodName)) : Cond) ∈ wq_all := List.mem_of_getElem? (i := 568) (by decide +kernel)
set_option maxRecDepth 20000 in
theorem wk_569 : ((Jvm.Cond.instanceMethod ({ cls := "WorkspaceBox$Processor", name := "compare", desc := "(IIZ)V" } : Jvm.MethodName)) : Cond) ∈ wq_all := List.mem_of_getElem? (i := 569) (by decide +kernel)
set_option maxRecDepth 20000 in
theorem wk_570 : ((Jvm.Cond.code ({ cls := "WorkspaceBox$Processor", name := "compare", desc := "(IIZ)V" } : Jvm.MethodName) prog_6_method_15_code (6 : Nat) (Option.none : Option Jvm.ClassFile.FieldType)) : Cond) ∈ wq_all := List.mem_of_getElem? (i := 570) (by decide +kernel)
set_option maxRecDepth 20000 in
theorem wk_571 : ((Jvm.Cond.constant "WorkspaceBox$Processor" (135 : Nat) (32768 : Int32)) : Cond) ∈ wq_all := List.mem_of_getElem? (i := 571) (by decide +kernel)
set_option maxRecDepth 20000 in
theorem wk_572 : ((Jvm.Cond.methodLink "WorkspaceBox$Processor" (136 : Nat) ({ cls := "WorkspaceBox$Processor", name := "flag", desc := "(IZ)V" } : Jvm.MethodName)) : Cond) ∈ wq_all := List.mem_of_getElem? (i := 572) (by decide +kernel)
set_option maxRecDepth 20000 in
theorem wk_573 : ((Jvm.Cond.instanceMethod ({ cls := "WorkspaceBox$Processor", name := "flag", desc := "(IZ)V" } : Jvm.MethodName)) : Cond) ∈ wq_all := List.mem_of_getElem? (i := 573) (by decide +kernel)
set_option maxRecDepth 20000 in
theorem wk_574 : ((Jvm.Cond.code ({ cls := "WorkspaceBox$Processor", name := "flag", desc := "(IZ)V" } : Jvm.MethodName) prog_6_method_14_code (3 : Nat) (Option.none : Option Jvm.ClassFile.FieldType)) : Cond) ∈ wq_all := List.mem_of_getElem? (i := 574) (by decide +kernel)
set_option maxRecDepth 20000 in
theorem wk_575 : ((Jvm.Cond.methodLink "WorkspaceBox$Processor" (150 : Nat) ({ cls := "WorkspaceBox$Processor", name := "add", desc := "(IIZ)I" } : Jvm.MethodName)) : Cond) ∈ wq_all := List.mem_of_getElem? (i := 575) (by decide +kernel)
set_option maxRecDepth 20000 in
theorem wk_576 : ((Jvm.Cond.instanceMethod ({ cls := "WorkspaceBox$Processor", name := "add", desc := "(IIZ)I" } : Jvm.MethodName)) : Cond) ∈ wq_all := List.mem_of_getElem? (i := 576) (by decide +kernel)
set_option maxRecDepth 20000 in
theorem wk_577 : ((Jvm.Cond.code ({ cls := "WorkspaceBox$Processor", name := "add", desc := "(IIZ)I" } : Jvm.MethodName) prog_6_method_17_code (8 : Nat) (Option.some Jvm.ClassFile.FieldType.int)) : Cond) ∈ wq_all := List.mem_of_getElem? (i := 577) (by decide +kernel)
set_option maxRecDepth 20000 in
theorem wk_578 : ((Jvm.Cond.methodLink "WorkspaceBox$Processor" (100 : Nat) ({ cls := "WorkspaceBox$Processor", name := "doControl", desc := "(I)V" } : Jvm.MethodName)) : Cond) ∈ wq_all := List.mem_of_getElem? (i := 578) (by decide +kernel)
set_option maxRecDepth 20000 in
theorem wk_579 : ((Jvm.Cond.instanceMethod ({ cls := "WorkspaceBox$Processor", name := "doControl", desc := "(I)V" } : Jvm.MethodName)) : Cond) ∈ wq_all := List.mem_of_getElem? (i := 579) (by decide +kernel)
set_option maxRecDepth 20000 in
theorem wk_580 : ((Jvm.Cond.code ({ cls := "WorkspaceBox$Processor", name := "doControl", desc := "(I)V" } : Jvm.MethodName) prog_6_method_20_code (2 : Nat) (Option.none : Option Jvm.ClassFile.FieldType)) : Cond) ∈ wq_all := List.mem_of_getElem? (i := 580) (by decide +kernel)
set_option maxRecDepth 20000 in
theorem wk_581 : ((Jvm.Cond.methodLink "WorkspaceBox$Processor" (154 : Nat) ({ cls := "WorkspaceBox$Processor", name := "giveBack", desc := "()V" } : Jvm.MethodName)) : Cond) ∈ wq_all := List.mem_of_getElem? (i := 581) (by decide +kernel)
set_option maxRecDepth 20000 in
theorem wk_582 : ((Jvm.Cond.instanceMethod ({ cls := "WorkspaceBox$Processor", name := "giveBack", desc := "()V" } : Jvm.MethodName)) : Cond) ∈ wq_all := List.mem_of_getElem? (i := 582) (by decide +kernel)
set_option maxRecDepth 20000 in
theorem wk_583 : ((Jvm.Cond.code ({ cls := "WorkspaceBox$Processor", name := "giveBack", desc := "()V" } : Jvm.MethodName) prog_6_method_21_code (4 : Nat) (Option.none : Option Jvm.ClassFile.FieldType)) : Cond) ∈ wq_all := List.mem_of_getElem? (i := 583) (by decide +kernel)
set_option maxRecDepth 20000 in
theorem wk_584 : ((Jvm.Cond.constant "WorkspaceBox$Processor" (157 : Nat) (65039 : Int32)) : Cond) ∈ wq_all := List.mem_of_getElem? (i := 584) (by decide +kernel)
set_option maxRecDepth 20000 in
theorem wk_585 : ((Jvm.Cond.methodLink "WorkspaceBox$Processor" (103 : Nat) ({ cls := "WorkspaceBox$Processor", name := "doOneOperand", desc := "(I)V" } : Jvm.MethodName)) : Cond) ∈ wq_all := List.mem_of_getElem? (i := 585) (by decide +kernel)
set_option maxRecDepth 20000 in
theorem wk_586 : ((Jvm.Cond.instanceMethod ({ cls := "WorkspaceBox$Processor", name := "doOneOperand", desc := "(I)V" } : Jvm.MethodName)) : Cond) ∈ wq_all := List.mem_of_getElem? (i := 586) (by decide +kernel)
set_option maxRecDepth 20000 in
theorem wk_587 : ((Jvm.Cond.code ({ cls := "WorkspaceBox$Processor", name := "doOneOperand", desc := "(I)V" } : Jvm.MethodName) prog_6_method_22_code (4 : Nat) (Option.none : Option Jvm.ClassFile.FieldType)) : Cond) ∈ wq_all := List.mem_of_getElem? (i := 587) (by decide +kernel)
set_option maxRecDepth 20000 in
theorem wk_588 : ((Jvm.Cond.methodLink "WorkspaceBox$Processor" (158 : Nat) ({ cls := "WorkspaceBox$Processor", name := "changed", desc := "(II)I" } : Jvm.MethodName)) : Cond) ∈ wq_all := List.mem_of_getElem? (i := 588) (by decide +kernel)
set_option maxRecDepth 20000 in
theorem wk_589 : ((Jvm.Cond.instanceMethod ({ cls := "WorkspaceBox$Processor", name := "changed", desc := "(II)I" } : Jvm.MethodName)) : Cond) ∈ wq_all := List.mem_of_getElem? (i := 589) (by decide +kernel)
set_option maxRecDepth 20000 in
theorem wk_590 : ((Jvm.Cond.code ({ cls := "WorkspaceBox$Processor", name := "changed", desc := "(II)I" } : Jvm.MethodName) prog_6_method_23_code (3 : Nat) (Option.some Jvm.ClassFile.FieldType.int)) : Cond) ∈ wq_all := List.mem_of_getElem? (i := 590) (by decide +kernel)
set_option maxRecDepth 20000 in
theorem wk_591 : ((Jvm.Cond.methodLink "WorkspaceBox$Processor" (162 : Nat) ({ cls := "WorkspaceBox$Processor", name := "subtract", desc := "(IIZ)I" } : Jvm.MethodName)) : Cond) ∈ wq_all := List.mem_of_getElem? (i := 591) (by decide +kernel)
set_option maxRecDepth 20000 in
theorem wk_592 : ((Jvm.Cond.instanceMethod ({ cls := "WorkspaceBox$Processor", name := "subtract", desc := "(IIZ)I" } : Jvm.MethodName)) : Cond) ∈ wq_all := List.mem_of_getElem? (i := 592) (by decide +kernel)
set_option maxRecDepth 20000 in
theorem wk_593 : ((Jvm.Cond.code ({ cls := "WorkspaceBox$Processor", name := "subtract", desc := "(IIZ)I" } : Jvm.MethodName) prog_6_method_18_code (7 : Nat) (Option.some Jvm.ClassFile.FieldType.int)) : Cond) ∈ wq_all := List.mem_of_getElem? (i := 593) (by decide +kernel)
set_option maxRecDepth 20000 in
theorem wk_594 : ((Jvm.Cond.methodLink "WorkspaceBox$Processor" (165 : Nat) ({ cls := "WorkspaceBox$Processor", name := "inverted", desc := "(I)I" } : Jvm.MethodName)) : Cond) ∈ wq_all := List.mem_of_getElem? (i := 594) (by decide +kernel)
set_option maxRecDepth 20000 in
theorem wk_595 : ((Jvm.Cond.instanceMethod ({ cls := "WorkspaceBox$Processor", name := "inverted", desc := "(I)I" } : Jvm.MethodName)) : Cond) ∈ wq_all := List.mem_of_getElem? (i := 595) (by decide +kernel)
set_option maxRecDepth 20000 in
theorem wk_596 : ((Jvm.Cond.code ({ cls := "WorkspaceBox$Processor", name := "inverted", desc := "(I)I" } : Jvm.MethodName) prog_6_method_24_code (3 : Nat) (Option.some Jvm.ClassFile.FieldType.int)) : Cond) ∈ wq_all := List.mem_of_getElem? (i := 596) (by decide +kernel)
set_option maxRecDepth 20000 in
theorem wk_597 : ((Jvm.Cond.methodLink "WorkspaceBox$Processor" (168 : Nat) ({ cls := "WorkspaceBox$Processor", name := "sizeOf", desc := "(I)I" } : Jvm.MethodName)) : Cond) ∈ wq_all := List.mem_of_getElem? (i := 597) (by decide +kernel)
set_option maxRecDepth 20000 in
theorem wk_598 : ((Jvm.Cond.instanceMethod ({ cls := "WorkspaceBox$Processor", name := "sizeOf", desc := "(I)I" } : Jvm.MethodName)) : Cond) ∈ wq_all := List.mem_of_getElem? (i := 598) (by decide +kernel)
set_option maxRecDepth 20000 in
theorem wk_599 : ((Jvm.Cond.code ({ cls := "WorkspaceBox$Processor", name := "sizeOf", desc := "(I)I" } : Jvm.MethodName) prog_6_method_25_code (2 : Nat) (Option.some Jvm.ClassFile.FieldType.int)) : Cond) ∈ wq_all := List.mem_of_getElem? (i := 599) (by decide +kernel)
set_option maxRecDepth 20000 in
theorem wk_600 : ((Jvm.Cond.methodLink "WorkspaceBox$Processor" (106 : Nat) ({ cls := "WorkspaceBox$Processor", name := "doShift", desc := "(I)V" } : Jvm.MethodName)) : Cond) ∈ wq_all := List.mem_of_getElem? (i := 600) (by decide +kernel)
set_option maxRecDepth 20000 in
theorem wk_601 : ((Jvm.Cond.instanceMethod ({ cls := "WorkspaceBox$Processor", name := "doShift", desc := "(I)V" } : Jvm.MethodName)) : Cond) ∈ wq_all := List.mem_of_getElem? (i := 601) (by decide +kernel)
set_option maxRecDepth 20000 in
theorem wk_602 : ((Jvm.Cond.code ({ cls := "WorkspaceBox$Processor", name := "doShift", desc := "(I)V" } : Jvm.MethodName) prog_6_method_26_code (10 : Nat) (Option.none : Option Jvm.ClassFile.FieldType)) : Cond) ∈ wq_all := List.mem_of_getElem? (i := 602) (by decide +kernel)
set_option maxRecDepth 20000 in
theorem wk_603 : ((Jvm.Cond.constant "WorkspaceBox$Processor" (171 : Nat) (65280 : Int32)) : Cond) ∈ wq_all := List.mem_of_getElem? (i := 603) (by decide +kernel)
set_option maxRecDepth 20000 in
theorem wk_604 : ((Jvm.Cond.methodLink "WorkspaceBox$Processor" (172 : Nat) ({ cls := "WorkspaceBox$Processor", name := "shifted", desc := "(II)I" } : Jvm.MethodName)) : Cond) ∈ wq_all := List.mem_of_getElem? (i := 604) (by decide +kernel)
set_option maxRecDepth 20000 in
theorem wk_605 : ((Jvm.Cond.static ({ cls := "WorkspaceBox$Processor", name := "shifted", desc := "(II)I" } : Jvm.MethodName)) : Cond) ∈ wq_all := List.mem_of_getElem? (i := 605) (by decide +kernel)
set_option maxRecDepth 20000 in
theorem wk_606 : ((Jvm.Cond.code ({ cls := "WorkspaceBox$Processor", name := "shifted", desc := "(II)I" } : Jvm.MethodName) prog_6_method_27_code (2 : Nat) (Option.some Jvm.ClassFile.FieldType.int)) : Cond) ∈ wq_all := List.mem_of_getElem? (i := 606) (by decide +kernel)
set_option maxRecDepth 20000 in
theorem wk_607 : ((Jvm.Cond.methodLink "WorkspaceBox$Processor" (109 : Nat) ({ cls := "WorkspaceBox$Processor", name := "doJump", desc := "(I)V" } : Jvm.MethodName)) : Cond) ∈ wq_all := List.mem_of_getElem? (i := 607) (by decide +kernel)
set_option maxRecDepth 20000 in
theorem wk_608 : ((Jvm.Cond.instanceMethod ({ cls := "WorkspaceBox$Processor", name := "doJump", desc := "(I)V" } : Jvm.MethodName)) : Cond) ∈ wq_all := List.mem_of_getElem? (i := 608) (by decide +kernel)
set_option maxRecDepth 20000 in
theorem wk_609 : ((Jvm.Cond.code ({ cls := "WorkspaceBox$Processor", name := "doJump", desc := "(I)V" } : Jvm.MethodName) prog_6_method_28_code (2 : Nat) (Option.none : Option Jvm.ClassFile.FieldType)) : Cond) ∈ wq_all := List.mem_of_getElem? (i := 609) (by decide +kernel)
set_option maxRecDepth 20000 in
theorem wk_610 : ((Jvm.Cond.methodLink "WorkspaceBox$Processor" (175 : Nat) ({ cls := "WorkspaceBox$Processor", name := "jumps", desc := "(I)Z" } : Jvm.MethodName)) : Cond) ∈ wq_all := List.mem_of_getElem? (i := 610) (by decide +kernel)
set_option maxRecDepth 20000 in
theorem wk_611 : ((Jvm.Cond.instanceMethod ({ cls := "WorkspaceBox$Processor", name := "jumps", desc := "(I)Z" } : Jvm.MethodName)) : Cond) ∈ wq_all := List.mem_of_getElem? (i := 611) (by decide +kernel)
set_option maxRecDepth 20000 in
theorem wk_612 : ((Jvm.Cond.code ({ cls := "WorkspaceBox$Processor", name := "jumps", desc := "(I)Z" } : Jvm.MethodName) prog_6_method_29_code (5 : Nat) (Option.some Jvm.ClassFile.FieldType.boolean)) : Cond) ∈ wq_all := List.mem_of_getElem? (i := 612) (by decide +kernel)
set_option maxRecDepth 20000 in
theorem wk_613 : ((Jvm.Cond.methodLink "WorkspaceBox$Processor" (112 : Nat) ({ cls := "WorkspaceBox$Processor", name := "doSingleBit", desc := "(I)V" } : Jvm.MethodName)) : Cond) ∈ wq_all := List.mem_of_getElem? (i := 613) (by decide +kernel)
set_option maxRecDepth 20000 in
theorem wk_614 : ((Jvm.Cond.instanceMethod ({ cls := "WorkspaceBox$Processor", name := "doSingleBit", desc := "(I)V" } : Jvm.MethodName)) : Cond) ∈ wq_all := List.mem_of_getElem? (i := 614) (by decide +kernel)
set_option maxRecDepth 20000 in
theorem wk_615 : ((Jvm.Cond.code ({ cls := "WorkspaceBox$Processor", name := "doSingleBit", desc := "(I)V" } : Jvm.MethodName) prog_6_method_31_code (3 : Nat) (Option.none : Option Jvm.ClassFile.FieldType)) : Cond) ∈ wq_all := List.mem_of_getElem? (i := 615) (by decide +kernel)
set_option maxRecDepth 20000 in
theorem wk_616 : ((Jvm.Cond.methodLink "WorkspaceBox$Processor" (178 : Nat) ({ cls := "WorkspaceBox$Processor", name := "baseBit", desc := "()I" } : Jvm.MethodName)) : Cond) ∈ wq_all := List.mem_of_getElem? (i := 616) (by decide +kernel)
set_option maxRecDepth 20000 in
theorem wk_617 : ((Jvm.Cond.instanceMethod ({ cls := "WorkspaceBox$Processor", name := "baseBit", desc := "()I" } : Jvm.MethodName)) : Cond) ∈ wq_all := List.mem_of_getElem? (i := 617) (by decide +kernel)
set_option maxRecDepth 20000 in
theorem wk_618 : ((Jvm.Cond.code ({ cls := "WorkspaceBox$Processor", name := "baseBit", desc := "()I" } : Jvm.MethodName) prog_6_method_30_code (1 : Nat) (Option.some Jvm.ClassFile.FieldType.int)) : Cond) ∈ wq_all := List.mem_of_getElem? (i := 618) (by decide +kernel)
set_option maxRecDepth 20000 in
theorem wk_619 : ((Jvm.Cond.methodLink "WorkspaceBox$Processor" (181 : Nat) ({ cls := "WorkspaceBox$Wires", name := "send", desc := "(II)V" } : Jvm.MethodName)) : Cond) ∈ wq_all := List.mem_of_getElem? (i := 619) (by decide +kernel)
set_option maxRecDepth 20000 in
theorem wk_620 : ((Jvm.Cond.instanceMethod ({ cls := "WorkspaceBox$Wires", name := "send", desc := "(II)V" } : Jvm.MethodName)) : Cond) ∈ wq_all := List.mem_of_getElem? (i := 620) (by decide +kernel)
set_option maxRecDepth 20000 in
theorem wk_621 : ((Jvm.Cond.selects "WorkspaceBox$Wires" ({ cls := "WorkspaceBox$Wires", name := "send", desc := "(II)V" } : Jvm.MethodName) ({ cls := "WorkspaceBox$Wires", name := "send", desc := "(II)V" } : Jvm.MethodName)) : Cond) ∈ wq_all := List.mem_of_getElem? (i := 621) (by decide +kernel)
set_option maxRecDepth 20000 in
theorem wk_622 : ((Jvm.Cond.code ({ cls := "WorkspaceBox$Wires", name := "send", desc := "(II)V" } : Jvm.MethodName) prog_7_method_4_code (6 : Nat) (Option.none : Option Jvm.ClassFile.FieldType)) : Cond) ∈ wq_all := List.mem_of_getElem? (i := 622) (by decide +kernel)
set_option maxRecDepth 20000 in
theorem wk_623 : ((Jvm.Cond.methodLink "WorkspaceBox$Processor" (184 : Nat) ({ cls := "WorkspaceBox$Wires", name := "coming", desc := "(I)I" } : Jvm.MethodName)) : Cond) ∈ wq_all := List.mem_of_getElem? (i := 623) (by decide +kernel)
set_option maxRecDepth 20000 in
theorem wk_624 : ((Jvm.Cond.methodLink "WorkspaceBox$Processor" (115 : Nat) ({ cls := "WorkspaceBox$Processor", name := "doWithRegister", desc := "(I)V" } : Jvm.MethodName)) : Cond) ∈ wq_all := List.mem_of_getElem? (i := 624) (by decide +kernel)
set_option maxRecDepth 20000 in
theorem wk_625 : ((Jvm.Cond.instanceMethod ({ cls := "WorkspaceBox$Processor", name := "doWithRegister", desc := "(I)V" } : Jvm.MethodName)) : Cond) ∈ wq_all := List.mem_of_getElem? (i := 625) (by decide +kernel)
set_option maxRecDepth 20000 in
theorem wk_626 : ((Jvm.Cond.code ({ cls := "WorkspaceBox$Processor", name := "doWithRegister", desc := "(I)V" } : Jvm.MethodName) prog_6_method_36_code (8 : Nat) (Option.none : Option Jvm.ClassFile.FieldType)) : Cond) ∈ wq_all := List.mem_of_getElem? (i := 626) (by decide +kernel)
set_option maxRecDepth 20000 in
theorem wk_627 : ((Jvm.Cond.constant "WorkspaceBox$Processor" (206 : Nat) (64512 : Int32)) : Cond) ∈ wq_all := List.mem_of_getElem? (i := 627) (by decide +kernel)
set_option maxRecDepth 20000 in
theorem wk_628 : ((Jvm.Cond.methodLink "WorkspaceBox$Processor" (118 : Nat) ({ cls := "WorkspaceBox$Processor", name := "doManyBits", desc := "(I)V" } : Jvm.MethodName)) : Cond) ∈ wq_all := List.mem_of_getElem? (i := 628) (by decide +kernel)
set_option maxRecDepth 20000 in
theorem wk_629 : ((Jvm.Cond.instanceMethod ({ cls := "WorkspaceBox$Processor", name := "doManyBits", desc := "(I)V" } : Jvm.MethodName)) : Cond) ∈ wq_all := List.mem_of_getElem? (i := 629) (by decide +kernel)
set_option maxRecDepth 20000 in
theorem wk_630 : ((Jvm.Cond.code ({ cls := "WorkspaceBox$Processor", name := "doManyBits", desc := "(I)V" } : Jvm.MethodName) prog_6_method_32_code (7 : Nat) (Option.none : Option Jvm.ClassFile.FieldType)) : Cond) ∈ wq_all := List.mem_of_getElem? (i := 630) (by decide +kernel)
set_option maxRecDepth 20000 in
theorem wk_631 : ((Jvm.Cond.methodLink "WorkspaceBox$Processor" (187 : Nat) ({ cls := "WorkspaceBox$Memory", name := "byteAt", desc := "(I)I" } : Jvm.MethodName)) : Cond) ∈ wq_all := List.mem_of_getElem? (i := 631) (by decide +kernel)
set_option maxRecDepth 20000 in
theorem wk_632 : ((Jvm.Cond.methodLink "WorkspaceBox$Processor" (190 : Nat) ({ cls := "WorkspaceBox$Processor", name := "sendBits", desc := "(III)V" } : Jvm.MethodName)) : Cond) ∈ wq_all := List.mem_of_getElem? (i := 632) (by decide +kernel)
set_option maxRecDepth 20000 in
theorem wk_633 : ((Jvm.Cond.instanceMethod ({ cls := "WorkspaceBox$Processor", name := "sendBits", desc := "(III)V" } : Jvm.MethodName)) : Cond) ∈ wq_all := List.mem_of_getElem? (i := 633) (by decide +kernel)
set_option maxRecDepth 20000 in
theorem wk_634 : ((Jvm.Cond.code ({ cls := "WorkspaceBox$Processor", name := "sendBits", desc := "(III)V" } : Jvm.MethodName) prog_6_method_33_code (5 : Nat) (Option.none : Option Jvm.ClassFile.FieldType)) : Cond) ∈ wq_all := List.mem_of_getElem? (i := 634) (by decide +kernel)
set_option maxRecDepth 20000 in
theorem wk_635 : ((Jvm.Cond.methodLink "WorkspaceBox$Processor" (194 : Nat) ({ cls := "WorkspaceBox$Processor", name := "comingBits", desc := "(II)I" } : Jvm.MethodName)) : Cond) ∈ wq_all := List.mem_of_getElem? (i := 635) (by decide +kernel)
set_option maxRecDepth 20000 in
theorem wk_636 : ((Jvm.Cond.instanceMethod ({ cls := "WorkspaceBox$Processor", name := "comingBits", desc := "(II)I" } : Jvm.MethodName)) : Cond) ∈ wq_all := List.mem_of_getElem? (i := 636) (by decide +kernel)
set_option maxRecDepth 20000 in
theorem wk_637 : ((Jvm.Cond.code ({ cls := "WorkspaceBox$Processor", name := "comingBits", desc := "(II)I" } : Jvm.MethodName) prog_6_method_34_code (5 : Nat) (Option.some Jvm.ClassFile.FieldType.int)) : Cond) ∈ wq_all := List.mem_of_getElem? (i := 637) (by decide +kernel)
set_option maxRecDepth 20000 in
theorem wk_638 : ((Jvm.Cond.methodLink "WorkspaceBox$Processor" (197 : Nat) ({ cls := "WorkspaceBox$Processor", name := "parity", desc := "(I)V" } : Jvm.MethodName)) : Cond) ∈ wq_all := List.mem_of_getElem? (i := 638) (by decide +kernel)
set_option maxRecDepth 20000 in
theorem wk_639 : ((Jvm.Cond.instanceMethod ({ cls := "WorkspaceBox$Processor", name := "parity", desc := "(I)V" } : Jvm.MethodName)) : Cond) ∈ wq_all := List.mem_of_getElem? (i := 639) (by decide +kernel)
set_option maxRecDepth 20000 in
theorem wk_640 : ((Jvm.Cond.code ({ cls := "WorkspaceBox$Processor", name := "parity", desc := "(I)V" } : Jvm.MethodName) prog_6_method_16_code (2 : Nat) (Option.none : Option Jvm.ClassFile.FieldType)) : Cond) ∈ wq_all := List.mem_of_getElem? (i := 640) (by decide +kernel)
set_option maxRecDepth 20000 in
theorem wk_641 : ((Jvm.Cond.methodLink "WorkspaceBox$Processor" (140 : Nat) ({ cls := "java/lang/Integer", name := "bitCount", desc := "(I)I" } : Jvm.MethodName)) : Cond) ∈ wq_all := List.mem_of_getElem? (i := 641) (by decide +kernel)
set_option maxRecDepth 20000 in
theorem wk_642 : ((Jvm.Cond.static ({ cls := "java/lang/Integer", name := "bitCount", desc := "(I)I" } : Jvm.MethodName)) : Cond) ∈ wq_all := List.mem_of_getElem? (i := 642) (by decide +kernel)
set_option maxRecDepth 20000 in
theorem wk_643 : ((Jvm.Cond.code ({ cls := "java/lang/Integer", name := "bitCount", desc := "(I)I" } : Jvm.MethodName) prog_12_method_49_code (1 : Nat) (Option.some Jvm.ClassFile.FieldType.int)) : Cond) ∈ wq_all := List.mem_of_getElem? (i := 643) (by decide +kernel)
set_option maxRecDepth 20000 in
theorem wk_644 : ((Jvm.Cond.constant "java/lang/Integer" (265 : Nat) (1431655765 : Int32)) : Cond) ∈ wq_all := List.mem_of_getElem? (i := 644) (by decide +kernel)
set_option maxRecDepth 20000 in
theorem wk_645 : ((Jvm.Cond.constant "java/lang/Integer" (266 : Nat) (858993459 : Int32)) : Cond) ∈ wq_all := List.mem_of_getElem? (i := 645) (by decide +kernel)
set_option maxRecDepth 20000 in
theorem wk_646 : ((Jvm.Cond.constant "java/lang/Integer" (267 : Nat) (252645135 : Int32)) : Cond) ∈ wq_all := List.mem_of_getElem? (i := 646) (by decide +kernel)
set_option maxRecDepth 20000 in
theorem wk_647 : ((Jvm.Cond.methodLink "WorkspaceBox$Processor" (200 : Nat) ({ cls := "WorkspaceBox$Processor", name := "putOperand", desc := "(IIZ)V" } : Jvm.MethodName)) : Cond) ∈ wq_all := List.mem_of_getElem? (i := 647) (by decide +kernel)
set_option maxRecDepth 20000 in
theorem wk_648 : ((Jvm.Cond.instanceMethod ({ cls := "WorkspaceBox$Processor", name := "putOperand", desc := "(IIZ)V" } : Jvm.MethodName)) : Cond) ∈ wq_all := List.mem_of_getElem? (i := 648) (by decide +kernel)
set_option maxRecDepth 20000 in
theorem wk_649 : ((Jvm.Cond.code ({ cls := "WorkspaceBox$Processor", name := "putOperand", desc := "(IIZ)V" } : Jvm.MethodName) prog_6_method_35_code (4 : Nat) (Option.none : Option Jvm.ClassFile.FieldType)) : Cond) ∈ wq_all := List.mem_of_getElem? (i := 649) (by decide +kernel)
set_option maxRecDepth 20000 in
theorem wk_650 : ((Jvm.Cond.methodLink "WorkspaceBox$Processor" (203 : Nat) ({ cls := "WorkspaceBox$Memory", name := "putByte", desc := "(II)V" } : Jvm.MethodName)) : Cond) ∈ wq_all := List.mem_of_getElem? (i := 650) (by decide +kernel)
set_option maxRecDepth 20000 in
theorem wk_651 : ((Jvm.Cond.methodLink "WorkspaceBox$Processor" (121 : Nat) ({ cls := "WorkspaceBox$Processor", name := "doLongArithmetic", desc := "(I)V" } : Jvm.MethodName)) : Cond) ∈ wq_all := List.mem_of_getElem? (i := 651) (by decide +kernel)
set_option maxRecDepth 20000 in
theorem wk_652 : ((Jvm.Cond.instanceMethod ({ cls := "WorkspaceBox$Processor", name := "doLongArithmetic", desc := "(I)V" } : Jvm.MethodName)) : Cond) ∈ wq_all := List.mem_of_getElem? (i := 652) (by decide +kernel)
set_option maxRecDepth 20000 in
theorem wk_653 : ((Jvm.Cond.code ({ cls := "WorkspaceBox$Processor", name := "doLongArithmetic", desc := "(I)V" } : Jvm.MethodName) prog_6_method_37_code (6 : Nat) (Option.none : Option Jvm.ClassFile.FieldType)) : Cond) ∈ wq_all := List.mem_of_getElem? (i := 653) (by decide +kernel)
set_option maxRecDepth 20000 in
theorem wk_654 : ((Jvm.Cond.methodLink "WorkspaceBox$Processor" (207 : Nat) ({ cls := "WorkspaceBox$Processor", name := "divide", desc := "(III)V" } : Jvm.MethodName)) : Cond) ∈ wq_all := List.mem_of_getElem? (i := 654) (by decide +kernel)
set_option maxRecDepth 20000 in
theorem wk_655 : ((Jvm.Cond.instanceMethod ({ cls := "WorkspaceBox$Processor", name := "divide", desc := "(III)V" } : Jvm.MethodName)) : Cond) ∈ wq_all := List.mem_of_getElem? (i := 655) (by decide +kernel)
set_option maxRecDepth 20000 in
theorem wk_656 : ((Jvm.Cond.code ({ cls := "WorkspaceBox$Processor", name := "divide", desc := "(III)V" } : Jvm.MethodName) prog_6_method_38_code (6 : Nat) (Option.none : Option Jvm.ClassFile.FieldType)) : Cond) ∈ wq_all := List.mem_of_getElem? (i := 656) (by decide +kernel)
set_option maxRecDepth 20000 in
theorem wk_657 : ((Jvm.Cond.methodLink "WorkspaceBox$Processor" (124 : Nat) ({ cls := "WorkspaceBox$Processor", name := "doTwoOperands", desc := "(I)V" } : Jvm.MethodName)) : Cond) ∈ wq_all := List.mem_of_getElem? (i := 657) (by decide +kernel)
set_option maxRecDepth 20000 in
theorem wk_658 : ((Jvm.Cond.instanceMethod ({ cls := "WorkspaceBox$Processor", name := "doTwoOperands", desc := "(I)V" } : Jvm.MethodName)) : Cond) ∈ wq_all := List.mem_of_getElem? (i := 658) (by decide +kernel)
set_option maxRecDepth 20000 in
theorem wk_659 : ((Jvm.Cond.code ({ cls := "WorkspaceBox$Processor", name := "doTwoOperands", desc := "(I)V" } : Jvm.MethodName) prog_6_method_39_code (9 : Nat) (Option.none : Option Jvm.ClassFile.FieldType)) : Cond) ∈ wq_all := List.mem_of_getElem? (i := 659) (by decide +kernel)
