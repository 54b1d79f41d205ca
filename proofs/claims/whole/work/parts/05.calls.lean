/-! links of calls -/
set_option maxRecDepth 20000 in
theorem cd_X8_addEdge : Cond.code mX8_addEdge.1 mX8_addEdge.2.1 mX8_addEdge.2.2.1 mX8_addEdge.2.2.2 ∈ ly_G := (ly_in 343 rfl rfl)
theorem cw_X8_addEdge : Cond.instanceMethod mX8_addEdge.1 ∈ ly_G ∧ Cond.selects mX8_addEdge.1.cls mX8_addEdge.1 mX8_addEdge.1 ∈ ly_G ∧ Cond.initialized mX8_addEdge.1.cls ∈ ly_G := ⟨(ly_in 341 (by decide +kernel) (by decide +kernel)), (ly_in 342 (by decide +kernel) (by decide +kernel)), (ly_in 55 (by decide +kernel) (by decide +kernel))⟩
theorem cv_L_13 : cv_ok RL 13 mX8_addEdge 8 5 := ⟨by decide +kernel, Or.inl (ly_in 340 (by decide +kernel) (by decide +kernel)), cw_X8_addEdge.1, cw_X8_addEdge.2.1, cw_X8_addEdge.2.2, cd_X8_addEdge, by decide +kernel, by decide⟩
set_option maxRecDepth 20000 in
theorem cd_X8_areNodes : Cond.code mX8_areNodes.1 mX8_areNodes.2.1 mX8_areNodes.2.2.1 mX8_areNodes.2.2.2 ∈ ly_G := (ly_in 346 rfl rfl)
theorem cw_X8_areNodes : Cond.static mX8_areNodes.1 ∈ ly_G ∧ Cond.initialized mX8_areNodes.1.cls ∈ ly_G := ⟨(ly_in 345 (by decide +kernel) (by decide +kernel)), (ly_in 55 (by decide +kernel) (by decide +kernel))⟩
theorem cs_X8_75 : cs_ok RX8 75 mX8_areNodes 2 := ⟨Or.inl (ly_in 344 (by decide +kernel) (by decide +kernel)), cw_X8_areNodes.1, cw_X8_areNodes.2, cd_X8_areNodes, by decide +kernel, by decide⟩
set_option maxRecDepth 20000 in
theorem cd_X8_isWithin : Cond.code mX8_isWithin.1 mX8_isWithin.2.1 mX8_isWithin.2.2.1 mX8_isWithin.2.2.2 ∈ ly_G := (ly_in 349 rfl rfl)
theorem cw_X8_isWithin : Cond.static mX8_isWithin.1 ∈ ly_G ∧ Cond.initialized mX8_isWithin.1.cls ∈ ly_G := ⟨(ly_in 348 (by decide +kernel) (by decide +kernel)), (ly_in 55 (by decide +kernel) (by decide +kernel))⟩
theorem cs_X8_164 : cs_ok RX8 164 mX8_isWithin 2 := ⟨Or.inl (ly_in 347 (by decide +kernel) (by decide +kernel)), cw_X8_isWithin.1, cw_X8_isWithin.2, cd_X8_isWithin, by decide +kernel, by decide⟩
set_option maxRecDepth 20000 in
theorem cd_X2_isValue : Cond.code mX2_isValue.1 mX2_isValue.2.1 mX2_isValue.2.2.1 mX2_isValue.2.2.2 ∈ ly_G := (ly_in 352 rfl rfl)
theorem cw_X2_isValue : Cond.static mX2_isValue.1 ∈ ly_G ∧ Cond.initialized mX2_isValue.1.cls ∈ ly_G := ⟨(ly_in 351 (by decide +kernel) (by decide +kernel)), (ly_in 56 (by decide +kernel) (by decide +kernel))⟩
theorem cs_X8_79 : cs_ok RX8 79 mX2_isValue 2 := ⟨Or.inl (ly_in 350 (by decide +kernel) (by decide +kernel)), cw_X2_isValue.1, cw_X2_isValue.2, cd_X2_isValue, by decide +kernel, by decide⟩
set_option maxRecDepth 20000 in
theorem cd_X4_keep : Cond.code mX4_keep.1 mX4_keep.2.1 mX4_keep.2.2.1 mX4_keep.2.2.2 ∈ ly_G := (ly_in 356 rfl rfl)
theorem cw_X4_keep : Cond.instanceMethod mX4_keep.1 ∈ ly_G ∧ Cond.selects mX4_keep.1.cls mX4_keep.1 mX4_keep.1 ∈ ly_G ∧ Cond.initialized mX4_keep.1.cls ∈ ly_G := ⟨(ly_in 354 (by decide +kernel) (by decide +kernel)), (ly_in 355 (by decide +kernel) (by decide +kernel)), (ly_in 57 (by decide +kernel) (by decide +kernel))⟩
theorem cv_X8_85 : cv_ok RX8 85 mX4_keep 4 1 := ⟨by decide +kernel, Or.inl (ly_in 353 (by decide +kernel) (by decide +kernel)), cw_X4_keep.1, cw_X4_keep.2.1, cw_X4_keep.2.2, cd_X4_keep, by decide +kernel, by decide⟩
set_option maxRecDepth 20000 in
theorem cd_X2_copyTo : Cond.code mX2_copyTo.1 mX2_copyTo.2.1 mX2_copyTo.2.2.1 mX2_copyTo.2.2.2 ∈ ly_G := (ly_in 360 rfl rfl)
theorem cw_X2_copyTo : Cond.instanceMethod mX2_copyTo.1 ∈ ly_G ∧ Cond.selects mX2_copyTo.1.cls mX2_copyTo.1 mX2_copyTo.1 ∈ ly_G ∧ Cond.initialized mX2_copyTo.1.cls ∈ ly_G := ⟨(ly_in 358 (by decide +kernel) (by decide +kernel)), (ly_in 359 (by decide +kernel) (by decide +kernel)), (ly_in 56 (by decide +kernel) (by decide +kernel))⟩
theorem cv_X4_24 : cv_ok RX4 24 mX2_copyTo 2 2 := ⟨by decide +kernel, Or.inl (ly_in 357 (by decide +kernel) (by decide +kernel)), cw_X2_copyTo.1, cw_X2_copyTo.2.1, cw_X2_copyTo.2.2, cd_X2_copyTo, by decide +kernel, by decide⟩
set_option maxRecDepth 20000 in
theorem cd_X2_pack : Cond.code mX2_pack.1 mX2_pack.2.1 mX2_pack.2.2.1 mX2_pack.2.2.2 ∈ ly_G := (ly_in 366 rfl rfl)
theorem cw_X2_pack : Cond.static mX2_pack.1 ∈ ly_G ∧ Cond.initialized mX2_pack.1.cls ∈ ly_G := ⟨(ly_in 365 (by decide +kernel) (by decide +kernel)), (ly_in 56 (by decide +kernel) (by decide +kernel))⟩
theorem cs_X8_88 : cs_ok RX8 88 mX2_pack 5 := ⟨Or.inl (ly_in 364 (by decide +kernel) (by decide +kernel)), cw_X2_pack.1, cw_X2_pack.2, cd_X2_pack, by decide +kernel, by decide⟩
set_option maxRecDepth 20000 in
theorem cd_X2_append : Cond.code mX2_append.1 mX2_append.2.1 mX2_append.2.2.1 mX2_append.2.2.2 ∈ ly_G := (ly_in 370 rfl rfl)
theorem cw_X2_append : Cond.instanceMethod mX2_append.1 ∈ ly_G ∧ Cond.selects mX2_append.1.cls mX2_append.1 mX2_append.1 ∈ ly_G ∧ Cond.initialized mX2_append.1.cls ∈ ly_G := ⟨(ly_in 368 (by decide +kernel) (by decide +kernel)), (ly_in 369 (by decide +kernel) (by decide +kernel)), (ly_in 56 (by decide +kernel) (by decide +kernel))⟩
theorem cv_X8_92 : cv_ok RX8 92 mX2_append 2 1 := ⟨by decide +kernel, Or.inl (ly_in 367 (by decide +kernel) (by decide +kernel)), cw_X2_append.1, cw_X2_append.2.1, cw_X2_append.2.2, cd_X2_append, by decide +kernel, by decide⟩
set_option maxRecDepth 20000 in
theorem cd_X8_removeEdge : Cond.code mX8_removeEdge.1 mX8_removeEdge.2.1 mX8_removeEdge.2.2.1 mX8_removeEdge.2.2.2 ∈ ly_G := (ly_in 374 rfl rfl)
theorem cw_X8_removeEdge : Cond.instanceMethod mX8_removeEdge.1 ∈ ly_G ∧ Cond.selects mX8_removeEdge.1.cls mX8_removeEdge.1 mX8_removeEdge.1 ∈ ly_G ∧ Cond.initialized mX8_removeEdge.1.cls ∈ ly_G := ⟨(ly_in 372 (by decide +kernel) (by decide +kernel)), (ly_in 373 (by decide +kernel) (by decide +kernel)), (ly_in 55 (by decide +kernel) (by decide +kernel))⟩
theorem cv_L_18 : cv_ok RL 18 mX8_removeEdge 8 1 := ⟨by decide +kernel, Or.inl (ly_in 371 (by decide +kernel) (by decide +kernel)), cw_X8_removeEdge.1, cw_X8_removeEdge.2.1, cw_X8_removeEdge.2.2, cd_X8_removeEdge, by decide +kernel, by decide⟩
set_option maxRecDepth 20000 in
theorem cd_X2_has : Cond.code mX2_has.1 mX2_has.2.1 mX2_has.2.2.1 mX2_has.2.2.2 ∈ ly_G := (ly_in 378 rfl rfl)
theorem cw_X2_has : Cond.instanceMethod mX2_has.1 ∈ ly_G ∧ Cond.selects mX2_has.1.cls mX2_has.1 mX2_has.1 ∈ ly_G ∧ Cond.initialized mX2_has.1.cls ∈ ly_G := ⟨(ly_in 376 (by decide +kernel) (by decide +kernel)), (ly_in 377 (by decide +kernel) (by decide +kernel)), (ly_in 56 (by decide +kernel) (by decide +kernel))⟩
theorem cv_X8_96 : cv_ok RX8 96 mX2_has 2 1 := ⟨by decide +kernel, Or.inl (ly_in 375 (by decide +kernel) (by decide +kernel)), cw_X2_has.1, cw_X2_has.2.1, cw_X2_has.2.2, cd_X2_has, by decide +kernel, by decide⟩
set_option maxRecDepth 20000 in
theorem cd_X2_delete : Cond.code mX2_delete.1 mX2_delete.2.1 mX2_delete.2.2.1 mX2_delete.2.2.2 ∈ ly_G := (ly_in 382 rfl rfl)
theorem cw_X2_delete : Cond.instanceMethod mX2_delete.1 ∈ ly_G ∧ Cond.selects mX2_delete.1.cls mX2_delete.1 mX2_delete.1 ∈ ly_G ∧ Cond.initialized mX2_delete.1.cls ∈ ly_G := ⟨(ly_in 380 (by decide +kernel) (by decide +kernel)), (ly_in 381 (by decide +kernel) (by decide +kernel)), (ly_in 56 (by decide +kernel) (by decide +kernel))⟩
theorem cv_X8_100 : cv_ok RX8 100 mX2_delete 2 1 := ⟨by decide +kernel, Or.inl (ly_in 379 (by decide +kernel) (by decide +kernel)), cw_X2_delete.1, cw_X2_delete.2.1, cw_X2_delete.2.2, cd_X2_delete, by decide +kernel, by decide⟩
theorem cv_X2_26 : cv_ok RX2 26 mX2_has 2 1 := ⟨by decide +kernel, Or.inl (ly_in 383 (by decide +kernel) (by decide +kernel)), cw_X2_has.1, cw_X2_has.2.1, cw_X2_has.2.2, cd_X2_has, by decide +kernel, by decide⟩
set_option maxRecDepth 20000 in
theorem cd_X8_setEdge : Cond.code mX8_setEdge.1 mX8_setEdge.2.1 mX8_setEdge.2.2.1 mX8_setEdge.2.2.2 ∈ ly_G := (ly_in 387 rfl rfl)
theorem cw_X8_setEdge : Cond.instanceMethod mX8_setEdge.1 ∈ ly_G ∧ Cond.selects mX8_setEdge.1.cls mX8_setEdge.1 mX8_setEdge.1 ∈ ly_G ∧ Cond.initialized mX8_setEdge.1.cls ∈ ly_G := ⟨(ly_in 385 (by decide +kernel) (by decide +kernel)), (ly_in 386 (by decide +kernel) (by decide +kernel)), (ly_in 55 (by decide +kernel) (by decide +kernel))⟩
theorem cv_L_23 : cv_ok RL 23 mX8_setEdge 8 3 := ⟨by decide +kernel, Or.inl (ly_in 384 (by decide +kernel) (by decide +kernel)), cw_X8_setEdge.1, cw_X8_setEdge.2.1, cw_X8_setEdge.2.2, cd_X8_setEdge, by decide +kernel, by decide⟩
set_option maxRecDepth 20000 in
theorem cd_X2_part : Cond.code mX2_part.1 mX2_part.2.1 mX2_part.2.2.1 mX2_part.2.2.2 ∈ ly_G := (ly_in 391 rfl rfl)
theorem cw_X2_part : Cond.instanceMethod mX2_part.1 ∈ ly_G ∧ Cond.selects mX2_part.1.cls mX2_part.1 mX2_part.1 ∈ ly_G ∧ Cond.initialized mX2_part.1.cls ∈ ly_G := ⟨(ly_in 389 (by decide +kernel) (by decide +kernel)), (ly_in 390 (by decide +kernel) (by decide +kernel)), (ly_in 56 (by decide +kernel) (by decide +kernel))⟩
theorem cv_X8_103 : cv_ok RX8 103 mX2_part 2 2 := ⟨by decide +kernel, Or.inl (ly_in 388 (by decide +kernel) (by decide +kernel)), cw_X2_part.1, cw_X2_part.2.1, cw_X2_part.2.2, cd_X2_part, by decide +kernel, by decide⟩
set_option maxRecDepth 20000 in
theorem cd_X2_setPart : Cond.code mX2_setPart.1 mX2_setPart.2.1 mX2_setPart.2.2.1 mX2_setPart.2.2.2 ∈ ly_G := (ly_in 399 rfl rfl)
theorem cw_X2_setPart : Cond.instanceMethod mX2_setPart.1 ∈ ly_G ∧ Cond.selects mX2_setPart.1.cls mX2_setPart.1 mX2_setPart.1 ∈ ly_G ∧ Cond.initialized mX2_setPart.1.cls ∈ ly_G := ⟨(ly_in 397 (by decide +kernel) (by decide +kernel)), (ly_in 398 (by decide +kernel) (by decide +kernel)), (ly_in 56 (by decide +kernel) (by decide +kernel))⟩
theorem cv_X8_107 : cv_ok RX8 107 mX2_setPart 2 3 := ⟨by decide +kernel, Or.inl (ly_in 396 (by decide +kernel) (by decide +kernel)), cw_X2_setPart.1, cw_X2_setPart.2.1, cw_X2_setPart.2.2, cd_X2_setPart, by decide +kernel, by decide⟩
theorem cs_X2_36 : cs_ok RX2 36 mX2_isValue 2 := ⟨Or.inl (ly_in 400 (by decide +kernel) (by decide +kernel)), cw_X2_isValue.1, cw_X2_isValue.2, cd_X2_isValue, by decide +kernel, by decide⟩
set_option maxRecDepth 20000 in
theorem cd_X8_edge : Cond.code mX8_edge.1 mX8_edge.2.1 mX8_edge.2.2.1 mX8_edge.2.2.2 ∈ ly_G := (ly_in 404 rfl rfl)
theorem cw_X8_edge : Cond.instanceMethod mX8_edge.1 ∈ ly_G ∧ Cond.selects mX8_edge.1.cls mX8_edge.1 mX8_edge.1 ∈ ly_G ∧ Cond.initialized mX8_edge.1.cls ∈ ly_G := ⟨(ly_in 402 (by decide +kernel) (by decide +kernel)), (ly_in 403 (by decide +kernel) (by decide +kernel)), (ly_in 55 (by decide +kernel) (by decide +kernel))⟩
theorem cv_L_28 : cv_ok RL 28 mX8_edge 8 2 := ⟨by decide +kernel, Or.inl (ly_in 401 (by decide +kernel) (by decide +kernel)), cw_X8_edge.1, cw_X8_edge.2.1, cw_X8_edge.2.2, cd_X8_edge, by decide +kernel, by decide⟩
set_option maxRecDepth 20000 in
theorem cd_X8_clear : Cond.code mX8_clear.1 mX8_clear.2.1 mX8_clear.2.2.1 mX8_clear.2.2.2 ∈ ly_G := (ly_in 408 rfl rfl)
theorem cw_X8_clear : Cond.instanceMethod mX8_clear.1 ∈ ly_G ∧ Cond.selects mX8_clear.1.cls mX8_clear.1 mX8_clear.1 ∈ ly_G ∧ Cond.initialized mX8_clear.1.cls ∈ ly_G := ⟨(ly_in 406 (by decide +kernel) (by decide +kernel)), (ly_in 407 (by decide +kernel) (by decide +kernel)), (ly_in 55 (by decide +kernel) (by decide +kernel))⟩
theorem cv_L_33 : cv_ok RL 33 mX8_clear 8 0 := ⟨by decide +kernel, Or.inl (ly_in 405 (by decide +kernel) (by decide +kernel)), cw_X8_clear.1, cw_X8_clear.2.1, cw_X8_clear.2.2, cd_X8_clear, by decide +kernel, by decide⟩
set_option maxRecDepth 20000 in
theorem cd_X2_empty : Cond.code mX2_empty.1 mX2_empty.2.1 mX2_empty.2.2.1 mX2_empty.2.2.2 ∈ ly_G := (ly_in 412 rfl rfl)
theorem cw_X2_empty : Cond.instanceMethod mX2_empty.1 ∈ ly_G ∧ Cond.selects mX2_empty.1.cls mX2_empty.1 mX2_empty.1 ∈ ly_G ∧ Cond.initialized mX2_empty.1.cls ∈ ly_G := ⟨(ly_in 410 (by decide +kernel) (by decide +kernel)), (ly_in 411 (by decide +kernel) (by decide +kernel)), (ly_in 56 (by decide +kernel) (by decide +kernel))⟩
theorem cv_X8_114 : cv_ok RX8 114 mX2_empty 2 0 := ⟨by decide +kernel, Or.inl (ly_in 409 (by decide +kernel) (by decide +kernel)), cw_X2_empty.1, cw_X2_empty.2.1, cw_X2_empty.2.2, cd_X2_empty, by decide +kernel, by decide⟩
set_option maxRecDepth 20000 in
theorem cd_X8_type : Cond.code mX8_type.1 mX8_type.2.1 mX8_type.2.2.1 mX8_type.2.2.2 ∈ ly_G := (ly_in 416 rfl rfl)
theorem cw_X8_type : Cond.instanceMethod mX8_type.1 ∈ ly_G ∧ Cond.selects mX8_type.1.cls mX8_type.1 mX8_type.1 ∈ ly_G ∧ Cond.initialized mX8_type.1.cls ∈ ly_G := ⟨(ly_in 414 (by decide +kernel) (by decide +kernel)), (ly_in 415 (by decide +kernel) (by decide +kernel)), (ly_in 55 (by decide +kernel) (by decide +kernel))⟩
theorem cv_L_38 : cv_ok RL 38 mX8_type 8 1 := ⟨by decide +kernel, Or.inl (ly_in 413 (by decide +kernel) (by decide +kernel)), cw_X8_type.1, cw_X8_type.2.1, cw_X8_type.2.2, cd_X8_type, by decide +kernel, by decide⟩
set_option maxRecDepth 20000 in
theorem cd_X6_append : Cond.code mX6_append.1 mX6_append.2.1 mX6_append.2.2.1 mX6_append.2.2.2 ∈ ly_G := (ly_in 420 rfl rfl)
theorem cw_X6_append : Cond.instanceMethod mX6_append.1 ∈ ly_G ∧ Cond.selects mX6_append.1.cls mX6_append.1 mX6_append.1 ∈ ly_G ∧ Cond.initialized mX6_append.1.cls ∈ ly_G := ⟨(ly_in 418 (by decide +kernel) (by decide +kernel)), (ly_in 419 (by decide +kernel) (by decide +kernel)), (ly_in 58 (by decide +kernel) (by decide +kernel))⟩
theorem cv_X8_117 : cv_ok RX8 117 mX6_append 6 1 := ⟨by decide +kernel, Or.inl (ly_in 417 (by decide +kernel) (by decide +kernel)), cw_X6_append.1, cw_X6_append.2.1, cw_X6_append.2.2, cd_X6_append, by decide +kernel, by decide⟩
set_option maxRecDepth 20000 in
theorem cd_X8_clearText : Cond.code mX8_clearText.1 mX8_clearText.2.1 mX8_clearText.2.2.1 mX8_clearText.2.2.2 ∈ ly_G := (ly_in 424 rfl rfl)
theorem cw_X8_clearText : Cond.instanceMethod mX8_clearText.1 ∈ ly_G ∧ Cond.selects mX8_clearText.1.cls mX8_clearText.1 mX8_clearText.1 ∈ ly_G ∧ Cond.initialized mX8_clearText.1.cls ∈ ly_G := ⟨(ly_in 422 (by decide +kernel) (by decide +kernel)), (ly_in 423 (by decide +kernel) (by decide +kernel)), (ly_in 55 (by decide +kernel) (by decide +kernel))⟩
theorem cv_L_42 : cv_ok RL 42 mX8_clearText 8 0 := ⟨by decide +kernel, Or.inl (ly_in 421 (by decide +kernel) (by decide +kernel)), cw_X8_clearText.1, cw_X8_clearText.2.1, cw_X8_clearText.2.2, cd_X8_clearText, by decide +kernel, by decide⟩
set_option maxRecDepth 20000 in
theorem cd_X8_fault : Cond.code mX8_fault.1 mX8_fault.2.1 mX8_fault.2.2.1 mX8_fault.2.2.2 ∈ ly_G := (ly_in 428 rfl rfl)
theorem cw_X8_fault : Cond.instanceMethod mX8_fault.1 ∈ ly_G ∧ Cond.selects mX8_fault.1.cls mX8_fault.1 mX8_fault.1 ∈ ly_G ∧ Cond.initialized mX8_fault.1.cls ∈ ly_G := ⟨(ly_in 426 (by decide +kernel) (by decide +kernel)), (ly_in 427 (by decide +kernel) (by decide +kernel)), (ly_in 55 (by decide +kernel) (by decide +kernel))⟩
theorem cv_L_46 : cv_ok RL 46 mX8_fault 8 0 := ⟨by decide +kernel, Or.inl (ly_in 425 (by decide +kernel) (by decide +kernel)), cw_X8_fault.1, cw_X8_fault.2.1, cw_X8_fault.2.2, cd_X8_fault, by decide +kernel, by decide⟩
set_option maxRecDepth 20000 in
theorem cd_X6_scan : Cond.code mX6_scan.1 mX6_scan.2.1 mX6_scan.2.2.1 mX6_scan.2.2.2 ∈ ly_G := (ly_in 432 rfl rfl)
theorem cw_X6_scan : Cond.instanceMethod mX6_scan.1 ∈ ly_G ∧ Cond.selects mX6_scan.1.cls mX6_scan.1 mX6_scan.1 ∈ ly_G ∧ Cond.initialized mX6_scan.1.cls ∈ ly_G := ⟨(ly_in 430 (by decide +kernel) (by decide +kernel)), (ly_in 431 (by decide +kernel) (by decide +kernel)), (ly_in 58 (by decide +kernel) (by decide +kernel))⟩
theorem cv_X8_120 : cv_ok RX8 120 mX6_scan 6 0 := ⟨by decide +kernel, Or.inl (ly_in 429 (by decide +kernel) (by decide +kernel)), cw_X6_scan.1, cw_X6_scan.2.1, cw_X6_scan.2.2, cd_X6_scan, by decide +kernel, by decide⟩
set_option maxRecDepth 20000 in
theorem cd_X6_skipBlanks : Cond.code mX6_skipBlanks.1 mX6_skipBlanks.2.1 mX6_skipBlanks.2.2.1 mX6_skipBlanks.2.2.2 ∈ ly_G := (ly_in 436 rfl rfl)
theorem cw_X6_skipBlanks : Cond.instanceMethod mX6_skipBlanks.1 ∈ ly_G ∧ Cond.selects mX6_skipBlanks.1.cls mX6_skipBlanks.1 mX6_skipBlanks.1 ∈ ly_G ∧ Cond.initialized mX6_skipBlanks.1.cls ∈ ly_G := ⟨(ly_in 435 (by decide +kernel) (by decide +kernel)), (ly_in 0 (by decide +kernel) (by decide +kernel)), (ly_in 58 (by decide +kernel) (by decide +kernel))⟩
theorem cv_X6_29 : cv_ok RX6 29 mX6_skipBlanks 6 0 := ⟨by decide +kernel, Or.inl (ly_in 433 (by decide +kernel) (by decide +kernel)), cw_X6_skipBlanks.1, cw_X6_skipBlanks.2.1, cw_X6_skipBlanks.2.2, cd_X6_skipBlanks, by decide +kernel, by decide⟩
set_option maxRecDepth 20000 in
theorem cd_X6_letterAt : Cond.code mX6_letterAt.1 mX6_letterAt.2.1 mX6_letterAt.2.2.1 mX6_letterAt.2.2.2 ∈ ly_G := (ly_in 440 rfl rfl)
theorem cw_X6_letterAt : Cond.instanceMethod mX6_letterAt.1 ∈ ly_G ∧ Cond.selects mX6_letterAt.1.cls mX6_letterAt.1 mX6_letterAt.1 ∈ ly_G ∧ Cond.initialized mX6_letterAt.1.cls ∈ ly_G := ⟨(ly_in 438 (by decide +kernel) (by decide +kernel)), (ly_in 439 (by decide +kernel) (by decide +kernel)), (ly_in 58 (by decide +kernel) (by decide +kernel))⟩
theorem cv_X6_63 : cv_ok RX6 63 mX6_letterAt 6 1 := ⟨by decide +kernel, Or.inl (ly_in 437 (by decide +kernel) (by decide +kernel)), cw_X6_letterAt.1, cw_X6_letterAt.2.1, cw_X6_letterAt.2.2, cd_X6_letterAt, by decide +kernel, by decide⟩
set_option maxRecDepth 20000 in
theorem cd_X6_readEdge : Cond.code mX6_readEdge.1 mX6_readEdge.2.1 mX6_readEdge.2.2.1 mX6_readEdge.2.2.2 ∈ ly_G := (ly_in 444 rfl rfl)
theorem cw_X6_readEdge : Cond.instanceMethod mX6_readEdge.1 ∈ ly_G ∧ Cond.selects mX6_readEdge.1.cls mX6_readEdge.1 mX6_readEdge.1 ∈ ly_G ∧ Cond.initialized mX6_readEdge.1.cls ∈ ly_G := ⟨(ly_in 443 (by decide +kernel) (by decide +kernel)), (ly_in 1 (by decide +kernel) (by decide +kernel)), (ly_in 58 (by decide +kernel) (by decide +kernel))⟩
theorem cv_X6_32 : cv_ok RX6 32 mX6_readEdge 6 0 := ⟨by decide +kernel, Or.inl (ly_in 441 (by decide +kernel) (by decide +kernel)), cw_X6_readEdge.1, cw_X6_readEdge.2.1, cw_X6_readEdge.2.2, cd_X6_readEdge, by decide +kernel, by decide⟩
set_option maxRecDepth 20000 in
theorem cd_X6_readNode : Cond.code mX6_readNode.1 mX6_readNode.2.1 mX6_readNode.2.2.1 mX6_readNode.2.2.2 ∈ ly_G := (ly_in 448 rfl rfl)
theorem cw_X6_readNode : Cond.instanceMethod mX6_readNode.1 ∈ ly_G ∧ Cond.selects mX6_readNode.1.cls mX6_readNode.1 mX6_readNode.1 ∈ ly_G ∧ Cond.initialized mX6_readNode.1.cls ∈ ly_G := ⟨(ly_in 447 (by decide +kernel) (by decide +kernel)), (ly_in 2 (by decide +kernel) (by decide +kernel)), (ly_in 58 (by decide +kernel) (by decide +kernel))⟩
theorem cv_X6_36 : cv_ok RX6 36 mX6_readNode 6 0 := ⟨by decide +kernel, Or.inl (ly_in 445 (by decide +kernel) (by decide +kernel)), cw_X6_readNode.1, cw_X6_readNode.2.1, cw_X6_readNode.2.2, cd_X6_readNode, by decide +kernel, by decide⟩
set_option maxRecDepth 20000 in
theorem cd_X6_readOtherNode : Cond.code mX6_readOtherNode.1 mX6_readOtherNode.2.1 mX6_readOtherNode.2.2.1 mX6_readOtherNode.2.2.2 ∈ ly_G := (ly_in 452 rfl rfl)
theorem cw_X6_readOtherNode : Cond.instanceMethod mX6_readOtherNode.1 ∈ ly_G ∧ Cond.selects mX6_readOtherNode.1.cls mX6_readOtherNode.1 mX6_readOtherNode.1 ∈ ly_G ∧ Cond.initialized mX6_readOtherNode.1.cls ∈ ly_G := ⟨(ly_in 451 (by decide +kernel) (by decide +kernel)), (ly_in 3 (by decide +kernel) (by decide +kernel)), (ly_in 58 (by decide +kernel) (by decide +kernel))⟩
theorem cv_X6_40 : cv_ok RX6 40 mX6_readOtherNode 6 1 := ⟨by decide +kernel, Or.inl (ly_in 449 (by decide +kernel) (by decide +kernel)), cw_X6_readOtherNode.1, cw_X6_readOtherNode.2.1, cw_X6_readOtherNode.2.2, cd_X6_readOtherNode, by decide +kernel, by decide⟩
set_option maxRecDepth 20000 in
theorem cd_X6_readNumber : Cond.code mX6_readNumber.1 mX6_readNumber.2.1 mX6_readNumber.2.2.1 mX6_readNumber.2.2.2 ∈ ly_G := (ly_in 456 rfl rfl)
theorem cw_X6_readNumber : Cond.instanceMethod mX6_readNumber.1 ∈ ly_G ∧ Cond.selects mX6_readNumber.1.cls mX6_readNumber.1 mX6_readNumber.1 ∈ ly_G ∧ Cond.initialized mX6_readNumber.1.cls ∈ ly_G := ⟨(ly_in 455 (by decide +kernel) (by decide +kernel)), (ly_in 4 (by decide +kernel) (by decide +kernel)), (ly_in 58 (by decide +kernel) (by decide +kernel))⟩
theorem cv_X6_44 : cv_ok RX6 44 mX6_readNumber 6 0 := ⟨by decide +kernel, Or.inl (ly_in 453 (by decide +kernel) (by decide +kernel)), cw_X6_readNumber.1, cw_X6_readNumber.2.1, cw_X6_readNumber.2.2, cd_X6_readNumber, by decide +kernel, by decide⟩
set_option maxRecDepth 20000 in
theorem cd_X6_digitAt : Cond.code mX6_digitAt.1 mX6_digitAt.2.1 mX6_digitAt.2.2.1 mX6_digitAt.2.2.2 ∈ ly_G := (ly_in 460 rfl rfl)
theorem cw_X6_digitAt : Cond.instanceMethod mX6_digitAt.1 ∈ ly_G ∧ Cond.selects mX6_digitAt.1.cls mX6_digitAt.1 mX6_digitAt.1 ∈ ly_G ∧ Cond.initialized mX6_digitAt.1.cls ∈ ly_G := ⟨(ly_in 459 (by decide +kernel) (by decide +kernel)), (ly_in 5 (by decide +kernel) (by decide +kernel)), (ly_in 58 (by decide +kernel) (by decide +kernel))⟩
theorem cv_X6_66 : cv_ok RX6 66 mX6_digitAt 6 1 := ⟨by decide +kernel, Or.inl (ly_in 457 (by decide +kernel) (by decide +kernel)), cw_X6_digitAt.1, cw_X6_digitAt.2.1, cw_X6_digitAt.2.2, cd_X6_digitAt, by decide +kernel, by decide⟩
set_option maxRecDepth 20000 in
theorem cd_X6_readSign : Cond.code mX6_readSign.1 mX6_readSign.2.1 mX6_readSign.2.2.1 mX6_readSign.2.2.2 ∈ ly_G := (ly_in 464 rfl rfl)
theorem cw_X6_readSign : Cond.instanceMethod mX6_readSign.1 ∈ ly_G ∧ Cond.selects mX6_readSign.1.cls mX6_readSign.1 mX6_readSign.1 ∈ ly_G ∧ Cond.initialized mX6_readSign.1.cls ∈ ly_G := ⟨(ly_in 463 (by decide +kernel) (by decide +kernel)), (ly_in 6 (by decide +kernel) (by decide +kernel)), (ly_in 58 (by decide +kernel) (by decide +kernel))⟩
theorem cv_X6_47 : cv_ok RX6 47 mX6_readSign 6 1 := ⟨by decide +kernel, Or.inl (ly_in 461 (by decide +kernel) (by decide +kernel)), cw_X6_readSign.1, cw_X6_readSign.2.1, cw_X6_readSign.2.2, cd_X6_readSign, by decide +kernel, by decide⟩
set_option maxRecDepth 20000 in
theorem cd_X6_readDelay : Cond.code mX6_readDelay.1 mX6_readDelay.2.1 mX6_readDelay.2.2.1 mX6_readDelay.2.2.2 ∈ ly_G := (ly_in 468 rfl rfl)
theorem cw_X6_readDelay : Cond.instanceMethod mX6_readDelay.1 ∈ ly_G ∧ Cond.selects mX6_readDelay.1.cls mX6_readDelay.1 mX6_readDelay.1 ∈ ly_G ∧ Cond.initialized mX6_readDelay.1.cls ∈ ly_G := ⟨(ly_in 467 (by decide +kernel) (by decide +kernel)), (ly_in 7 (by decide +kernel) (by decide +kernel)), (ly_in 58 (by decide +kernel) (by decide +kernel))⟩
theorem cv_X6_51 : cv_ok RX6 51 mX6_readDelay 6 0 := ⟨by decide +kernel, Or.inl (ly_in 465 (by decide +kernel) (by decide +kernel)), cw_X6_readDelay.1, cw_X6_readDelay.2.1, cw_X6_readDelay.2.2, cd_X6_readDelay, by decide +kernel, by decide⟩
set_option maxRecDepth 20000 in
theorem cd_X6_readCost : Cond.code mX6_readCost.1 mX6_readCost.2.1 mX6_readCost.2.2.1 mX6_readCost.2.2.2 ∈ ly_G := (ly_in 472 rfl rfl)
theorem cw_X6_readCost : Cond.instanceMethod mX6_readCost.1 ∈ ly_G ∧ Cond.selects mX6_readCost.1.cls mX6_readCost.1 mX6_readCost.1 ∈ ly_G ∧ Cond.initialized mX6_readCost.1.cls ∈ ly_G := ⟨(ly_in 471 (by decide +kernel) (by decide +kernel)), (ly_in 8 (by decide +kernel) (by decide +kernel)), (ly_in 58 (by decide +kernel) (by decide +kernel))⟩
theorem cv_X6_54 : cv_ok RX6 54 mX6_readCost 6 0 := ⟨by decide +kernel, Or.inl (ly_in 469 (by decide +kernel) (by decide +kernel)), cw_X6_readCost.1, cw_X6_readCost.2.1, cw_X6_readCost.2.2, cd_X6_readCost, by decide +kernel, by decide⟩
theorem cs_X6_57 : cs_ok RX6 57 mX2_pack 5 := ⟨Or.inl (ly_in 473 (by decide +kernel) (by decide +kernel)), cw_X2_pack.1, cw_X2_pack.2, cd_X2_pack, by decide +kernel, by decide⟩
set_option maxRecDepth 20000 in
theorem cd_X8_load : Cond.code mX8_load.1 mX8_load.2.1 mX8_load.2.2.1 mX8_load.2.2.2 ∈ ly_G := (ly_in 477 rfl rfl)
theorem cw_X8_load : Cond.instanceMethod mX8_load.1 ∈ ly_G ∧ Cond.selects mX8_load.1.cls mX8_load.1 mX8_load.1 ∈ ly_G ∧ Cond.initialized mX8_load.1.cls ∈ ly_G := ⟨(ly_in 475 (by decide +kernel) (by decide +kernel)), (ly_in 476 (by decide +kernel) (by decide +kernel)), (ly_in 55 (by decide +kernel) (by decide +kernel))⟩
theorem cv_L_50 : cv_ok RL 50 mX8_load 8 0 := ⟨by decide +kernel, Or.inl (ly_in 474 (by decide +kernel) (by decide +kernel)), cw_X8_load.1, cw_X8_load.2.1, cw_X8_load.2.2, cd_X8_load, by decide +kernel, by decide⟩
set_option maxRecDepth 20000 in
theorem cd_X6_codeOf : Cond.code mX6_codeOf.1 mX6_codeOf.2.1 mX6_codeOf.2.2.1 mX6_codeOf.2.2.2 ∈ ly_G := (ly_in 481 rfl rfl)
theorem cw_X6_codeOf : Cond.instanceMethod mX6_codeOf.1 ∈ ly_G ∧ Cond.selects mX6_codeOf.1.cls mX6_codeOf.1 mX6_codeOf.1 ∈ ly_G ∧ Cond.initialized mX6_codeOf.1.cls ∈ ly_G := ⟨(ly_in 479 (by decide +kernel) (by decide +kernel)), (ly_in 480 (by decide +kernel) (by decide +kernel)), (ly_in 58 (by decide +kernel) (by decide +kernel))⟩
theorem cv_X8_127 : cv_ok RX8 127 mX6_codeOf 6 1 := ⟨by decide +kernel, Or.inl (ly_in 478 (by decide +kernel) (by decide +kernel)), cw_X6_codeOf.1, cw_X6_codeOf.2.1, cw_X6_codeOf.2.2, cd_X6_codeOf, by decide +kernel, by decide⟩
set_option maxRecDepth 20000 in
theorem cd_X8_attack : Cond.code mX8_attack.1 mX8_attack.2.1 mX8_attack.2.2.1 mX8_attack.2.2.2 ∈ ly_G := (ly_in 485 rfl rfl)
theorem cw_X8_attack : Cond.instanceMethod mX8_attack.1 ∈ ly_G ∧ Cond.selects mX8_attack.1.cls mX8_attack.1 mX8_attack.1 ∈ ly_G ∧ Cond.initialized mX8_attack.1.cls ∈ ly_G := ⟨(ly_in 483 (by decide +kernel) (by decide +kernel)), (ly_in 484 (by decide +kernel) (by decide +kernel)), (ly_in 55 (by decide +kernel) (by decide +kernel))⟩
theorem cv_L_54 : cv_ok RL 54 mX8_attack 8 2 := ⟨by decide +kernel, Or.inl (ly_in 482 (by decide +kernel) (by decide +kernel)), cw_X8_attack.1, cw_X8_attack.2.1, cw_X8_attack.2.2, cd_X8_attack, by decide +kernel, by decide⟩
set_option maxRecDepth 20000 in
theorem cd_X2_costOfSet : Cond.code mX2_costOfSet.1 mX2_costOfSet.2.1 mX2_costOfSet.2.2.1 mX2_costOfSet.2.2.2 ∈ ly_G := (ly_in 489 rfl rfl)
theorem cw_X2_costOfSet : Cond.instanceMethod mX2_costOfSet.1 ∈ ly_G ∧ Cond.selects mX2_costOfSet.1.cls mX2_costOfSet.1 mX2_costOfSet.1 ∈ ly_G ∧ Cond.initialized mX2_costOfSet.1.cls ∈ ly_G := ⟨(ly_in 487 (by decide +kernel) (by decide +kernel)), (ly_in 488 (by decide +kernel) (by decide +kernel)), (ly_in 56 (by decide +kernel) (by decide +kernel))⟩
theorem cv_X8_131 : cv_ok RX8 131 mX2_costOfSet 2 1 := ⟨by decide +kernel, Or.inl (ly_in 486 (by decide +kernel) (by decide +kernel)), cw_X2_costOfSet.1, cw_X2_costOfSet.2.1, cw_X2_costOfSet.2.2, cd_X2_costOfSet, by decide +kernel, by decide⟩
set_option maxRecDepth 20000 in
theorem cd_X2_cost : Cond.code mX2_cost.1 mX2_cost.2.1 mX2_cost.2.2.1 mX2_cost.2.2.2 ∈ ly_G := (ly_in 493 rfl rfl)
theorem cw_X2_cost : Cond.instanceMethod mX2_cost.1 ∈ ly_G ∧ Cond.selects mX2_cost.1.cls mX2_cost.1 mX2_cost.1 ∈ ly_G ∧ Cond.initialized mX2_cost.1.cls ∈ ly_G := ⟨(ly_in 491 (by decide +kernel) (by decide +kernel)), (ly_in 492 (by decide +kernel) (by decide +kernel)), (ly_in 56 (by decide +kernel) (by decide +kernel))⟩
theorem cv_X2_40 : cv_ok RX2 40 mX2_cost 2 1 := ⟨by decide +kernel, Or.inl (ly_in 490 (by decide +kernel) (by decide +kernel)), cw_X2_cost.1, cw_X2_cost.2.1, cw_X2_cost.2.2, cd_X2_cost, by decide +kernel, by decide⟩
set_option maxRecDepth 20000 in
theorem cd_X8_setAttack : Cond.code mX8_setAttack.1 mX8_setAttack.2.1 mX8_setAttack.2.2.1 mX8_setAttack.2.2.2 ∈ ly_G := (ly_in 497 rfl rfl)
theorem cw_X8_setAttack : Cond.instanceMethod mX8_setAttack.1 ∈ ly_G ∧ Cond.selects mX8_setAttack.1.cls mX8_setAttack.1 mX8_setAttack.1 ∈ ly_G ∧ Cond.initialized mX8_setAttack.1.cls ∈ ly_G := ⟨(ly_in 495 (by decide +kernel) (by decide +kernel)), (ly_in 496 (by decide +kernel) (by decide +kernel)), (ly_in 55 (by decide +kernel) (by decide +kernel))⟩
theorem cv_L_59 : cv_ok RL 59 mX8_setAttack 8 1 := ⟨by decide +kernel, Or.inl (ly_in 494 (by decide +kernel) (by decide +kernel)), cw_X8_setAttack.1, cw_X8_setAttack.2.1, cw_X8_setAttack.2.2, cd_X8_setAttack, by decide +kernel, by decide⟩
set_option maxRecDepth 20000 in
theorem cd_X2_hasAll : Cond.code mX2_hasAll.1 mX2_hasAll.2.1 mX2_hasAll.2.2.1 mX2_hasAll.2.2.2 ∈ ly_G := (ly_in 501 rfl rfl)
theorem cw_X2_hasAll : Cond.instanceMethod mX2_hasAll.1 ∈ ly_G ∧ Cond.selects mX2_hasAll.1.cls mX2_hasAll.1 mX2_hasAll.1 ∈ ly_G ∧ Cond.initialized mX2_hasAll.1.cls ∈ ly_G := ⟨(ly_in 499 (by decide +kernel) (by decide +kernel)), (ly_in 500 (by decide +kernel) (by decide +kernel)), (ly_in 56 (by decide +kernel) (by decide +kernel))⟩
theorem cv_X8_134 : cv_ok RX8 134 mX2_hasAll 2 1 := ⟨by decide +kernel, Or.inl (ly_in 498 (by decide +kernel) (by decide +kernel)), cw_X2_hasAll.1, cw_X2_hasAll.2.1, cw_X2_hasAll.2.2, cd_X2_hasAll, by decide +kernel, by decide⟩
set_option maxRecDepth 20000 in
theorem cd_X2_all : Cond.code mX2_all.1 mX2_all.2.1 mX2_all.2.2.1 mX2_all.2.2.2 ∈ ly_G := (ly_in 505 rfl rfl)
theorem cw_X2_all : Cond.instanceMethod mX2_all.1 ∈ ly_G ∧ Cond.selects mX2_all.1.cls mX2_all.1 mX2_all.1 ∈ ly_G ∧ Cond.initialized mX2_all.1.cls ∈ ly_G := ⟨(ly_in 503 (by decide +kernel) (by decide +kernel)), (ly_in 504 (by decide +kernel) (by decide +kernel)), (ly_in 56 (by decide +kernel) (by decide +kernel))⟩
theorem cv_X2_22 : cv_ok RX2 22 mX2_all 2 0 := ⟨by decide +kernel, Or.inl (ly_in 502 (by decide +kernel) (by decide +kernel)), cw_X2_all.1, cw_X2_all.2.1, cw_X2_all.2.2, cd_X2_all, by decide +kernel, by decide⟩
set_option maxRecDepth 20000 in
theorem cd_X8_distance : Cond.code mX8_distance.1 mX8_distance.2.1 mX8_distance.2.2.1 mX8_distance.2.2.2 ∈ ly_G := (ly_in 509 rfl rfl)
theorem cw_X8_distance : Cond.instanceMethod mX8_distance.1 ∈ ly_G ∧ Cond.selects mX8_distance.1.cls mX8_distance.1 mX8_distance.1 ∈ ly_G ∧ Cond.initialized mX8_distance.1.cls ∈ ly_G := ⟨(ly_in 507 (by decide +kernel) (by decide +kernel)), (ly_in 508 (by decide +kernel) (by decide +kernel)), (ly_in 55 (by decide +kernel) (by decide +kernel))⟩
theorem cv_L_63 : cv_ok RL 63 mX8_distance 8 2 := ⟨by decide +kernel, Or.inl (ly_in 506 (by decide +kernel) (by decide +kernel)), cw_X8_distance.1, cw_X8_distance.2.1, cw_X8_distance.2.2, cd_X8_distance, by decide +kernel, by decide⟩
set_option maxRecDepth 20000 in
theorem cd_X5_measure : Cond.code mX5_measure.1 mX5_measure.2.1 mX5_measure.2.2.1 mX5_measure.2.2.2 ∈ ly_G := (ly_in 513 rfl rfl)
theorem cw_X5_measure : Cond.instanceMethod mX5_measure.1 ∈ ly_G ∧ Cond.selects mX5_measure.1.cls mX5_measure.1 mX5_measure.1 ∈ ly_G ∧ Cond.initialized mX5_measure.1.cls ∈ ly_G := ⟨(ly_in 511 (by decide +kernel) (by decide +kernel)), (ly_in 512 (by decide +kernel) (by decide +kernel)), (ly_in 59 (by decide +kernel) (by decide +kernel))⟩
theorem cv_X8_137 : cv_ok RX8 137 mX5_measure 5 4 := ⟨by decide +kernel, Or.inl (ly_in 510 (by decide +kernel) (by decide +kernel)), cw_X5_measure.1, cw_X5_measure.2.1, cw_X5_measure.2.2, cd_X5_measure, by decide +kernel, by decide⟩
set_option maxRecDepth 20000 in
theorem cd_X5_run : Cond.code mX5_run.1 mX5_run.2.1 mX5_run.2.2.1 mX5_run.2.2.2 ∈ ly_G := (ly_in 517 rfl rfl)
theorem cw_X5_run : Cond.instanceMethod mX5_run.1 ∈ ly_G ∧ Cond.selects mX5_run.1.cls mX5_run.1 mX5_run.1 ∈ ly_G ∧ Cond.initialized mX5_run.1.cls ∈ ly_G := ⟨(ly_in 515 (by decide +kernel) (by decide +kernel)), (ly_in 516 (by decide +kernel) (by decide +kernel)), (ly_in 59 (by decide +kernel) (by decide +kernel))⟩
theorem cv_X5_34 : cv_ok RX5 34 mX5_run 5 3 := ⟨by decide +kernel, Or.inl (ly_in 514 (by decide +kernel) (by decide +kernel)), cw_X5_run.1, cw_X5_run.2.1, cw_X5_run.2.2, cd_X5_run, by decide +kernel, by decide⟩
set_option maxRecDepth 20000 in
theorem cd_J7_fill_53178 : Cond.code mJ7_fill_53178.1 mJ7_fill_53178.2.1 mJ7_fill_53178.2.2.1 mJ7_fill_53178.2.2.2 ∈ ly_G := (ly_in 520 rfl rfl)
theorem cw_J7_fill_53178 : Cond.static mJ7_fill_53178.1 ∈ ly_G ∧ Cond.initialized mJ7_fill_53178.1.cls ∈ ly_G := ⟨(ly_in 519 (by decide +kernel) (by decide +kernel)), (ly_in 66 (by decide +kernel) (by decide +kernel))⟩
theorem cs_X5_42 : cs_ok RX5 42 mJ7_fill_53178 2 := ⟨Or.inl (ly_in 518 (by decide +kernel) (by decide +kernel)), cw_J7_fill_53178.1, cw_J7_fill_53178.2, cd_J7_fill_53178, by decide +kernel, by decide⟩
set_option maxRecDepth 20000 in
theorem cd_X2_fillLengths : Cond.code mX2_fillLengths.1 mX2_fillLengths.2.1 mX2_fillLengths.2.2.1 mX2_fillLengths.2.2.2 ∈ ly_G := (ly_in 524 rfl rfl)
theorem cw_X2_fillLengths : Cond.instanceMethod mX2_fillLengths.1 ∈ ly_G ∧ Cond.selects mX2_fillLengths.1.cls mX2_fillLengths.1 mX2_fillLengths.1 ∈ ly_G ∧ Cond.initialized mX2_fillLengths.1.cls ∈ ly_G := ⟨(ly_in 522 (by decide +kernel) (by decide +kernel)), (ly_in 523 (by decide +kernel) (by decide +kernel)), (ly_in 56 (by decide +kernel) (by decide +kernel))⟩
theorem cv_X5_48 : cv_ok RX5 48 mX2_fillLengths 2 2 := ⟨by decide +kernel, Or.inl (ly_in 521 (by decide +kernel) (by decide +kernel)), cw_X2_fillLengths.1, cw_X2_fillLengths.2.1, cw_X2_fillLengths.2.2, cd_X2_fillLengths, by decide +kernel, by decide⟩
set_option maxRecDepth 20000 in
theorem cd_X5_settle : Cond.code mX5_settle.1 mX5_settle.2.1 mX5_settle.2.2.1 mX5_settle.2.2.2 ∈ ly_G := (ly_in 528 rfl rfl)
theorem cw_X5_settle : Cond.instanceMethod mX5_settle.1 ∈ ly_G ∧ Cond.selects mX5_settle.1.cls mX5_settle.1 mX5_settle.1 ∈ ly_G ∧ Cond.initialized mX5_settle.1.cls ∈ ly_G := ⟨(ly_in 527 (by decide +kernel) (by decide +kernel)), (ly_in 9 (by decide +kernel) (by decide +kernel)), (ly_in 59 (by decide +kernel) (by decide +kernel))⟩
theorem cv_X5_54 : cv_ok RX5 54 mX5_settle 5 0 := ⟨by decide +kernel, Or.inl (ly_in 525 (by decide +kernel) (by decide +kernel)), cw_X5_settle.1, cw_X5_settle.2.1, cw_X5_settle.2.2, cd_X5_settle, by decide +kernel, by decide⟩
set_option maxRecDepth 20000 in
theorem cd_X5_repairOnce : Cond.code mX5_repairOnce.1 mX5_repairOnce.2.1 mX5_repairOnce.2.2.1 mX5_repairOnce.2.2.2 ∈ ly_G := (ly_in 532 rfl rfl)
theorem cw_X5_repairOnce : Cond.instanceMethod mX5_repairOnce.1 ∈ ly_G ∧ Cond.selects mX5_repairOnce.1.cls mX5_repairOnce.1 mX5_repairOnce.1 ∈ ly_G ∧ Cond.initialized mX5_repairOnce.1.cls ∈ ly_G := ⟨(ly_in 531 (by decide +kernel) (by decide +kernel)), (ly_in 10 (by decide +kernel) (by decide +kernel)), (ly_in 59 (by decide +kernel) (by decide +kernel))⟩
theorem cv_X5_57 : cv_ok RX5 57 mX5_repairOnce 5 1 := ⟨by decide +kernel, Or.inl (ly_in 529 (by decide +kernel) (by decide +kernel)), cw_X5_repairOnce.1, cw_X5_repairOnce.2.1, cw_X5_repairOnce.2.2, cd_X5_repairOnce, by decide +kernel, by decide⟩
set_option maxRecDepth 20000 in
theorem cd_X5_distanceTo : Cond.code mX5_distanceTo.1 mX5_distanceTo.2.1 mX5_distanceTo.2.2.1 mX5_distanceTo.2.2.2 ∈ ly_G := (ly_in 536 rfl rfl)
theorem cw_X5_distanceTo : Cond.instanceMethod mX5_distanceTo.1 ∈ ly_G ∧ Cond.selects mX5_distanceTo.1.cls mX5_distanceTo.1 mX5_distanceTo.1 ∈ ly_G ∧ Cond.initialized mX5_distanceTo.1.cls ∈ ly_G := ⟨(ly_in 534 (by decide +kernel) (by decide +kernel)), (ly_in 535 (by decide +kernel) (by decide +kernel)), (ly_in 59 (by decide +kernel) (by decide +kernel))⟩
theorem cv_X5_38 : cv_ok RX5 38 mX5_distanceTo 5 1 := ⟨by decide +kernel, Or.inl (ly_in 533 (by decide +kernel) (by decide +kernel)), cw_X5_distanceTo.1, cw_X5_distanceTo.2.1, cw_X5_distanceTo.2.2, cd_X5_distanceTo, by decide +kernel, by decide⟩
set_option maxRecDepth 20000 in
theorem cd_X8_first : Cond.code mX8_first.1 mX8_first.2.1 mX8_first.2.2.1 mX8_first.2.2.2 ∈ ly_G := (ly_in 540 rfl rfl)
theorem cw_X8_first : Cond.instanceMethod mX8_first.1 ∈ ly_G ∧ Cond.selects mX8_first.1.cls mX8_first.1 mX8_first.1 ∈ ly_G ∧ Cond.initialized mX8_first.1.cls ∈ ly_G := ⟨(ly_in 538 (by decide +kernel) (by decide +kernel)), (ly_in 539 (by decide +kernel) (by decide +kernel)), (ly_in 55 (by decide +kernel) (by decide +kernel))⟩
theorem cv_L_67 : cv_ok RL 67 mX8_first 8 3 := ⟨by decide +kernel, Or.inl (ly_in 537 (by decide +kernel) (by decide +kernel)), cw_X8_first.1, cw_X8_first.2.1, cw_X8_first.2.2, cd_X8_first, by decide +kernel, by decide⟩
set_option maxRecDepth 20000 in
theorem cd_X7_findFirst : Cond.code mX7_findFirst.1 mX7_findFirst.2.1 mX7_findFirst.2.2.1 mX7_findFirst.2.2.2 ∈ ly_G := (ly_in 544 rfl rfl)
theorem cw_X7_findFirst : Cond.instanceMethod mX7_findFirst.1 ∈ ly_G ∧ Cond.selects mX7_findFirst.1.cls mX7_findFirst.1 mX7_findFirst.1 ∈ ly_G ∧ Cond.initialized mX7_findFirst.1.cls ∈ ly_G := ⟨(ly_in 542 (by decide +kernel) (by decide +kernel)), (ly_in 543 (by decide +kernel) (by decide +kernel)), (ly_in 60 (by decide +kernel) (by decide +kernel))⟩
theorem cv_X8_141 : cv_ok RX8 141 mX7_findFirst 7 3 := ⟨by decide +kernel, Or.inl (ly_in 541 (by decide +kernel) (by decide +kernel)), cw_X7_findFirst.1, cw_X7_findFirst.2.1, cw_X7_findFirst.2.2, cd_X7_findFirst, by decide +kernel, by decide⟩
set_option maxRecDepth 20000 in
theorem cd_X7_begin : Cond.code mX7_begin.1 mX7_begin.2.1 mX7_begin.2.2.1 mX7_begin.2.2.2 ∈ ly_G := (ly_in 548 rfl rfl)
theorem cw_X7_begin : Cond.instanceMethod mX7_begin.1 ∈ ly_G ∧ Cond.selects mX7_begin.1.cls mX7_begin.1 mX7_begin.1 ∈ ly_G ∧ Cond.initialized mX7_begin.1.cls ∈ ly_G := ⟨(ly_in 547 (by decide +kernel) (by decide +kernel)), (ly_in 11 (by decide +kernel) (by decide +kernel)), (ly_in 60 (by decide +kernel) (by decide +kernel))⟩
theorem cv_X7_48 : cv_ok RX7 48 mX7_begin 7 4 := ⟨by decide +kernel, Or.inl (ly_in 545 (by decide +kernel) (by decide +kernel)), cw_X7_begin.1, cw_X7_begin.2.1, cw_X7_begin.2.2, cd_X7_begin, by decide +kernel, by decide⟩
set_option maxRecDepth 20000 in
theorem cd_J9_min_7cf53 : Cond.code mJ9_min_7cf53.1 mJ9_min_7cf53.2.1 mJ9_min_7cf53.2.2.1 mJ9_min_7cf53.2.2.2 ∈ ly_G := (ly_in 551 rfl rfl)
theorem cw_J9_min_7cf53 : Cond.static mJ9_min_7cf53.1 ∈ ly_G ∧ Cond.initialized mJ9_min_7cf53.1.cls ∈ ly_G := ⟨(ly_in 550 (by decide +kernel) (by decide +kernel)), (ly_in 67 (by decide +kernel) (by decide +kernel))⟩
theorem cs_X7_52 : cs_ok RX7 52 mJ9_min_7cf53 2 := ⟨Or.inl (ly_in 549 (by decide +kernel) (by decide +kernel)), cw_J9_min_7cf53.1, cw_J9_min_7cf53.2, cd_J9_min_7cf53, by decide +kernel, by decide⟩
theorem cv_X7_63 : cv_ok RX7 63 mX2_fillLengths 2 2 := ⟨by decide +kernel, Or.inl (ly_in 552 (by decide +kernel) (by decide +kernel)), cw_X2_fillLengths.1, cw_X2_fillLengths.2.1, cw_X2_fillLengths.2.2, cd_X2_fillLengths, by decide +kernel, by decide⟩
set_option maxRecDepth 20000 in
theorem cd_X7_walk : Cond.code mX7_walk.1 mX7_walk.2.1 mX7_walk.2.2.1 mX7_walk.2.2.2 ∈ ly_G := (ly_in 556 rfl rfl)
theorem cw_X7_walk : Cond.instanceMethod mX7_walk.1 ∈ ly_G ∧ Cond.selects mX7_walk.1.cls mX7_walk.1 mX7_walk.1 ∈ ly_G ∧ Cond.initialized mX7_walk.1.cls ∈ ly_G := ⟨(ly_in 555 (by decide +kernel) (by decide +kernel)), (ly_in 12 (by decide +kernel) (by decide +kernel)), (ly_in 60 (by decide +kernel) (by decide +kernel))⟩
theorem cv_X7_67 : cv_ok RX7 67 mX7_walk 7 4 := ⟨by decide +kernel, Or.inl (ly_in 553 (by decide +kernel) (by decide +kernel)), cw_X7_walk.1, cw_X7_walk.2.1, cw_X7_walk.2.2, cd_X7_walk, by decide +kernel, by decide⟩
set_option maxRecDepth 20000 in
theorem cd_X7_arrive : Cond.code mX7_arrive.1 mX7_arrive.2.1 mX7_arrive.2.2.1 mX7_arrive.2.2.2 ∈ ly_G := (ly_in 560 rfl rfl)
theorem cw_X7_arrive : Cond.instanceMethod mX7_arrive.1 ∈ ly_G ∧ Cond.selects mX7_arrive.1.cls mX7_arrive.1 mX7_arrive.1 ∈ ly_G ∧ Cond.initialized mX7_arrive.1.cls ∈ ly_G := ⟨(ly_in 559 (by decide +kernel) (by decide +kernel)), (ly_in 13 (by decide +kernel) (by decide +kernel)), (ly_in 60 (by decide +kernel) (by decide +kernel))⟩
theorem cv_X7_71 : cv_ok RX7 71 mX7_arrive 7 2 := ⟨by decide +kernel, Or.inl (ly_in 557 (by decide +kernel) (by decide +kernel)), cw_X7_arrive.1, cw_X7_arrive.2.1, cw_X7_arrive.2.2, cd_X7_arrive, by decide +kernel, by decide⟩
set_option maxRecDepth 20000 in
theorem cd_X7_rank : Cond.code mX7_rank.1 mX7_rank.2.1 mX7_rank.2.2.1 mX7_rank.2.2.2 ∈ ly_G := (ly_in 564 rfl rfl)
theorem cw_X7_rank : Cond.instanceMethod mX7_rank.1 ∈ ly_G ∧ Cond.selects mX7_rank.1.cls mX7_rank.1 mX7_rank.1 ∈ ly_G ∧ Cond.initialized mX7_rank.1.cls ∈ ly_G := ⟨(ly_in 563 (by decide +kernel) (by decide +kernel)), (ly_in 14 (by decide +kernel) (by decide +kernel)), (ly_in 60 (by decide +kernel) (by decide +kernel))⟩
theorem cv_X7_85 : cv_ok RX7 85 mX7_rank 7 1 := ⟨by decide +kernel, Or.inl (ly_in 561 (by decide +kernel) (by decide +kernel)), cw_X7_rank.1, cw_X7_rank.2.1, cw_X7_rank.2.2, cd_X7_rank, by decide +kernel, by decide⟩
set_option maxRecDepth 20000 in
theorem cd_X2_to : Cond.code mX2_to.1 mX2_to.2.1 mX2_to.2.2.1 mX2_to.2.2.2 ∈ ly_G := (ly_in 568 rfl rfl)
theorem cw_X2_to : Cond.instanceMethod mX2_to.1 ∈ ly_G ∧ Cond.selects mX2_to.1.cls mX2_to.1 mX2_to.1 ∈ ly_G ∧ Cond.initialized mX2_to.1.cls ∈ ly_G := ⟨(ly_in 566 (by decide +kernel) (by decide +kernel)), (ly_in 567 (by decide +kernel) (by decide +kernel)), (ly_in 56 (by decide +kernel) (by decide +kernel))⟩
theorem cv_X7_78 : cv_ok RX7 78 mX2_to 2 1 := ⟨by decide +kernel, Or.inl (ly_in 565 (by decide +kernel) (by decide +kernel)), cw_X2_to.1, cw_X2_to.2.1, cw_X2_to.2.2, cd_X2_to, by decide +kernel, by decide⟩
set_option maxRecDepth 20000 in
theorem cd_X2_from : Cond.code mX2_from.1 mX2_from.2.1 mX2_from.2.2.1 mX2_from.2.2.2 ∈ ly_G := (ly_in 572 rfl rfl)
theorem cw_X2_from : Cond.instanceMethod mX2_from.1 ∈ ly_G ∧ Cond.selects mX2_from.1.cls mX2_from.1 mX2_from.1 ∈ ly_G ∧ Cond.initialized mX2_from.1.cls ∈ ly_G := ⟨(ly_in 570 (by decide +kernel) (by decide +kernel)), (ly_in 571 (by decide +kernel) (by decide +kernel)), (ly_in 56 (by decide +kernel) (by decide +kernel))⟩
theorem cv_X7_82 : cv_ok RX7 82 mX2_from 2 1 := ⟨by decide +kernel, Or.inl (ly_in 569 (by decide +kernel) (by decide +kernel)), cw_X2_from.1, cw_X2_from.2.1, cw_X2_from.2.2, cd_X2_from, by decide +kernel, by decide⟩
set_option maxRecDepth 20000 in
theorem cd_X7_trailEdge : Cond.code mX7_trailEdge.1 mX7_trailEdge.2.1 mX7_trailEdge.2.2.1 mX7_trailEdge.2.2.2 ∈ ly_G := (ly_in 576 rfl rfl)
theorem cw_X7_trailEdge : Cond.instanceMethod mX7_trailEdge.1 ∈ ly_G ∧ Cond.selects mX7_trailEdge.1.cls mX7_trailEdge.1 mX7_trailEdge.1 ∈ ly_G ∧ Cond.initialized mX7_trailEdge.1.cls ∈ ly_G := ⟨(ly_in 574 (by decide +kernel) (by decide +kernel)), (ly_in 575 (by decide +kernel) (by decide +kernel)), (ly_in 60 (by decide +kernel) (by decide +kernel))⟩
theorem cv_X8_148 : cv_ok RX8 148 mX7_trailEdge 7 1 := ⟨by decide +kernel, Or.inl (ly_in 573 (by decide +kernel) (by decide +kernel)), cw_X7_trailEdge.1, cw_X7_trailEdge.2.1, cw_X7_trailEdge.2.2, cd_X7_trailEdge, by decide +kernel, by decide⟩
set_option maxRecDepth 20000 in
theorem cd_X8_paths : Cond.code mX8_paths.1 mX8_paths.2.1 mX8_paths.2.2.1 mX8_paths.2.2.2 ∈ ly_G := (ly_in 580 rfl rfl)
theorem cw_X8_paths : Cond.instanceMethod mX8_paths.1 ∈ ly_G ∧ Cond.selects mX8_paths.1.cls mX8_paths.1 mX8_paths.1 ∈ ly_G ∧ Cond.initialized mX8_paths.1.cls ∈ ly_G := ⟨(ly_in 578 (by decide +kernel) (by decide +kernel)), (ly_in 579 (by decide +kernel) (by decide +kernel)), (ly_in 55 (by decide +kernel) (by decide +kernel))⟩
theorem cv_L_71 : cv_ok RL 71 mX8_paths 8 3 := ⟨by decide +kernel, Or.inl (ly_in 577 (by decide +kernel) (by decide +kernel)), cw_X8_paths.1, cw_X8_paths.2.1, cw_X8_paths.2.2, cd_X8_paths, by decide +kernel, by decide⟩
set_option maxRecDepth 20000 in
theorem cd_X7_countUpTo : Cond.code mX7_countUpTo.1 mX7_countUpTo.2.1 mX7_countUpTo.2.2.1 mX7_countUpTo.2.2.2 ∈ ly_G := (ly_in 584 rfl rfl)
theorem cw_X7_countUpTo : Cond.instanceMethod mX7_countUpTo.1 ∈ ly_G ∧ Cond.selects mX7_countUpTo.1.cls mX7_countUpTo.1 mX7_countUpTo.1 ∈ ly_G ∧ Cond.initialized mX7_countUpTo.1.cls ∈ ly_G := ⟨(ly_in 582 (by decide +kernel) (by decide +kernel)), (ly_in 583 (by decide +kernel) (by decide +kernel)), (ly_in 60 (by decide +kernel) (by decide +kernel))⟩
theorem cv_X8_151 : cv_ok RX8 151 mX7_countUpTo 7 3 := ⟨by decide +kernel, Or.inl (ly_in 581 (by decide +kernel) (by decide +kernel)), cw_X7_countUpTo.1, cw_X7_countUpTo.2.1, cw_X7_countUpTo.2.2, cd_X7_countUpTo, by decide +kernel, by decide⟩
set_option maxRecDepth 20000 in
theorem cd_X8_pathLength : Cond.code mX8_pathLength.1 mX8_pathLength.2.1 mX8_pathLength.2.2.1 mX8_pathLength.2.2.2 ∈ ly_G := (ly_in 588 rfl rfl)
theorem cw_X8_pathLength : Cond.instanceMethod mX8_pathLength.1 ∈ ly_G ∧ Cond.selects mX8_pathLength.1.cls mX8_pathLength.1 mX8_pathLength.1 ∈ ly_G ∧ Cond.initialized mX8_pathLength.1.cls ∈ ly_G := ⟨(ly_in 586 (by decide +kernel) (by decide +kernel)), (ly_in 587 (by decide +kernel) (by decide +kernel)), (ly_in 55 (by decide +kernel) (by decide +kernel))⟩
theorem cv_L_75 : cv_ok RL 75 mX8_pathLength 8 3 := ⟨by decide +kernel, Or.inl (ly_in 585 (by decide +kernel) (by decide +kernel)), cw_X8_pathLength.1, cw_X8_pathLength.2.1, cw_X8_pathLength.2.2, cd_X8_pathLength, by decide +kernel, by decide⟩
set_option maxRecDepth 20000 in
theorem cd_X7_rankedLength : Cond.code mX7_rankedLength.1 mX7_rankedLength.2.1 mX7_rankedLength.2.2.1 mX7_rankedLength.2.2.2 ∈ ly_G := (ly_in 592 rfl rfl)
theorem cw_X7_rankedLength : Cond.instanceMethod mX7_rankedLength.1 ∈ ly_G ∧ Cond.selects mX7_rankedLength.1.cls mX7_rankedLength.1 mX7_rankedLength.1 ∈ ly_G ∧ Cond.initialized mX7_rankedLength.1.cls ∈ ly_G := ⟨(ly_in 590 (by decide +kernel) (by decide +kernel)), (ly_in 591 (by decide +kernel) (by decide +kernel)), (ly_in 60 (by decide +kernel) (by decide +kernel))⟩
theorem cv_X8_155 : cv_ok RX8 155 mX7_rankedLength 7 3 := ⟨by decide +kernel, Or.inl (ly_in 589 (by decide +kernel) (by decide +kernel)), cw_X7_rankedLength.1, cw_X7_rankedLength.2.1, cw_X7_rankedLength.2.2, cd_X7_rankedLength, by decide +kernel, by decide⟩
set_option maxRecDepth 20000 in
theorem cd_X8_tight : Cond.code mX8_tight.1 mX8_tight.2.1 mX8_tight.2.2.1 mX8_tight.2.2.2 ∈ ly_G := (ly_in 596 rfl rfl)
theorem cw_X8_tight : Cond.instanceMethod mX8_tight.1 ∈ ly_G ∧ Cond.selects mX8_tight.1.cls mX8_tight.1 mX8_tight.1 ∈ ly_G ∧ Cond.initialized mX8_tight.1.cls ∈ ly_G := ⟨(ly_in 594 (by decide +kernel) (by decide +kernel)), (ly_in 595 (by decide +kernel) (by decide +kernel)), (ly_in 55 (by decide +kernel) (by decide +kernel))⟩
theorem cv_L_79 : cv_ok RL 79 mX8_tight 8 2 := ⟨by decide +kernel, Or.inl (ly_in 593 (by decide +kernel) (by decide +kernel)), cw_X8_tight.1, cw_X8_tight.2.1, cw_X8_tight.2.2, cd_X8_tight, by decide +kernel, by decide⟩
set_option maxRecDepth 20000 in
theorem cd_X5_tightEdges : Cond.code mX5_tightEdges.1 mX5_tightEdges.2.1 mX5_tightEdges.2.2.1 mX5_tightEdges.2.2.2 ∈ ly_G := (ly_in 600 rfl rfl)
theorem cw_X5_tightEdges : Cond.instanceMethod mX5_tightEdges.1 ∈ ly_G ∧ Cond.selects mX5_tightEdges.1.cls mX5_tightEdges.1 mX5_tightEdges.1 ∈ ly_G ∧ Cond.initialized mX5_tightEdges.1.cls ∈ ly_G := ⟨(ly_in 598 (by decide +kernel) (by decide +kernel)), (ly_in 599 (by decide +kernel) (by decide +kernel)), (ly_in 59 (by decide +kernel) (by decide +kernel))⟩
theorem cv_X8_158 : cv_ok RX8 158 mX5_tightEdges 5 3 := ⟨by decide +kernel, Or.inl (ly_in 597 (by decide +kernel) (by decide +kernel)), cw_X5_tightEdges.1, cw_X5_tightEdges.2.1, cw_X5_tightEdges.2.2, cd_X5_tightEdges, by decide +kernel, by decide⟩
theorem cv_X5_68 : cv_ok RX5 68 mX5_measure 5 4 := ⟨by decide +kernel, Or.inl (ly_in 601 (by decide +kernel) (by decide +kernel)), cw_X5_measure.1, cw_X5_measure.2.1, cw_X5_measure.2.2, cd_X5_measure, by decide +kernel, by decide⟩
theorem cv_X5_72 : cv_ok RX5 72 mX2_from 2 1 := ⟨by decide +kernel, Or.inl (ly_in 602 (by decide +kernel) (by decide +kernel)), cw_X2_from.1, cw_X2_from.2.1, cw_X2_from.2.2, cd_X2_from, by decide +kernel, by decide⟩
theorem cv_X5_75 : cv_ok RX5 75 mX2_to 2 1 := ⟨by decide +kernel, Or.inl (ly_in 603 (by decide +kernel) (by decide +kernel)), cw_X2_to.1, cw_X2_to.2.1, cw_X2_to.2.2, cd_X2_to, by decide +kernel, by decide⟩
set_option maxRecDepth 20000 in
theorem cd_X8_interdict : Cond.code mX8_interdict.1 mX8_interdict.2.1 mX8_interdict.2.2.1 mX8_interdict.2.2.2 ∈ ly_G := (ly_in 607 rfl rfl)
theorem cw_X8_interdict : Cond.instanceMethod mX8_interdict.1 ∈ ly_G ∧ Cond.selects mX8_interdict.1.cls mX8_interdict.1 mX8_interdict.1 ∈ ly_G ∧ Cond.initialized mX8_interdict.1.cls ∈ ly_G := ⟨(ly_in 605 (by decide +kernel) (by decide +kernel)), (ly_in 606 (by decide +kernel) (by decide +kernel)), (ly_in 55 (by decide +kernel) (by decide +kernel))⟩
theorem cv_L_83 : cv_ok RL 83 mX8_interdict 8 3 := ⟨by decide +kernel, Or.inl (ly_in 604 (by decide +kernel) (by decide +kernel)), cw_X8_interdict.1, cw_X8_interdict.2.1, cw_X8_interdict.2.2, cd_X8_interdict, by decide +kernel, by decide⟩
set_option maxRecDepth 20000 in
theorem cd_X8_interdictResponse : Cond.code mX8_interdictResponse.1 mX8_interdictResponse.2.1 mX8_interdictResponse.2.2.1 mX8_interdictResponse.2.2.2 ∈ ly_G := (ly_in 611 rfl rfl)
theorem cw_X8_interdictResponse : Cond.instanceMethod mX8_interdictResponse.1 ∈ ly_G ∧ Cond.selects mX8_interdictResponse.1.cls mX8_interdictResponse.1 mX8_interdictResponse.1 ∈ ly_G ∧ Cond.initialized mX8_interdictResponse.1.cls ∈ ly_G := ⟨(ly_in 609 (by decide +kernel) (by decide +kernel)), (ly_in 610 (by decide +kernel) (by decide +kernel)), (ly_in 55 (by decide +kernel) (by decide +kernel))⟩
theorem cv_X8_161 : cv_ok RX8 161 mX8_interdictResponse 8 4 := ⟨by decide +kernel, Or.inl (ly_in 608 (by decide +kernel) (by decide +kernel)), cw_X8_interdictResponse.1, cw_X8_interdictResponse.2.1, cw_X8_interdictResponse.2.2, cd_X8_interdictResponse, by decide +kernel, by decide⟩
set_option maxRecDepth 20000 in
theorem cd_X0_seekBest : Cond.code mX0_seekBest.1 mX0_seekBest.2.1 mX0_seekBest.2.2.1 mX0_seekBest.2.2.2 ∈ ly_G := (ly_in 615 rfl rfl)
theorem cw_X0_seekBest : Cond.instanceMethod mX0_seekBest.1 ∈ ly_G ∧ Cond.selects mX0_seekBest.1.cls mX0_seekBest.1 mX0_seekBest.1 ∈ ly_G ∧ Cond.initialized mX0_seekBest.1.cls ∈ ly_G := ⟨(ly_in 613 (by decide +kernel) (by decide +kernel)), (ly_in 614 (by decide +kernel) (by decide +kernel)), (ly_in 61 (by decide +kernel) (by decide +kernel))⟩
theorem cv_X8_173 : cv_ok RX8 173 mX0_seekBest 0 6 := ⟨by decide +kernel, Or.inl (ly_in 612 (by decide +kernel) (by decide +kernel)), cw_X0_seekBest.1, cw_X0_seekBest.2.1, cw_X0_seekBest.2.2, cd_X0_seekBest, by decide +kernel, by decide⟩
set_option maxRecDepth 20000 in
theorem cd_X0_grow : Cond.code mX0_grow.1 mX0_grow.2.1 mX0_grow.2.2.1 mX0_grow.2.2.2 ∈ ly_G := (ly_in 619 rfl rfl)
theorem cw_X0_grow : Cond.instanceMethod mX0_grow.1 ∈ ly_G ∧ Cond.selects mX0_grow.1.cls mX0_grow.1 mX0_grow.1 ∈ ly_G ∧ Cond.initialized mX0_grow.1.cls ∈ ly_G := ⟨(ly_in 618 (by decide +kernel) (by decide +kernel)), (ly_in 15 (by decide +kernel) (by decide +kernel)), (ly_in 61 (by decide +kernel) (by decide +kernel))⟩
theorem cv_X0_51 : cv_ok RX0 51 mX0_grow 0 4 := ⟨by decide +kernel, Or.inl (ly_in 616 (by decide +kernel) (by decide +kernel)), cw_X0_grow.1, cw_X0_grow.2.1, cw_X0_grow.2.2, cd_X0_grow, by decide +kernel, by decide⟩
theorem cv_X0_55 : cv_ok RX0 55 mX5_run 5 3 := ⟨by decide +kernel, Or.inl (ly_in 620 (by decide +kernel) (by decide +kernel)), cw_X5_run.1, cw_X5_run.2.1, cw_X5_run.2.2, cd_X5_run, by decide +kernel, by decide⟩
theorem cv_X0_61 : cv_ok RX0 61 mX5_distanceTo 5 1 := ⟨by decide +kernel, Or.inl (ly_in 621 (by decide +kernel) (by decide +kernel)), cw_X5_distanceTo.1, cw_X5_distanceTo.2.1, cw_X5_distanceTo.2.2, cd_X5_distanceTo, by decide +kernel, by decide⟩
set_option maxRecDepth 20000 in
theorem cd_X5_usedTo : Cond.code mX5_usedTo.1 mX5_usedTo.2.1 mX5_usedTo.2.2.1 mX5_usedTo.2.2.2 ∈ ly_G := (ly_in 625 rfl rfl)
theorem cw_X5_usedTo : Cond.instanceMethod mX5_usedTo.1 ∈ ly_G ∧ Cond.selects mX5_usedTo.1.cls mX5_usedTo.1 mX5_usedTo.1 ∈ ly_G ∧ Cond.initialized mX5_usedTo.1.cls ∈ ly_G := ⟨(ly_in 623 (by decide +kernel) (by decide +kernel)), (ly_in 624 (by decide +kernel) (by decide +kernel)), (ly_in 59 (by decide +kernel) (by decide +kernel))⟩
theorem cv_X0_65 : cv_ok RX0 65 mX5_usedTo 5 1 := ⟨by decide +kernel, Or.inl (ly_in 622 (by decide +kernel) (by decide +kernel)), cw_X5_usedTo.1, cw_X5_usedTo.2.1, cw_X5_usedTo.2.2, cd_X5_usedTo, by decide +kernel, by decide⟩
set_option maxRecDepth 20000 in
theorem cd_X0_markHelpful : Cond.code mX0_markHelpful.1 mX0_markHelpful.2.1 mX0_markHelpful.2.2.1 mX0_markHelpful.2.2.2 ∈ ly_G := (ly_in 629 rfl rfl)
theorem cw_X0_markHelpful : Cond.instanceMethod mX0_markHelpful.1 ∈ ly_G ∧ Cond.selects mX0_markHelpful.1.cls mX0_markHelpful.1 mX0_markHelpful.1 ∈ ly_G ∧ Cond.initialized mX0_markHelpful.1.cls ∈ ly_G := ⟨(ly_in 628 (by decide +kernel) (by decide +kernel)), (ly_in 16 (by decide +kernel) (by decide +kernel)), (ly_in 61 (by decide +kernel) (by decide +kernel))⟩
theorem cv_X0_68 : cv_ok RX0 68 mX0_markHelpful 0 2 := ⟨by decide +kernel, Or.inl (ly_in 626 (by decide +kernel) (by decide +kernel)), cw_X0_markHelpful.1, cw_X0_markHelpful.2.1, cw_X0_markHelpful.2.2, cd_X0_markHelpful, by decide +kernel, by decide⟩
set_option maxRecDepth 20000 in
theorem cd_X0_weigh : Cond.code mX0_weigh.1 mX0_weigh.2.1 mX0_weigh.2.2.1 mX0_weigh.2.2.2 ∈ ly_G := (ly_in 633 rfl rfl)
theorem cw_X0_weigh : Cond.instanceMethod mX0_weigh.1 ∈ ly_G ∧ Cond.selects mX0_weigh.1.cls mX0_weigh.1 mX0_weigh.1 ∈ ly_G ∧ Cond.initialized mX0_weigh.1.cls ∈ ly_G := ⟨(ly_in 632 (by decide +kernel) (by decide +kernel)), (ly_in 17 (by decide +kernel) (by decide +kernel)), (ly_in 61 (by decide +kernel) (by decide +kernel))⟩
theorem cv_X0_72 : cv_ok RX0 72 mX0_weigh 0 3 := ⟨by decide +kernel, Or.inl (ly_in 630 (by decide +kernel) (by decide +kernel)), cw_X0_weigh.1, cw_X0_weigh.2.1, cw_X0_weigh.2.2, cd_X0_weigh, by decide +kernel, by decide⟩
theorem cs_X0_83 : cs_ok RX0 83 mJ9_min_7cf53 2 := ⟨Or.inl (ly_in 634 (by decide +kernel) (by decide +kernel)), cw_J9_min_7cf53.1, cw_J9_min_7cf53.2, cd_J9_min_7cf53, by decide +kernel, by decide⟩
set_option maxRecDepth 20000 in
theorem cd_X0_isCheaper : Cond.code mX0_isCheaper.1 mX0_isCheaper.2.1 mX0_isCheaper.2.2.1 mX0_isCheaper.2.2.2 ∈ ly_G := (ly_in 638 rfl rfl)
theorem cw_X0_isCheaper : Cond.instanceMethod mX0_isCheaper.1 ∈ ly_G ∧ Cond.selects mX0_isCheaper.1.cls mX0_isCheaper.1 mX0_isCheaper.1 ∈ ly_G ∧ Cond.initialized mX0_isCheaper.1.cls ∈ ly_G := ⟨(ly_in 637 (by decide +kernel) (by decide +kernel)), (ly_in 18 (by decide +kernel) (by decide +kernel)), (ly_in 61 (by decide +kernel) (by decide +kernel))⟩
theorem cv_X0_89 : cv_ok RX0 89 mX0_isCheaper 0 2 := ⟨by decide +kernel, Or.inl (ly_in 635 (by decide +kernel) (by decide +kernel)), cw_X0_isCheaper.1, cw_X0_isCheaper.2.1, cw_X0_isCheaper.2.2, cd_X0_isCheaper, by decide +kernel, by decide⟩
theorem cv_X0_80 : cv_ok RX0 80 mX2_cost 2 1 := ⟨by decide +kernel, Or.inl (ly_in 639 (by decide +kernel) (by decide +kernel)), cw_X2_cost.1, cw_X2_cost.2.1, cw_X2_cost.2.2, cd_X2_cost, by decide +kernel, by decide⟩
set_option maxRecDepth 20000 in
theorem cd_X8_greedy : Cond.code mX8_greedy.1 mX8_greedy.2.1 mX8_greedy.2.2.1 mX8_greedy.2.2.2 ∈ ly_G := (ly_in 643 rfl rfl)
theorem cw_X8_greedy : Cond.instanceMethod mX8_greedy.1 ∈ ly_G ∧ Cond.selects mX8_greedy.1.cls mX8_greedy.1 mX8_greedy.1 ∈ ly_G ∧ Cond.initialized mX8_greedy.1.cls ∈ ly_G := ⟨(ly_in 641 (by decide +kernel) (by decide +kernel)), (ly_in 642 (by decide +kernel) (by decide +kernel)), (ly_in 55 (by decide +kernel) (by decide +kernel))⟩
theorem cv_L_87 : cv_ok RL 87 mX8_greedy 8 3 := ⟨by decide +kernel, Or.inl (ly_in 640 (by decide +kernel) (by decide +kernel)), cw_X8_greedy.1, cw_X8_greedy.2.1, cw_X8_greedy.2.2, cd_X8_greedy, by decide +kernel, by decide⟩
set_option maxRecDepth 20000 in
theorem cd_X3_seek : Cond.code mX3_seek.1 mX3_seek.2.1 mX3_seek.2.2.1 mX3_seek.2.2.2 ∈ ly_G := (ly_in 647 rfl rfl)
theorem cw_X3_seek : Cond.instanceMethod mX3_seek.1 ∈ ly_G ∧ Cond.selects mX3_seek.1.cls mX3_seek.1 mX3_seek.1 ∈ ly_G ∧ Cond.initialized mX3_seek.1.cls ∈ ly_G := ⟨(ly_in 645 (by decide +kernel) (by decide +kernel)), (ly_in 646 (by decide +kernel) (by decide +kernel)), (ly_in 62 (by decide +kernel) (by decide +kernel))⟩
theorem cv_X8_167 : cv_ok RX8 167 mX3_seek 3 3 := ⟨by decide +kernel, Or.inl (ly_in 644 (by decide +kernel) (by decide +kernel)), cw_X3_seek.1, cw_X3_seek.2.1, cw_X3_seek.2.2, cd_X3_seek, by decide +kernel, by decide⟩
theorem cv_X3_23 : cv_ok RX3 23 mX5_measure 5 4 := ⟨by decide +kernel, Or.inl (ly_in 648 (by decide +kernel) (by decide +kernel)), cw_X5_measure.1, cw_X5_measure.2.1, cw_X5_measure.2.2, cd_X5_measure, by decide +kernel, by decide⟩
theorem cv_X3_34 : cv_ok RX3 34 mX2_cost 2 1 := ⟨by decide +kernel, Or.inl (ly_in 649 (by decide +kernel) (by decide +kernel)), cw_X2_cost.1, cw_X2_cost.2.1, cw_X2_cost.2.2, cd_X2_cost, by decide +kernel, by decide⟩
set_option maxRecDepth 20000 in
theorem cd_X8_budgetFor : Cond.code mX8_budgetFor.1 mX8_budgetFor.2.1 mX8_budgetFor.2.2.1 mX8_budgetFor.2.2.2 ∈ ly_G := (ly_in 653 rfl rfl)
theorem cw_X8_budgetFor : Cond.instanceMethod mX8_budgetFor.1 ∈ ly_G ∧ Cond.selects mX8_budgetFor.1.cls mX8_budgetFor.1 mX8_budgetFor.1 ∈ ly_G ∧ Cond.initialized mX8_budgetFor.1.cls ∈ ly_G := ⟨(ly_in 651 (by decide +kernel) (by decide +kernel)), (ly_in 652 (by decide +kernel) (by decide +kernel)), (ly_in 55 (by decide +kernel) (by decide +kernel))⟩
theorem cv_L_91 : cv_ok RL 91 mX8_budgetFor 8 3 := ⟨by decide +kernel, Or.inl (ly_in 650 (by decide +kernel) (by decide +kernel)), cw_X8_budgetFor.1, cw_X8_budgetFor.2.1, cw_X8_budgetFor.2.2, cd_X8_budgetFor, by decide +kernel, by decide⟩
set_option maxRecDepth 20000 in
theorem cd_X8_blockade : Cond.code mX8_blockade.1 mX8_blockade.2.1 mX8_blockade.2.2.1 mX8_blockade.2.2.2 ∈ ly_G := (ly_in 657 rfl rfl)
theorem cw_X8_blockade : Cond.instanceMethod mX8_blockade.1 ∈ ly_G ∧ Cond.selects mX8_blockade.1.cls mX8_blockade.1 mX8_blockade.1 ∈ ly_G ∧ Cond.initialized mX8_blockade.1.cls ∈ ly_G := ⟨(ly_in 655 (by decide +kernel) (by decide +kernel)), (ly_in 656 (by decide +kernel) (by decide +kernel)), (ly_in 55 (by decide +kernel) (by decide +kernel))⟩
theorem cv_L_95 : cv_ok RL 95 mX8_blockade 8 2 := ⟨by decide +kernel, Or.inl (ly_in 654 (by decide +kernel) (by decide +kernel)), cw_X8_blockade.1, cw_X8_blockade.2.1, cw_X8_blockade.2.2, cd_X8_blockade, by decide +kernel, by decide⟩
set_option maxRecDepth 20000 in
theorem cd_X2_costOfBorder : Cond.code mX2_costOfBorder.1 mX2_costOfBorder.2.1 mX2_costOfBorder.2.2.1 mX2_costOfBorder.2.2.2 ∈ ly_G := (ly_in 661 rfl rfl)
theorem cw_X2_costOfBorder : Cond.instanceMethod mX2_costOfBorder.1 ∈ ly_G ∧ Cond.selects mX2_costOfBorder.1.cls mX2_costOfBorder.1 mX2_costOfBorder.1 ∈ ly_G ∧ Cond.initialized mX2_costOfBorder.1.cls ∈ ly_G := ⟨(ly_in 659 (by decide +kernel) (by decide +kernel)), (ly_in 660 (by decide +kernel) (by decide +kernel)), (ly_in 56 (by decide +kernel) (by decide +kernel))⟩
theorem cv_X8_184 : cv_ok RX8 184 mX2_costOfBorder 2 1 := ⟨by decide +kernel, Or.inl (ly_in 658 (by decide +kernel) (by decide +kernel)), cw_X2_costOfBorder.1, cw_X2_costOfBorder.2.1, cw_X2_costOfBorder.2.2, cd_X2_costOfBorder, by decide +kernel, by decide⟩
theorem cv_X2_47 : cv_ok RX2 47 mX2_from 2 1 := ⟨by decide +kernel, Or.inl (ly_in 662 (by decide +kernel) (by decide +kernel)), cw_X2_from.1, cw_X2_from.2.1, cw_X2_from.2.2, cd_X2_from, by decide +kernel, by decide⟩
theorem cv_X2_50 : cv_ok RX2 50 mX2_to 2 1 := ⟨by decide +kernel, Or.inl (ly_in 663 (by decide +kernel) (by decide +kernel)), cw_X2_to.1, cw_X2_to.2.1, cw_X2_to.2.2, cd_X2_to, by decide +kernel, by decide⟩
theorem cv_X2_53 : cv_ok RX2 53 mX2_part 2 2 := ⟨by decide +kernel, Or.inl (ly_in 664 (by decide +kernel) (by decide +kernel)), cw_X2_part.1, cw_X2_part.2.1, cw_X2_part.2.2, cd_X2_part, by decide +kernel, by decide⟩
set_option maxRecDepth 20000 in
theorem cd_X8_respond : Cond.code mX8_respond.1 mX8_respond.2.1 mX8_respond.2.2.1 mX8_respond.2.2.2 ∈ ly_G := (ly_in 668 rfl rfl)
theorem cw_X8_respond : Cond.instanceMethod mX8_respond.1 ∈ ly_G ∧ Cond.selects mX8_respond.1.cls mX8_respond.1 mX8_respond.1 ∈ ly_G ∧ Cond.initialized mX8_respond.1.cls ∈ ly_G := ⟨(ly_in 666 (by decide +kernel) (by decide +kernel)), (ly_in 667 (by decide +kernel) (by decide +kernel)), (ly_in 55 (by decide +kernel) (by decide +kernel))⟩
theorem cv_L_99 : cv_ok RL 99 mX8_respond 8 4 := ⟨by decide +kernel, Or.inl (ly_in 665 (by decide +kernel) (by decide +kernel)), cw_X8_respond.1, cw_X8_respond.2.1, cw_X8_respond.2.2, cd_X8_respond, by decide +kernel, by decide⟩
theorem cv_L_104 : cv_ok RL 104 mX8_interdictResponse 8 4 := ⟨by decide +kernel, Or.inl (ly_in 669 (by decide +kernel) (by decide +kernel)), cw_X8_interdictResponse.1, cw_X8_interdictResponse.2.1, cw_X8_interdictResponse.2.2, cd_X8_interdictResponse, by decide +kernel, by decide⟩
set_option maxRecDepth 20000 in
theorem cd_X8_fortify : Cond.code mX8_fortify.1 mX8_fortify.2.1 mX8_fortify.2.2.1 mX8_fortify.2.2.2 ∈ ly_G := (ly_in 673 rfl rfl)
theorem cw_X8_fortify : Cond.instanceMethod mX8_fortify.1 ∈ ly_G ∧ Cond.selects mX8_fortify.1.cls mX8_fortify.1 mX8_fortify.1 ∈ ly_G ∧ Cond.initialized mX8_fortify.1.cls ∈ ly_G := ⟨(ly_in 671 (by decide +kernel) (by decide +kernel)), (ly_in 672 (by decide +kernel) (by decide +kernel)), (ly_in 55 (by decide +kernel) (by decide +kernel))⟩
theorem cv_L_108 : cv_ok RL 108 mX8_fortify 8 4 := ⟨by decide +kernel, Or.inl (ly_in 670 (by decide +kernel) (by decide +kernel)), cw_X8_fortify.1, cw_X8_fortify.2.1, cw_X8_fortify.2.2, cd_X8_fortify, by decide +kernel, by decide⟩
set_option maxRecDepth 20000 in
theorem cd_X1_seek : Cond.code mX1_seek.1 mX1_seek.2.1 mX1_seek.2.2.1 mX1_seek.2.2.2 ∈ ly_G := (ly_in 677 rfl rfl)
theorem cw_X1_seek : Cond.instanceMethod mX1_seek.1 ∈ ly_G ∧ Cond.selects mX1_seek.1.cls mX1_seek.1 mX1_seek.1 ∈ ly_G ∧ Cond.initialized mX1_seek.1.cls ∈ ly_G := ⟨(ly_in 675 (by decide +kernel) (by decide +kernel)), (ly_in 676 (by decide +kernel) (by decide +kernel)), (ly_in 63 (by decide +kernel) (by decide +kernel))⟩
theorem cv_X8_187 : cv_ok RX8 187 mX1_seek 1 4 := ⟨by decide +kernel, Or.inl (ly_in 674 (by decide +kernel) (by decide +kernel)), cw_X1_seek.1, cw_X1_seek.2.1, cw_X1_seek.2.2, cd_X1_seek, by decide +kernel, by decide⟩
set_option maxRecDepth 20000 in
theorem cd_X1_hold : Cond.code mX1_hold.1 mX1_hold.2.1 mX1_hold.2.2.1 mX1_hold.2.2.2 ∈ ly_G := (ly_in 681 rfl rfl)
theorem cw_X1_hold : Cond.instanceMethod mX1_hold.1 ∈ ly_G ∧ Cond.selects mX1_hold.1.cls mX1_hold.1 mX1_hold.1 ∈ ly_G ∧ Cond.initialized mX1_hold.1.cls ∈ ly_G := ⟨(ly_in 680 (by decide +kernel) (by decide +kernel)), (ly_in 19 (by decide +kernel) (by decide +kernel)), (ly_in 63 (by decide +kernel) (by decide +kernel))⟩
theorem cv_X1_38 : cv_ok RX1 38 mX1_hold 1 2 := ⟨by decide +kernel, Or.inl (ly_in 678 (by decide +kernel) (by decide +kernel)), cw_X1_hold.1, cw_X1_hold.2.1, cw_X1_hold.2.2, cd_X1_hold, by decide +kernel, by decide⟩
theorem cv_X1_42 : cv_ok RX1 42 mX0_seekBest 0 6 := ⟨by decide +kernel, Or.inl (ly_in 682 (by decide +kernel) (by decide +kernel)), cw_X0_seekBest.1, cw_X0_seekBest.2.1, cw_X0_seekBest.2.2, cd_X0_seekBest, by decide +kernel, by decide⟩
set_option maxRecDepth 20000 in
theorem cd_X1_isBetter : Cond.code mX1_isBetter.1 mX1_isBetter.2.1 mX1_isBetter.2.2.1 mX1_isBetter.2.2.2 ∈ ly_G := (ly_in 686 rfl rfl)
theorem cw_X1_isBetter : Cond.instanceMethod mX1_isBetter.1 ∈ ly_G ∧ Cond.selects mX1_isBetter.1.cls mX1_isBetter.1 mX1_isBetter.1 ∈ ly_G ∧ Cond.initialized mX1_isBetter.1.cls ∈ ly_G := ⟨(ly_in 685 (by decide +kernel) (by decide +kernel)), (ly_in 20 (by decide +kernel) (by decide +kernel)), (ly_in 63 (by decide +kernel) (by decide +kernel))⟩
theorem cv_X1_50 : cv_ok RX1 50 mX1_isBetter 1 3 := ⟨by decide +kernel, Or.inl (ly_in 683 (by decide +kernel) (by decide +kernel)), cw_X1_isBetter.1, cw_X1_isBetter.2.1, cw_X1_isBetter.2.2, cd_X1_isBetter, by decide +kernel, by decide⟩
set_option maxRecDepth 20000 in
theorem cd_J6_bitCount_0f7a4 : Cond.code mJ6_bitCount_0f7a4.1 mJ6_bitCount_0f7a4.2.1 mJ6_bitCount_0f7a4.2.2.1 mJ6_bitCount_0f7a4.2.2.2 ∈ ly_G := (ly_in 689 rfl rfl)
theorem cw_J6_bitCount_0f7a4 : Cond.static mJ6_bitCount_0f7a4.1 ∈ ly_G ∧ Cond.initialized mJ6_bitCount_0f7a4.1.cls ∈ ly_G := ⟨(ly_in 688 (by decide +kernel) (by decide +kernel)), (ly_in 68 (by decide +kernel) (by decide +kernel))⟩
theorem cs_X1_59 : cs_ok RX1 59 mJ6_bitCount_0f7a4 1 := ⟨Or.inl (ly_in 687 (by decide +kernel) (by decide +kernel)), cw_J6_bitCount_0f7a4.1, cw_J6_bitCount_0f7a4.2, cd_J6_bitCount_0f7a4, by decide +kernel, by decide⟩
set_option maxRecDepth 20000 in
theorem cd_X8_finding : Cond.code mX8_finding.1 mX8_finding.2.1 mX8_finding.2.2.1 mX8_finding.2.2.2 ∈ ly_G := (ly_in 696 rfl rfl)
theorem cw_X8_finding : Cond.instanceMethod mX8_finding.1 ∈ ly_G ∧ Cond.selects mX8_finding.1.cls mX8_finding.1 mX8_finding.1 ∈ ly_G ∧ Cond.initialized mX8_finding.1.cls ∈ ly_G := ⟨(ly_in 694 (by decide +kernel) (by decide +kernel)), (ly_in 695 (by decide +kernel) (by decide +kernel)), (ly_in 55 (by decide +kernel) (by decide +kernel))⟩
theorem cv_L_112 : cv_ok RL 112 mX8_finding 8 0 := ⟨by decide +kernel, Or.inl (ly_in 693 (by decide +kernel) (by decide +kernel)), cw_X8_finding.1, cw_X8_finding.2.1, cw_X8_finding.2.2, cd_X8_finding, by decide +kernel, by decide⟩
set_option maxRecDepth 20000 in
theorem cd_X8_worth : Cond.code mX8_worth.1 mX8_worth.2.1 mX8_worth.2.2.1 mX8_worth.2.2.2 ∈ ly_G := (ly_in 700 rfl rfl)
theorem cw_X8_worth : Cond.instanceMethod mX8_worth.1 ∈ ly_G ∧ Cond.selects mX8_worth.1.cls mX8_worth.1 mX8_worth.1 ∈ ly_G ∧ Cond.initialized mX8_worth.1.cls ∈ ly_G := ⟨(ly_in 698 (by decide +kernel) (by decide +kernel)), (ly_in 699 (by decide +kernel) (by decide +kernel)), (ly_in 55 (by decide +kernel) (by decide +kernel))⟩
theorem cv_L_116 : cv_ok RL 116 mX8_worth 8 3 := ⟨by decide +kernel, Or.inl (ly_in 697 (by decide +kernel) (by decide +kernel)), cw_X8_worth.1, cw_X8_worth.2.1, cw_X8_worth.2.2, cd_X8_worth, by decide +kernel, by decide⟩
set_option maxRecDepth 20000 in
theorem cd_X8_neverHelps : Cond.code mX8_neverHelps.1 mX8_neverHelps.2.1 mX8_neverHelps.2.2.1 mX8_neverHelps.2.2.2 ∈ ly_G := (ly_in 704 rfl rfl)
theorem cw_X8_neverHelps : Cond.instanceMethod mX8_neverHelps.1 ∈ ly_G ∧ Cond.selects mX8_neverHelps.1.cls mX8_neverHelps.1 mX8_neverHelps.1 ∈ ly_G ∧ Cond.initialized mX8_neverHelps.1.cls ∈ ly_G := ⟨(ly_in 702 (by decide +kernel) (by decide +kernel)), (ly_in 703 (by decide +kernel) (by decide +kernel)), (ly_in 55 (by decide +kernel) (by decide +kernel))⟩
theorem cv_L_120 : cv_ok RL 120 mX8_neverHelps 8 3 := ⟨by decide +kernel, Or.inl (ly_in 701 (by decide +kernel) (by decide +kernel)), cw_X8_neverHelps.1, cw_X8_neverHelps.2.1, cw_X8_neverHelps.2.2, cd_X8_neverHelps, by decide +kernel, by decide⟩
set_option maxRecDepth 20000 in
theorem cd_X0_seekHelpful : Cond.code mX0_seekHelpful.1 mX0_seekHelpful.2.1 mX0_seekHelpful.2.2.1 mX0_seekHelpful.2.2.2 ∈ ly_G := (ly_in 708 rfl rfl)
theorem cw_X0_seekHelpful : Cond.instanceMethod mX0_seekHelpful.1 ∈ ly_G ∧ Cond.selects mX0_seekHelpful.1.cls mX0_seekHelpful.1 mX0_seekHelpful.1 ∈ ly_G ∧ Cond.initialized mX0_seekHelpful.1.cls ∈ ly_G := ⟨(ly_in 706 (by decide +kernel) (by decide +kernel)), (ly_in 707 (by decide +kernel) (by decide +kernel)), (ly_in 61 (by decide +kernel) (by decide +kernel))⟩
theorem cv_X8_190 : cv_ok RX8 190 mX0_seekHelpful 0 3 := ⟨by decide +kernel, Or.inl (ly_in 705 (by decide +kernel) (by decide +kernel)), cw_X0_seekHelpful.1, cw_X0_seekHelpful.2.1, cw_X0_seekHelpful.2.2, cd_X0_seekHelpful, by decide +kernel, by decide⟩
theorem cv_X8_193 : cv_ok RX8 193 mX2_all 2 0 := ⟨by decide +kernel, Or.inl (ly_in 709 (by decide +kernel) (by decide +kernel)), cw_X2_all.1, cw_X2_all.2.1, cw_X2_all.2.2, cd_X2_all, by decide +kernel, by decide⟩
set_option maxRecDepth 20000 in
theorem cd_X8_expected : Cond.code mX8_expected.1 mX8_expected.2.1 mX8_expected.2.2.1 mX8_expected.2.2.2 ∈ ly_G := (ly_in 713 rfl rfl)
theorem cw_X8_expected : Cond.instanceMethod mX8_expected.1 ∈ ly_G ∧ Cond.selects mX8_expected.1.cls mX8_expected.1 mX8_expected.1 ∈ ly_G ∧ Cond.initialized mX8_expected.1.cls ∈ ly_G := ⟨(ly_in 711 (by decide +kernel) (by decide +kernel)), (ly_in 712 (by decide +kernel) (by decide +kernel)), (ly_in 55 (by decide +kernel) (by decide +kernel))⟩
theorem cv_L_124 : cv_ok RL 124 mX8_expected 8 4 := ⟨by decide +kernel, Or.inl (ly_in 710 (by decide +kernel) (by decide +kernel)), cw_X8_expected.1, cw_X8_expected.2.1, cw_X8_expected.2.2, cd_X8_expected, by decide +kernel, by decide⟩
set_option maxRecDepth 20000 in
theorem cd_X8_isChance : Cond.code mX8_isChance.1 mX8_isChance.2.1 mX8_isChance.2.2.1 mX8_isChance.2.2.2 ∈ ly_G := (ly_in 717 rfl rfl)
theorem cw_X8_isChance : Cond.instanceMethod mX8_isChance.1 ∈ ly_G ∧ Cond.selects mX8_isChance.1.cls mX8_isChance.1 mX8_isChance.1 ∈ ly_G ∧ Cond.initialized mX8_isChance.1.cls ∈ ly_G := ⟨(ly_in 716 (by decide +kernel) (by decide +kernel)), (ly_in 21 (by decide +kernel) (by decide +kernel)), (ly_in 55 (by decide +kernel) (by decide +kernel))⟩
theorem cv_X8_199 : cv_ok RX8 199 mX8_isChance 8 4 := ⟨by decide +kernel, Or.inl (ly_in 714 (by decide +kernel) (by decide +kernel)), cw_X8_isChance.1, cw_X8_isChance.2.1, cw_X8_isChance.2.2, cd_X8_isChance, by decide +kernel, by decide⟩
theorem cs_X8_216 : cs_ok RX8 216 mJ6_bitCount_0f7a4 1 := ⟨Or.inl (ly_in 718 (by decide +kernel) (by decide +kernel)), cw_J6_bitCount_0f7a4.1, cw_J6_bitCount_0f7a4.2, cd_J6_bitCount_0f7a4, by decide +kernel, by decide⟩
set_option maxRecDepth 20000 in
theorem cd_X8_sumOfSubsets : Cond.code mX8_sumOfSubsets.1 mX8_sumOfSubsets.2.1 mX8_sumOfSubsets.2.2.1 mX8_sumOfSubsets.2.2.2 ∈ ly_G := (ly_in 723 rfl rfl)
theorem cw_X8_sumOfSubsets : Cond.instanceMethod mX8_sumOfSubsets.1 ∈ ly_G ∧ Cond.selects mX8_sumOfSubsets.1.cls mX8_sumOfSubsets.1 mX8_sumOfSubsets.1 ∈ ly_G ∧ Cond.initialized mX8_sumOfSubsets.1.cls ∈ ly_G := ⟨(ly_in 722 (by decide +kernel) (by decide +kernel)), (ly_in 22 (by decide +kernel) (by decide +kernel)), (ly_in 55 (by decide +kernel) (by decide +kernel))⟩
theorem cv_X8_205 : cv_ok RX8 205 mX8_sumOfSubsets 8 5 := ⟨by decide +kernel, Or.inl (ly_in 720 (by decide +kernel) (by decide +kernel)), cw_X8_sumOfSubsets.1, cw_X8_sumOfSubsets.2.1, cw_X8_sumOfSubsets.2.2, cd_X8_sumOfSubsets, by decide +kernel, by decide⟩
set_option maxRecDepth 20000 in
theorem cd_X8_power : Cond.code mX8_power.1 mX8_power.2.1 mX8_power.2.2.1 mX8_power.2.2.2 ∈ ly_G := (ly_in 726 rfl rfl)
theorem cw_X8_power : Cond.static mX8_power.1 ∈ ly_G ∧ Cond.initialized mX8_power.1.cls ∈ ly_G := ⟨(ly_in 725 (by decide +kernel) (by decide +kernel)), (ly_in 55 (by decide +kernel) (by decide +kernel))⟩
theorem cs_X8_246 : cs_ok RX8 246 mX8_power 2 := ⟨Or.inl (ly_in 724 (by decide +kernel) (by decide +kernel)), cw_X8_power.1, cw_X8_power.2, cd_X8_power, by decide +kernel, by decide⟩
set_option maxRecDepth 20000 in
theorem cd_X8_lost : Cond.code mX8_lost.1 mX8_lost.2.1 mX8_lost.2.2.1 mX8_lost.2.2.2 ∈ ly_G := (ly_in 730 rfl rfl)
theorem cw_X8_lost : Cond.instanceMethod mX8_lost.1 ∈ ly_G ∧ Cond.selects mX8_lost.1.cls mX8_lost.1 mX8_lost.1 ∈ ly_G ∧ Cond.initialized mX8_lost.1.cls ∈ ly_G := ⟨(ly_in 728 (by decide +kernel) (by decide +kernel)), (ly_in 729 (by decide +kernel) (by decide +kernel)), (ly_in 55 (by decide +kernel) (by decide +kernel))⟩
theorem cv_L_129 : cv_ok RL 129 mX8_lost 8 4 := ⟨by decide +kernel, Or.inl (ly_in 727 (by decide +kernel) (by decide +kernel)), cw_X8_lost.1, cw_X8_lost.2.1, cw_X8_lost.2.2, cd_X8_lost, by decide +kernel, by decide⟩
set_option maxRecDepth 20000 in
theorem cd_X8_undo : Cond.code mX8_undo.1 mX8_undo.2.1 mX8_undo.2.2.1 mX8_undo.2.2.2 ∈ ly_G := (ly_in 734 rfl rfl)
theorem cw_X8_undo : Cond.instanceMethod mX8_undo.1 ∈ ly_G ∧ Cond.selects mX8_undo.1.cls mX8_undo.1 mX8_undo.1 ∈ ly_G ∧ Cond.initialized mX8_undo.1.cls ∈ ly_G := ⟨(ly_in 732 (by decide +kernel) (by decide +kernel)), (ly_in 733 (by decide +kernel) (by decide +kernel)), (ly_in 55 (by decide +kernel) (by decide +kernel))⟩
theorem cv_L_133 : cv_ok RL 133 mX8_undo 8 0 := ⟨by decide +kernel, Or.inl (ly_in 731 (by decide +kernel) (by decide +kernel)), cw_X8_undo.1, cw_X8_undo.2.1, cw_X8_undo.2.2, cd_X8_undo, by decide +kernel, by decide⟩
set_option maxRecDepth 20000 in
theorem cd_X4_bringBack : Cond.code mX4_bringBack.1 mX4_bringBack.2.1 mX4_bringBack.2.2.1 mX4_bringBack.2.2.2 ∈ ly_G := (ly_in 738 rfl rfl)
theorem cw_X4_bringBack : Cond.instanceMethod mX4_bringBack.1 ∈ ly_G ∧ Cond.selects mX4_bringBack.1.cls mX4_bringBack.1 mX4_bringBack.1 ∈ ly_G ∧ Cond.initialized mX4_bringBack.1.cls ∈ ly_G := ⟨(ly_in 736 (by decide +kernel) (by decide +kernel)), (ly_in 737 (by decide +kernel) (by decide +kernel)), (ly_in 57 (by decide +kernel) (by decide +kernel))⟩
theorem cv_X8_209 : cv_ok RX8 209 mX4_bringBack 4 1 := ⟨by decide +kernel, Or.inl (ly_in 735 (by decide +kernel) (by decide +kernel)), cw_X4_bringBack.1, cw_X4_bringBack.2.1, cw_X4_bringBack.2.2, cd_X4_bringBack, by decide +kernel, by decide⟩
set_option maxRecDepth 20000 in
theorem cd_X2_copyFrom : Cond.code mX2_copyFrom.1 mX2_copyFrom.2.1 mX2_copyFrom.2.2.1 mX2_copyFrom.2.2.2 ∈ ly_G := (ly_in 742 rfl rfl)
theorem cw_X2_copyFrom : Cond.instanceMethod mX2_copyFrom.1 ∈ ly_G ∧ Cond.selects mX2_copyFrom.1.cls mX2_copyFrom.1 mX2_copyFrom.1 ∈ ly_G ∧ Cond.initialized mX2_copyFrom.1.cls ∈ ly_G := ⟨(ly_in 740 (by decide +kernel) (by decide +kernel)), (ly_in 741 (by decide +kernel) (by decide +kernel)), (ly_in 56 (by decide +kernel) (by decide +kernel))⟩
theorem cv_X4_28 : cv_ok RX4 28 mX2_copyFrom 2 2 := ⟨by decide +kernel, Or.inl (ly_in 739 (by decide +kernel) (by decide +kernel)), cw_X2_copyFrom.1, cw_X2_copyFrom.2.1, cw_X2_copyFrom.2.2, cd_X2_copyFrom, by decide +kernel, by decide⟩
set_option maxRecDepth 20000 in
theorem cd_X8_count : Cond.code mX8_count.1 mX8_count.2.1 mX8_count.2.2.1 mX8_count.2.2.2 ∈ ly_G := (ly_in 746 rfl rfl)
theorem cw_X8_count : Cond.instanceMethod mX8_count.1 ∈ ly_G ∧ Cond.selects mX8_count.1.cls mX8_count.1 mX8_count.1 ∈ ly_G ∧ Cond.initialized mX8_count.1.cls ∈ ly_G := ⟨(ly_in 744 (by decide +kernel) (by decide +kernel)), (ly_in 745 (by decide +kernel) (by decide +kernel)), (ly_in 55 (by decide +kernel) (by decide +kernel))⟩
theorem cv_L_137 : cv_ok RL 137 mX8_count 8 1 := ⟨by decide +kernel, Or.inl (ly_in 743 (by decide +kernel) (by decide +kernel)), cw_X8_count.1, cw_X8_count.2.1, cw_X8_count.2.2, cd_X8_count, by decide +kernel, by decide⟩
set_option maxRecDepth 20000 in
theorem cd_X2_sumOfLengths : Cond.code mX2_sumOfLengths.1 mX2_sumOfLengths.2.1 mX2_sumOfLengths.2.2.1 mX2_sumOfLengths.2.2.2 ∈ ly_G := (ly_in 750 rfl rfl)
theorem cw_X2_sumOfLengths : Cond.instanceMethod mX2_sumOfLengths.1 ∈ ly_G ∧ Cond.selects mX2_sumOfLengths.1.cls mX2_sumOfLengths.1 mX2_sumOfLengths.1 ∈ ly_G ∧ Cond.initialized mX2_sumOfLengths.1.cls ∈ ly_G := ⟨(ly_in 748 (by decide +kernel) (by decide +kernel)), (ly_in 749 (by decide +kernel) (by decide +kernel)), (ly_in 56 (by decide +kernel) (by decide +kernel))⟩
theorem cv_X8_221 : cv_ok RX8 221 mX2_sumOfLengths 2 0 := ⟨by decide +kernel, Or.inl (ly_in 747 (by decide +kernel) (by decide +kernel)), cw_X2_sumOfLengths.1, cw_X2_sumOfLengths.2.1, cw_X2_sumOfLengths.2.2, cd_X2_sumOfLengths, by decide +kernel, by decide⟩
set_option maxRecDepth 20000 in
theorem cd_X2_plainLength : Cond.code mX2_plainLength.1 mX2_plainLength.2.1 mX2_plainLength.2.2.1 mX2_plainLength.2.2.2 ∈ ly_G := (ly_in 754 rfl rfl)
theorem cw_X2_plainLength : Cond.instanceMethod mX2_plainLength.1 ∈ ly_G ∧ Cond.selects mX2_plainLength.1.cls mX2_plainLength.1 mX2_plainLength.1 ∈ ly_G ∧ Cond.initialized mX2_plainLength.1.cls ∈ ly_G := ⟨(ly_in 752 (by decide +kernel) (by decide +kernel)), (ly_in 753 (by decide +kernel) (by decide +kernel)), (ly_in 56 (by decide +kernel) (by decide +kernel))⟩
theorem cv_X2_44 : cv_ok RX2 44 mX2_plainLength 2 1 := ⟨by decide +kernel, Or.inl (ly_in 751 (by decide +kernel) (by decide +kernel)), cw_X2_plainLength.1, cw_X2_plainLength.2.1, cw_X2_plainLength.2.2, cd_X2_plainLength, by decide +kernel, by decide⟩
set_option maxRecDepth 20000 in
theorem cd_X5_reachablePairs : Cond.code mX5_reachablePairs.1 mX5_reachablePairs.2.1 mX5_reachablePairs.2.2.1 mX5_reachablePairs.2.2.2 ∈ ly_G := (ly_in 758 rfl rfl)
theorem cw_X5_reachablePairs : Cond.instanceMethod mX5_reachablePairs.1 ∈ ly_G ∧ Cond.selects mX5_reachablePairs.1.cls mX5_reachablePairs.1 mX5_reachablePairs.1 ∈ ly_G ∧ Cond.initialized mX5_reachablePairs.1.cls ∈ ly_G := ⟨(ly_in 756 (by decide +kernel) (by decide +kernel)), (ly_in 757 (by decide +kernel) (by decide +kernel)), (ly_in 59 (by decide +kernel) (by decide +kernel))⟩
theorem cv_X8_224 : cv_ok RX8 224 mX5_reachablePairs 5 1 := ⟨by decide +kernel, Or.inl (ly_in 755 (by decide +kernel) (by decide +kernel)), cw_X5_reachablePairs.1, cw_X5_reachablePairs.2.1, cw_X5_reachablePairs.2.2, cd_X5_reachablePairs, by decide +kernel, by decide⟩
set_option maxRecDepth 20000 in
theorem cd_X8_digest : Cond.code mX8_digest.1 mX8_digest.2.1 mX8_digest.2.2.1 mX8_digest.2.2.2 ∈ ly_G := (ly_in 762 rfl rfl)
theorem cw_X8_digest : Cond.instanceMethod mX8_digest.1 ∈ ly_G ∧ Cond.selects mX8_digest.1.cls mX8_digest.1 mX8_digest.1 ∈ ly_G ∧ Cond.initialized mX8_digest.1.cls ∈ ly_G := ⟨(ly_in 760 (by decide +kernel) (by decide +kernel)), (ly_in 761 (by decide +kernel) (by decide +kernel)), (ly_in 55 (by decide +kernel) (by decide +kernel))⟩
theorem cv_L_141 : cv_ok RL 141 mX8_digest 8 0 := ⟨by decide +kernel, Or.inl (ly_in 759 (by decide +kernel) (by decide +kernel)), cw_X8_digest.1, cw_X8_digest.2.1, cw_X8_digest.2.2, cd_X8_digest, by decide +kernel, by decide⟩
theorem cv_X8_231 : cv_ok RX8 231 mX8_count 8 1 := ⟨by decide +kernel, Or.inl (ly_in 765 (by decide +kernel) (by decide +kernel)), cw_X8_count.1, cw_X8_count.2.1, cw_X8_count.2.2, cd_X8_count, by decide +kernel, by decide⟩
theorem cv_X8_234 : cv_ok RX8 234 mX8_edge 8 2 := ⟨by decide +kernel, Or.inl (ly_in 766 (by decide +kernel) (by decide +kernel)), cw_X8_edge.1, cw_X8_edge.2.1, cw_X8_edge.2.2, cd_X8_edge, by decide +kernel, by decide⟩
theorem cv_X8_237 : cv_ok RX8 237 mX5_run 5 3 := ⟨by decide +kernel, Or.inl (ly_in 767 (by decide +kernel) (by decide +kernel)), cw_X5_run.1, cw_X5_run.2.1, cw_X5_run.2.2, cd_X5_run, by decide +kernel, by decide⟩
theorem cv_X8_240 : cv_ok RX8 240 mX5_distanceTo 5 1 := ⟨by decide +kernel, Or.inl (ly_in 768 (by decide +kernel) (by decide +kernel)), cw_X5_distanceTo.1, cw_X5_distanceTo.2.1, cw_X5_distanceTo.2.2, cd_X5_distanceTo, by decide +kernel, by decide⟩
theorem cv_X8_243 : cv_ok RX8 243 mX6_letterAt 6 1 := ⟨by decide +kernel, Or.inl (ly_in 769 (by decide +kernel) (by decide +kernel)), cw_X6_letterAt.1, cw_X6_letterAt.2.1, cw_X6_letterAt.2.2, cd_X6_letterAt, by decide +kernel, by decide⟩
set_option maxRecDepth 20000 in
theorem cd_X9_undo : Cond.code mX9_undo.1 mX9_undo.2.1 mX9_undo.2.2.1 mX9_undo.2.2.2 ∈ ly_G := (ly_in 837 rfl rfl)
theorem cw_X9_undo : Cond.instanceMethod mX9_undo.1 ∈ ly_G ∧ Cond.selects mX9_undo.1.cls mX9_undo.1 mX9_undo.1 ∈ ly_G ∧ Cond.initialized mX9_undo.1.cls ∈ ly_G := ⟨(ly_in 835 (by decide +kernel) (by decide +kernel)), (ly_in 836 (by decide +kernel) (by decide +kernel)), (ly_in 64 (by decide +kernel) (by decide +kernel))⟩
theorem cv_L_136 : cv_ok RL 136 mX9_undo 9 0 := ⟨by decide +kernel, Or.inl (ly_in 834 (by decide +kernel) (by decide +kernel)), cw_X9_undo.1, cw_X9_undo.2.1, cw_X9_undo.2.2, cd_X9_undo, by decide +kernel, by decide⟩
set_option maxRecDepth 20000 in
theorem cd_X9_addEdge : Cond.code mX9_addEdge.1 mX9_addEdge.2.1 mX9_addEdge.2.2.1 mX9_addEdge.2.2.2 ∈ ly_G := (ly_in 841 rfl rfl)
theorem cw_X9_addEdge : Cond.instanceMethod mX9_addEdge.1 ∈ ly_G ∧ Cond.selects mX9_addEdge.1.cls mX9_addEdge.1 mX9_addEdge.1 ∈ ly_G ∧ Cond.initialized mX9_addEdge.1.cls ∈ ly_G := ⟨(ly_in 839 (by decide +kernel) (by decide +kernel)), (ly_in 840 (by decide +kernel) (by decide +kernel)), (ly_in 64 (by decide +kernel) (by decide +kernel))⟩
theorem cv_L_17 : cv_ok RL 17 mX9_addEdge 9 5 := ⟨by decide +kernel, Or.inl (ly_in 838 (by decide +kernel) (by decide +kernel)), cw_X9_addEdge.1, cw_X9_addEdge.2.1, cw_X9_addEdge.2.2, cd_X9_addEdge, by decide +kernel, by decide⟩
set_option maxRecDepth 20000 in
theorem cd_X9_areNodes : Cond.code mX9_areNodes.1 mX9_areNodes.2.1 mX9_areNodes.2.2.1 mX9_areNodes.2.2.2 ∈ ly_G := (ly_in 844 rfl rfl)
theorem cw_X9_areNodes : Cond.static mX9_areNodes.1 ∈ ly_G ∧ Cond.initialized mX9_areNodes.1.cls ∈ ly_G := ⟨(ly_in 843 (by decide +kernel) (by decide +kernel)), (ly_in 64 (by decide +kernel) (by decide +kernel))⟩
theorem cs_X9_53 : cs_ok RX9 53 mX9_areNodes 2 := ⟨Or.inl (ly_in 842 (by decide +kernel) (by decide +kernel)), cw_X9_areNodes.1, cw_X9_areNodes.2, cd_X9_areNodes, by decide +kernel, by decide⟩
set_option maxRecDepth 20000 in
theorem cd_X9_in : Cond.code mX9_in.1 mX9_in.2.1 mX9_in.2.2.1 mX9_in.2.2.2 ∈ ly_G := (ly_in 847 rfl rfl)
theorem cw_X9_in : Cond.static mX9_in.1 ∈ ly_G ∧ Cond.initialized mX9_in.1.cls ∈ ly_G := ⟨(ly_in 846 (by decide +kernel) (by decide +kernel)), (ly_in 64 (by decide +kernel) (by decide +kernel))⟩
theorem cs_X9_38 : cs_ok RX9 38 mX9_in 3 := ⟨Or.inl (ly_in 845 (by decide +kernel) (by decide +kernel)), cw_X9_in.1, cw_X9_in.2, cd_X9_in, by decide +kernel, by decide⟩
set_option maxRecDepth 20000 in
theorem cd_X9_isValue : Cond.code mX9_isValue.1 mX9_isValue.2.1 mX9_isValue.2.2.1 mX9_isValue.2.2.2 ∈ ly_G := (ly_in 850 rfl rfl)
theorem cw_X9_isValue : Cond.static mX9_isValue.1 ∈ ly_G ∧ Cond.initialized mX9_isValue.1.cls ∈ ly_G := ⟨(ly_in 849 (by decide +kernel) (by decide +kernel)), (ly_in 64 (by decide +kernel) (by decide +kernel))⟩
theorem cs_X9_56 : cs_ok RX9 56 mX9_isValue 2 := ⟨Or.inl (ly_in 848 (by decide +kernel) (by decide +kernel)), cw_X9_isValue.1, cw_X9_isValue.2, cd_X9_isValue, by decide +kernel, by decide⟩
set_option maxRecDepth 20000 in
theorem cd_X9_keeps : Cond.code mX9_keeps.1 mX9_keeps.2.1 mX9_keeps.2.2.1 mX9_keeps.2.2.2 ∈ ly_G := (ly_in 854 rfl rfl)
theorem cw_X9_keeps : Cond.instanceMethod mX9_keeps.1 ∈ ly_G ∧ Cond.selects mX9_keeps.1.cls mX9_keeps.1 mX9_keeps.1 ∈ ly_G ∧ Cond.initialized mX9_keeps.1.cls ∈ ly_G := ⟨(ly_in 853 (by decide +kernel) (by decide +kernel)), (ly_in 23 (by decide +kernel) (by decide +kernel)), (ly_in 64 (by decide +kernel) (by decide +kernel))⟩
theorem cv_X9_59 : cv_ok RX9 59 mX9_keeps 9 0 := ⟨by decide +kernel, Or.inl (ly_in 851 (by decide +kernel) (by decide +kernel)), cw_X9_keeps.1, cw_X9_keeps.2.1, cw_X9_keeps.2.2, cd_X9_keeps, by decide +kernel, by decide⟩
set_option maxRecDepth 20000 in
theorem cd_X9_lays : Cond.code mX9_lays.1 mX9_lays.2.1 mX9_lays.2.2.1 mX9_lays.2.2.2 ∈ ly_G := (ly_in 858 rfl rfl)
theorem cw_X9_lays : Cond.instanceMethod mX9_lays.1 ∈ ly_G ∧ Cond.selects mX9_lays.1.cls mX9_lays.1 mX9_lays.1 ∈ ly_G ∧ Cond.initialized mX9_lays.1.cls ∈ ly_G := ⟨(ly_in 857 (by decide +kernel) (by decide +kernel)), (ly_in 24 (by decide +kernel) (by decide +kernel)), (ly_in 64 (by decide +kernel) (by decide +kernel))⟩
theorem cv_X9_62 : cv_ok RX9 62 mX9_lays 9 6 := ⟨by decide +kernel, Or.inl (ly_in 855 (by decide +kernel) (by decide +kernel)), cw_X9_lays.1, cw_X9_lays.2.1, cw_X9_lays.2.2, cd_X9_lays, by decide +kernel, by decide⟩
set_option maxRecDepth 20000 in
theorem cd_X9_removeEdge : Cond.code mX9_removeEdge.1 mX9_removeEdge.2.1 mX9_removeEdge.2.2.1 mX9_removeEdge.2.2.2 ∈ ly_G := (ly_in 862 rfl rfl)
theorem cw_X9_removeEdge : Cond.instanceMethod mX9_removeEdge.1 ∈ ly_G ∧ Cond.selects mX9_removeEdge.1.cls mX9_removeEdge.1 mX9_removeEdge.1 ∈ ly_G ∧ Cond.initialized mX9_removeEdge.1.cls ∈ ly_G := ⟨(ly_in 860 (by decide +kernel) (by decide +kernel)), (ly_in 861 (by decide +kernel) (by decide +kernel)), (ly_in 64 (by decide +kernel) (by decide +kernel))⟩
theorem cv_L_22 : cv_ok RL 22 mX9_removeEdge 9 1 := ⟨by decide +kernel, Or.inl (ly_in 859 (by decide +kernel) (by decide +kernel)), cw_X9_removeEdge.1, cw_X9_removeEdge.2.1, cw_X9_removeEdge.2.2, cd_X9_removeEdge, by decide +kernel, by decide⟩
set_option maxRecDepth 20000 in
theorem cd_X9_isEdge : Cond.code mX9_isEdge.1 mX9_isEdge.2.1 mX9_isEdge.2.2.1 mX9_isEdge.2.2.2 ∈ ly_G := (ly_in 866 rfl rfl)
theorem cw_X9_isEdge : Cond.instanceMethod mX9_isEdge.1 ∈ ly_G ∧ Cond.selects mX9_isEdge.1.cls mX9_isEdge.1 mX9_isEdge.1 ∈ ly_G ∧ Cond.initialized mX9_isEdge.1.cls ∈ ly_G := ⟨(ly_in 865 (by decide +kernel) (by decide +kernel)), (ly_in 25 (by decide +kernel) (by decide +kernel)), (ly_in 64 (by decide +kernel) (by decide +kernel))⟩
theorem cv_X9_66 : cv_ok RX9 66 mX9_isEdge 9 1 := ⟨by decide +kernel, Or.inl (ly_in 863 (by decide +kernel) (by decide +kernel)), cw_X9_isEdge.1, cw_X9_isEdge.2.1, cw_X9_isEdge.2.2, cd_X9_isEdge, by decide +kernel, by decide⟩
set_option maxRecDepth 20000 in
theorem cd_X9_has : Cond.code mX9_has.1 mX9_has.2.1 mX9_has.2.2.1 mX9_has.2.2.2 ∈ ly_G := (ly_in 869 rfl rfl)
theorem cw_X9_has : Cond.static mX9_has.1 ∈ ly_G ∧ Cond.initialized mX9_has.1.cls ∈ ly_G := ⟨(ly_in 868 (by decide +kernel) (by decide +kernel)), (ly_in 64 (by decide +kernel) (by decide +kernel))⟩
theorem cs_X9_42 : cs_ok RX9 42 mX9_has 2 := ⟨Or.inl (ly_in 867 (by decide +kernel) (by decide +kernel)), cw_X9_has.1, cw_X9_has.2, cd_X9_has, by decide +kernel, by decide⟩
set_option maxRecDepth 20000 in
theorem cd_X9_setEdge : Cond.code mX9_setEdge.1 mX9_setEdge.2.1 mX9_setEdge.2.2.1 mX9_setEdge.2.2.2 ∈ ly_G := (ly_in 873 rfl rfl)
theorem cw_X9_setEdge : Cond.instanceMethod mX9_setEdge.1 ∈ ly_G ∧ Cond.selects mX9_setEdge.1.cls mX9_setEdge.1 mX9_setEdge.1 ∈ ly_G ∧ Cond.initialized mX9_setEdge.1.cls ∈ ly_G := ⟨(ly_in 871 (by decide +kernel) (by decide +kernel)), (ly_in 872 (by decide +kernel) (by decide +kernel)), (ly_in 64 (by decide +kernel) (by decide +kernel))⟩
theorem cv_L_27 : cv_ok RL 27 mX9_setEdge 9 3 := ⟨by decide +kernel, Or.inl (ly_in 870 (by decide +kernel) (by decide +kernel)), cw_X9_setEdge.1, cw_X9_setEdge.2.1, cw_X9_setEdge.2.2, cd_X9_setEdge, by decide +kernel, by decide⟩
set_option maxRecDepth 20000 in
theorem cd_X9_of : Cond.code mX9_of.1 mX9_of.2.1 mX9_of.2.2.1 mX9_of.2.2.2 ∈ ly_G := (ly_in 877 rfl rfl)
theorem cw_X9_of : Cond.instanceMethod mX9_of.1 ∈ ly_G ∧ Cond.selects mX9_of.1.cls mX9_of.1 mX9_of.1 ∈ ly_G ∧ Cond.initialized mX9_of.1.cls ∈ ly_G := ⟨(ly_in 876 (by decide +kernel) (by decide +kernel)), (ly_in 26 (by decide +kernel) (by decide +kernel)), (ly_in 64 (by decide +kernel) (by decide +kernel))⟩
theorem cv_X9_46 : cv_ok RX9 46 mX9_of 9 2 := ⟨by decide +kernel, Or.inl (ly_in 874 (by decide +kernel) (by decide +kernel)), cw_X9_of.1, cw_X9_of.2.1, cw_X9_of.2.2, cd_X9_of, by decide +kernel, by decide⟩
set_option maxRecDepth 20000 in
theorem cd_X9_edge : Cond.code mX9_edge.1 mX9_edge.2.1 mX9_edge.2.2.1 mX9_edge.2.2.2 ∈ ly_G := (ly_in 881 rfl rfl)
theorem cw_X9_edge : Cond.instanceMethod mX9_edge.1 ∈ ly_G ∧ Cond.selects mX9_edge.1.cls mX9_edge.1 mX9_edge.1 ∈ ly_G ∧ Cond.initialized mX9_edge.1.cls ∈ ly_G := ⟨(ly_in 879 (by decide +kernel) (by decide +kernel)), (ly_in 880 (by decide +kernel) (by decide +kernel)), (ly_in 64 (by decide +kernel) (by decide +kernel))⟩
theorem cv_L_32 : cv_ok RL 32 mX9_edge 9 2 := ⟨by decide +kernel, Or.inl (ly_in 878 (by decide +kernel) (by decide +kernel)), cw_X9_edge.1, cw_X9_edge.2.1, cw_X9_edge.2.2, cd_X9_edge, by decide +kernel, by decide⟩
set_option maxRecDepth 20000 in
theorem cd_X9_clear : Cond.code mX9_clear.1 mX9_clear.2.1 mX9_clear.2.2.1 mX9_clear.2.2.2 ∈ ly_G := (ly_in 885 rfl rfl)
theorem cw_X9_clear : Cond.instanceMethod mX9_clear.1 ∈ ly_G ∧ Cond.selects mX9_clear.1.cls mX9_clear.1 mX9_clear.1 ∈ ly_G ∧ Cond.initialized mX9_clear.1.cls ∈ ly_G := ⟨(ly_in 883 (by decide +kernel) (by decide +kernel)), (ly_in 884 (by decide +kernel) (by decide +kernel)), (ly_in 64 (by decide +kernel) (by decide +kernel))⟩
theorem cv_L_37 : cv_ok RL 37 mX9_clear 9 0 := ⟨by decide +kernel, Or.inl (ly_in 882 (by decide +kernel) (by decide +kernel)), cw_X9_clear.1, cw_X9_clear.2.1, cw_X9_clear.2.2, cd_X9_clear, by decide +kernel, by decide⟩
set_option maxRecDepth 20000 in
theorem cd_X9_type : Cond.code mX9_type.1 mX9_type.2.1 mX9_type.2.2.1 mX9_type.2.2.2 ∈ ly_G := (ly_in 889 rfl rfl)
theorem cw_X9_type : Cond.instanceMethod mX9_type.1 ∈ ly_G ∧ Cond.selects mX9_type.1.cls mX9_type.1 mX9_type.1 ∈ ly_G ∧ Cond.initialized mX9_type.1.cls ∈ ly_G := ⟨(ly_in 887 (by decide +kernel) (by decide +kernel)), (ly_in 888 (by decide +kernel) (by decide +kernel)), (ly_in 64 (by decide +kernel) (by decide +kernel))⟩
theorem cv_L_41 : cv_ok RL 41 mX9_type 9 1 := ⟨by decide +kernel, Or.inl (ly_in 886 (by decide +kernel) (by decide +kernel)), cw_X9_type.1, cw_X9_type.2.1, cw_X9_type.2.2, cd_X9_type, by decide +kernel, by decide⟩
set_option maxRecDepth 20000 in
theorem cd_X9_clearText : Cond.code mX9_clearText.1 mX9_clearText.2.1 mX9_clearText.2.2.1 mX9_clearText.2.2.2 ∈ ly_G := (ly_in 893 rfl rfl)
theorem cw_X9_clearText : Cond.instanceMethod mX9_clearText.1 ∈ ly_G ∧ Cond.selects mX9_clearText.1.cls mX9_clearText.1 mX9_clearText.1 ∈ ly_G ∧ Cond.initialized mX9_clearText.1.cls ∈ ly_G := ⟨(ly_in 891 (by decide +kernel) (by decide +kernel)), (ly_in 892 (by decide +kernel) (by decide +kernel)), (ly_in 64 (by decide +kernel) (by decide +kernel))⟩
theorem cv_L_45 : cv_ok RL 45 mX9_clearText 9 0 := ⟨by decide +kernel, Or.inl (ly_in 890 (by decide +kernel) (by decide +kernel)), cw_X9_clearText.1, cw_X9_clearText.2.1, cw_X9_clearText.2.2, cd_X9_clearText, by decide +kernel, by decide⟩
set_option maxRecDepth 20000 in
theorem cd_X9_fault : Cond.code mX9_fault.1 mX9_fault.2.1 mX9_fault.2.2.1 mX9_fault.2.2.2 ∈ ly_G := (ly_in 897 rfl rfl)
theorem cw_X9_fault : Cond.instanceMethod mX9_fault.1 ∈ ly_G ∧ Cond.selects mX9_fault.1.cls mX9_fault.1 mX9_fault.1 ∈ ly_G ∧ Cond.initialized mX9_fault.1.cls ∈ ly_G := ⟨(ly_in 895 (by decide +kernel) (by decide +kernel)), (ly_in 896 (by decide +kernel) (by decide +kernel)), (ly_in 64 (by decide +kernel) (by decide +kernel))⟩
theorem cv_L_49 : cv_ok RL 49 mX9_fault 9 0 := ⟨by decide +kernel, Or.inl (ly_in 894 (by decide +kernel) (by decide +kernel)), cw_X9_fault.1, cw_X9_fault.2.1, cw_X9_fault.2.2, cd_X9_fault, by decide +kernel, by decide⟩
set_option maxRecDepth 20000 in
theorem cd_X9_blanks : Cond.code mX9_blanks.1 mX9_blanks.2.1 mX9_blanks.2.2.1 mX9_blanks.2.2.2 ∈ ly_G := (ly_in 901 rfl rfl)
theorem cw_X9_blanks : Cond.instanceMethod mX9_blanks.1 ∈ ly_G ∧ Cond.selects mX9_blanks.1.cls mX9_blanks.1 mX9_blanks.1 ∈ ly_G ∧ Cond.initialized mX9_blanks.1.cls ∈ ly_G := ⟨(ly_in 900 (by decide +kernel) (by decide +kernel)), (ly_in 27 (by decide +kernel) (by decide +kernel)), (ly_in 64 (by decide +kernel) (by decide +kernel))⟩
theorem cv_X9_76 : cv_ok RX9 76 mX9_blanks 9 0 := ⟨by decide +kernel, Or.inl (ly_in 898 (by decide +kernel) (by decide +kernel)), cw_X9_blanks.1, cw_X9_blanks.2.1, cw_X9_blanks.2.2, cd_X9_blanks, by decide +kernel, by decide⟩
set_option maxRecDepth 20000 in
theorem cd_X9_next : Cond.code mX9_next.1 mX9_next.2.1 mX9_next.2.2.1 mX9_next.2.2.2 ∈ ly_G := (ly_in 905 rfl rfl)
theorem cw_X9_next : Cond.instanceMethod mX9_next.1 ∈ ly_G ∧ Cond.selects mX9_next.1.cls mX9_next.1 mX9_next.1 ∈ ly_G ∧ Cond.initialized mX9_next.1.cls ∈ ly_G := ⟨(ly_in 904 (by decide +kernel) (by decide +kernel)), (ly_in 28 (by decide +kernel) (by decide +kernel)), (ly_in 64 (by decide +kernel) (by decide +kernel))⟩
theorem cv_X9_79 : cv_ok RX9 79 mX9_next 9 0 := ⟨by decide +kernel, Or.inl (ly_in 902 (by decide +kernel) (by decide +kernel)), cw_X9_next.1, cw_X9_next.2.1, cw_X9_next.2.2, cd_X9_next, by decide +kernel, by decide⟩
set_option maxRecDepth 20000 in
theorem cd_X9_node : Cond.code mX9_node.1 mX9_node.2.1 mX9_node.2.2.1 mX9_node.2.2.2 ∈ ly_G := (ly_in 909 rfl rfl)
theorem cw_X9_node : Cond.instanceMethod mX9_node.1 ∈ ly_G ∧ Cond.selects mX9_node.1.cls mX9_node.1 mX9_node.1 ∈ ly_G ∧ Cond.initialized mX9_node.1.cls ∈ ly_G := ⟨(ly_in 908 (by decide +kernel) (by decide +kernel)), (ly_in 29 (by decide +kernel) (by decide +kernel)), (ly_in 64 (by decide +kernel) (by decide +kernel))⟩
theorem cv_X9_101 : cv_ok RX9 101 mX9_node 9 1 := ⟨by decide +kernel, Or.inl (ly_in 906 (by decide +kernel) (by decide +kernel)), cw_X9_node.1, cw_X9_node.2.1, cw_X9_node.2.2, cd_X9_node, by decide +kernel, by decide⟩
set_option maxRecDepth 20000 in
theorem cd_X9_passes : Cond.code mX9_passes.1 mX9_passes.2.1 mX9_passes.2.2.1 mX9_passes.2.2.2 ∈ ly_G := (ly_in 913 rfl rfl)
theorem cw_X9_passes : Cond.instanceMethod mX9_passes.1 ∈ ly_G ∧ Cond.selects mX9_passes.1.cls mX9_passes.1 mX9_passes.1 ∈ ly_G ∧ Cond.initialized mX9_passes.1.cls ∈ ly_G := ⟨(ly_in 912 (by decide +kernel) (by decide +kernel)), (ly_in 30 (by decide +kernel) (by decide +kernel)), (ly_in 64 (by decide +kernel) (by decide +kernel))⟩
theorem cv_X9_87 : cv_ok RX9 87 mX9_passes 9 0 := ⟨by decide +kernel, Or.inl (ly_in 910 (by decide +kernel) (by decide +kernel)), cw_X9_passes.1, cw_X9_passes.2.1, cw_X9_passes.2.2, cd_X9_passes, by decide +kernel, by decide⟩
set_option maxRecDepth 20000 in
theorem cd_X9_number : Cond.code mX9_number.1 mX9_number.2.1 mX9_number.2.2.1 mX9_number.2.2.2 ∈ ly_G := (ly_in 917 rfl rfl)
theorem cw_X9_number : Cond.instanceMethod mX9_number.1 ∈ ly_G ∧ Cond.selects mX9_number.1.cls mX9_number.1 mX9_number.1 ∈ ly_G ∧ Cond.initialized mX9_number.1.cls ∈ ly_G := ⟨(ly_in 916 (by decide +kernel) (by decide +kernel)), (ly_in 31 (by decide +kernel) (by decide +kernel)), (ly_in 64 (by decide +kernel) (by decide +kernel))⟩
theorem cv_X9_94 : cv_ok RX9 94 mX9_number 9 1 := ⟨by decide +kernel, Or.inl (ly_in 914 (by decide +kernel) (by decide +kernel)), cw_X9_number.1, cw_X9_number.2.1, cw_X9_number.2.2, cd_X9_number, by decide +kernel, by decide⟩
set_option maxRecDepth 20000 in
theorem cd_X9_isDigit : Cond.code mX9_isDigit.1 mX9_isDigit.2.1 mX9_isDigit.2.2.1 mX9_isDigit.2.2.2 ∈ ly_G := (ly_in 921 rfl rfl)
theorem cw_X9_isDigit : Cond.instanceMethod mX9_isDigit.1 ∈ ly_G ∧ Cond.selects mX9_isDigit.1.cls mX9_isDigit.1 mX9_isDigit.1 ∈ ly_G ∧ Cond.initialized mX9_isDigit.1.cls ∈ ly_G := ⟨(ly_in 920 (by decide +kernel) (by decide +kernel)), (ly_in 32 (by decide +kernel) (by decide +kernel)), (ly_in 64 (by decide +kernel) (by decide +kernel))⟩
theorem cv_X9_90 : cv_ok RX9 90 mX9_isDigit 9 0 := ⟨by decide +kernel, Or.inl (ly_in 918 (by decide +kernel) (by decide +kernel)), cw_X9_isDigit.1, cw_X9_isDigit.2.1, cw_X9_isDigit.2.2, cd_X9_isDigit, by decide +kernel, by decide⟩
set_option maxRecDepth 20000 in
theorem cd_X9_sign : Cond.code mX9_sign.1 mX9_sign.2.1 mX9_sign.2.2.1 mX9_sign.2.2.2 ∈ ly_G := (ly_in 925 rfl rfl)
theorem cw_X9_sign : Cond.instanceMethod mX9_sign.1 ∈ ly_G ∧ Cond.selects mX9_sign.1.cls mX9_sign.1 mX9_sign.1 ∈ ly_G ∧ Cond.initialized mX9_sign.1.cls ∈ ly_G := ⟨(ly_in 924 (by decide +kernel) (by decide +kernel)), (ly_in 33 (by decide +kernel) (by decide +kernel)), (ly_in 64 (by decide +kernel) (by decide +kernel))⟩
theorem cv_X9_105 : cv_ok RX9 105 mX9_sign 9 1 := ⟨by decide +kernel, Or.inl (ly_in 922 (by decide +kernel) (by decide +kernel)), cw_X9_sign.1, cw_X9_sign.2.1, cw_X9_sign.2.2, cd_X9_sign, by decide +kernel, by decide⟩
set_option maxRecDepth 20000 in
theorem cd_X9_delay : Cond.code mX9_delay.1 mX9_delay.2.1 mX9_delay.2.2.1 mX9_delay.2.2.2 ∈ ly_G := (ly_in 929 rfl rfl)
theorem cw_X9_delay : Cond.instanceMethod mX9_delay.1 ∈ ly_G ∧ Cond.selects mX9_delay.1.cls mX9_delay.1 mX9_delay.1 ∈ ly_G ∧ Cond.initialized mX9_delay.1.cls ∈ ly_G := ⟨(ly_in 928 (by decide +kernel) (by decide +kernel)), (ly_in 34 (by decide +kernel) (by decide +kernel)), (ly_in 64 (by decide +kernel) (by decide +kernel))⟩
theorem cv_X9_109 : cv_ok RX9 109 mX9_delay 9 0 := ⟨by decide +kernel, Or.inl (ly_in 926 (by decide +kernel) (by decide +kernel)), cw_X9_delay.1, cw_X9_delay.2.1, cw_X9_delay.2.2, cd_X9_delay, by decide +kernel, by decide⟩
set_option maxRecDepth 20000 in
theorem cd_X9_digit : Cond.code mX9_digit.1 mX9_digit.2.1 mX9_digit.2.2.1 mX9_digit.2.2.2 ∈ ly_G := (ly_in 933 rfl rfl)
theorem cw_X9_digit : Cond.instanceMethod mX9_digit.1 ∈ ly_G ∧ Cond.selects mX9_digit.1.cls mX9_digit.1 mX9_digit.1 ∈ ly_G ∧ Cond.initialized mX9_digit.1.cls ∈ ly_G := ⟨(ly_in 932 (by decide +kernel) (by decide +kernel)), (ly_in 35 (by decide +kernel) (by decide +kernel)), (ly_in 64 (by decide +kernel) (by decide +kernel))⟩
theorem cv_X9_112 : cv_ok RX9 112 mX9_digit 9 0 := ⟨by decide +kernel, Or.inl (ly_in 930 (by decide +kernel) (by decide +kernel)), cw_X9_digit.1, cw_X9_digit.2.1, cw_X9_digit.2.2, cd_X9_digit, by decide +kernel, by decide⟩
set_option maxRecDepth 20000 in
theorem cd_X9_load : Cond.code mX9_load.1 mX9_load.2.1 mX9_load.2.2.1 mX9_load.2.2.2 ∈ ly_G := (ly_in 937 rfl rfl)
theorem cw_X9_load : Cond.instanceMethod mX9_load.1 ∈ ly_G ∧ Cond.selects mX9_load.1.cls mX9_load.1 mX9_load.1 ∈ ly_G ∧ Cond.initialized mX9_load.1.cls ∈ ly_G := ⟨(ly_in 935 (by decide +kernel) (by decide +kernel)), (ly_in 936 (by decide +kernel) (by decide +kernel)), (ly_in 64 (by decide +kernel) (by decide +kernel))⟩
theorem cv_L_53 : cv_ok RL 53 mX9_load 9 0 := ⟨by decide +kernel, Or.inl (ly_in 934 (by decide +kernel) (by decide +kernel)), cw_X9_load.1, cw_X9_load.2.1, cw_X9_load.2.2, cd_X9_load, by decide +kernel, by decide⟩
theorem cv_X9_115 : cv_ok RX9 115 mX9_fault 9 0 := ⟨by decide +kernel, Or.inl (ly_in 938 (by decide +kernel) (by decide +kernel)), cw_X9_fault.1, cw_X9_fault.2.1, cw_X9_fault.2.2, cd_X9_fault, by decide +kernel, by decide⟩
set_option maxRecDepth 20000 in
theorem cd_X9_attack : Cond.code mX9_attack.1 mX9_attack.2.1 mX9_attack.2.2.1 mX9_attack.2.2.2 ∈ ly_G := (ly_in 942 rfl rfl)
theorem cw_X9_attack : Cond.instanceMethod mX9_attack.1 ∈ ly_G ∧ Cond.selects mX9_attack.1.cls mX9_attack.1 mX9_attack.1 ∈ ly_G ∧ Cond.initialized mX9_attack.1.cls ∈ ly_G := ⟨(ly_in 940 (by decide +kernel) (by decide +kernel)), (ly_in 941 (by decide +kernel) (by decide +kernel)), (ly_in 64 (by decide +kernel) (by decide +kernel))⟩
theorem cv_L_58 : cv_ok RL 58 mX9_attack 9 2 := ⟨by decide +kernel, Or.inl (ly_in 939 (by decide +kernel) (by decide +kernel)), cw_X9_attack.1, cw_X9_attack.2.1, cw_X9_attack.2.2, cd_X9_attack, by decide +kernel, by decide⟩
set_option maxRecDepth 20000 in
theorem cd_X9_costOf : Cond.code mX9_costOf.1 mX9_costOf.2.1 mX9_costOf.2.2.1 mX9_costOf.2.2.2 ∈ ly_G := (ly_in 946 rfl rfl)
theorem cw_X9_costOf : Cond.instanceMethod mX9_costOf.1 ∈ ly_G ∧ Cond.selects mX9_costOf.1.cls mX9_costOf.1 mX9_costOf.1 ∈ ly_G ∧ Cond.initialized mX9_costOf.1.cls ∈ ly_G := ⟨(ly_in 945 (by decide +kernel) (by decide +kernel)), (ly_in 36 (by decide +kernel) (by decide +kernel)), (ly_in 64 (by decide +kernel) (by decide +kernel))⟩
theorem cv_X9_118 : cv_ok RX9 118 mX9_costOf 9 1 := ⟨by decide +kernel, Or.inl (ly_in 943 (by decide +kernel) (by decide +kernel)), cw_X9_costOf.1, cw_X9_costOf.2.1, cw_X9_costOf.2.2, cd_X9_costOf, by decide +kernel, by decide⟩
set_option maxRecDepth 20000 in
theorem cd_X9_setAttack : Cond.code mX9_setAttack.1 mX9_setAttack.2.1 mX9_setAttack.2.2.1 mX9_setAttack.2.2.2 ∈ ly_G := (ly_in 950 rfl rfl)
theorem cw_X9_setAttack : Cond.instanceMethod mX9_setAttack.1 ∈ ly_G ∧ Cond.selects mX9_setAttack.1.cls mX9_setAttack.1 mX9_setAttack.1 ∈ ly_G ∧ Cond.initialized mX9_setAttack.1.cls ∈ ly_G := ⟨(ly_in 948 (by decide +kernel) (by decide +kernel)), (ly_in 949 (by decide +kernel) (by decide +kernel)), (ly_in 64 (by decide +kernel) (by decide +kernel))⟩
theorem cv_L_62 : cv_ok RL 62 mX9_setAttack 9 1 := ⟨by decide +kernel, Or.inl (ly_in 947 (by decide +kernel) (by decide +kernel)), cw_X9_setAttack.1, cw_X9_setAttack.2.1, cw_X9_setAttack.2.2, cd_X9_setAttack, by decide +kernel, by decide⟩
set_option maxRecDepth 20000 in
theorem cd_X9_isSet : Cond.code mX9_isSet.1 mX9_isSet.2.1 mX9_isSet.2.2.1 mX9_isSet.2.2.2 ∈ ly_G := (ly_in 954 rfl rfl)
theorem cw_X9_isSet : Cond.instanceMethod mX9_isSet.1 ∈ ly_G ∧ Cond.selects mX9_isSet.1.cls mX9_isSet.1 mX9_isSet.1 ∈ ly_G ∧ Cond.initialized mX9_isSet.1.cls ∈ ly_G := ⟨(ly_in 953 (by decide +kernel) (by decide +kernel)), (ly_in 37 (by decide +kernel) (by decide +kernel)), (ly_in 64 (by decide +kernel) (by decide +kernel))⟩
theorem cv_X9_121 : cv_ok RX9 121 mX9_isSet 9 1 := ⟨by decide +kernel, Or.inl (ly_in 951 (by decide +kernel) (by decide +kernel)), cw_X9_isSet.1, cw_X9_isSet.2.1, cw_X9_isSet.2.2, cd_X9_isSet, by decide +kernel, by decide⟩
set_option maxRecDepth 20000 in
theorem cd_X9_distance : Cond.code mX9_distance.1 mX9_distance.2.1 mX9_distance.2.2.1 mX9_distance.2.2.2 ∈ ly_G := (ly_in 958 rfl rfl)
theorem cw_X9_distance : Cond.instanceMethod mX9_distance.1 ∈ ly_G ∧ Cond.selects mX9_distance.1.cls mX9_distance.1 mX9_distance.1 ∈ ly_G ∧ Cond.initialized mX9_distance.1.cls ∈ ly_G := ⟨(ly_in 956 (by decide +kernel) (by decide +kernel)), (ly_in 957 (by decide +kernel) (by decide +kernel)), (ly_in 64 (by decide +kernel) (by decide +kernel))⟩
theorem cv_L_66 : cv_ok RL 66 mX9_distance 9 2 := ⟨by decide +kernel, Or.inl (ly_in 955 (by decide +kernel) (by decide +kernel)), cw_X9_distance.1, cw_X9_distance.2.1, cw_X9_distance.2.2, cd_X9_distance, by decide +kernel, by decide⟩
set_option maxRecDepth 20000 in
theorem cd_X9_far : Cond.code mX9_far.1 mX9_far.2.1 mX9_far.2.2.1 mX9_far.2.2.2 ∈ ly_G := (ly_in 962 rfl rfl)
theorem cw_X9_far : Cond.instanceMethod mX9_far.1 ∈ ly_G ∧ Cond.selects mX9_far.1.cls mX9_far.1 mX9_far.1 ∈ ly_G ∧ Cond.initialized mX9_far.1.cls ∈ ly_G := ⟨(ly_in 961 (by decide +kernel) (by decide +kernel)), (ly_in 38 (by decide +kernel) (by decide +kernel)), (ly_in 64 (by decide +kernel) (by decide +kernel))⟩
theorem cv_X9_134 : cv_ok RX9 134 mX9_far 9 4 := ⟨by decide +kernel, Or.inl (ly_in 959 (by decide +kernel) (by decide +kernel)), cw_X9_far.1, cw_X9_far.2.1, cw_X9_far.2.2, cd_X9_far, by decide +kernel, by decide⟩
set_option maxRecDepth 20000 in
theorem cd_X9_ways : Cond.code mX9_ways.1 mX9_ways.2.1 mX9_ways.2.2.1 mX9_ways.2.2.2 ∈ ly_G := (ly_in 966 rfl rfl)
theorem cw_X9_ways : Cond.instanceMethod mX9_ways.1 ∈ ly_G ∧ Cond.selects mX9_ways.1.cls mX9_ways.1 mX9_ways.1 ∈ ly_G ∧ Cond.initialized mX9_ways.1.cls ∈ ly_G := ⟨(ly_in 965 (by decide +kernel) (by decide +kernel)), (ly_in 39 (by decide +kernel) (by decide +kernel)), (ly_in 64 (by decide +kernel) (by decide +kernel))⟩
theorem cv_X9_130 : cv_ok RX9 130 mX9_ways 9 3 := ⟨by decide +kernel, Or.inl (ly_in 963 (by decide +kernel) (by decide +kernel)), cw_X9_ways.1, cw_X9_ways.2.1, cw_X9_ways.2.2, cd_X9_ways, by decide +kernel, by decide⟩
set_option maxRecDepth 20000 in
theorem cd_X9_lengthOf : Cond.code mX9_lengthOf.1 mX9_lengthOf.2.1 mX9_lengthOf.2.2.1 mX9_lengthOf.2.2.2 ∈ ly_G := (ly_in 970 rfl rfl)
theorem cw_X9_lengthOf : Cond.instanceMethod mX9_lengthOf.1 ∈ ly_G ∧ Cond.selects mX9_lengthOf.1.cls mX9_lengthOf.1 mX9_lengthOf.1 ∈ ly_G ∧ Cond.initialized mX9_lengthOf.1.cls ∈ ly_G := ⟨(ly_in 969 (by decide +kernel) (by decide +kernel)), (ly_in 40 (by decide +kernel) (by decide +kernel)), (ly_in 64 (by decide +kernel) (by decide +kernel))⟩
theorem cv_X9_124 : cv_ok RX9 124 mX9_lengthOf 9 2 := ⟨by decide +kernel, Or.inl (ly_in 967 (by decide +kernel) (by decide +kernel)), cw_X9_lengthOf.1, cw_X9_lengthOf.2.1, cw_X9_lengthOf.2.2, cd_X9_lengthOf, by decide +kernel, by decide⟩
set_option maxRecDepth 20000 in
theorem cd_X9_lessens : Cond.code mX9_lessens.1 mX9_lessens.2.1 mX9_lessens.2.2.1 mX9_lessens.2.2.2 ∈ ly_G := (ly_in 974 rfl rfl)
theorem cw_X9_lessens : Cond.instanceMethod mX9_lessens.1 ∈ ly_G ∧ Cond.selects mX9_lessens.1.cls mX9_lessens.1 mX9_lessens.1 ∈ ly_G ∧ Cond.initialized mX9_lessens.1.cls ∈ ly_G := ⟨(ly_in 973 (by decide +kernel) (by decide +kernel)), (ly_in 41 (by decide +kernel) (by decide +kernel)), (ly_in 64 (by decide +kernel) (by decide +kernel))⟩
theorem cv_X9_127 : cv_ok RX9 127 mX9_lessens 9 2 := ⟨by decide +kernel, Or.inl (ly_in 971 (by decide +kernel) (by decide +kernel)), cw_X9_lessens.1, cw_X9_lessens.2.1, cw_X9_lessens.2.2, cd_X9_lessens, by decide +kernel, by decide⟩
set_option maxRecDepth 20000 in
theorem cd_X9_paths : Cond.code mX9_paths.1 mX9_paths.2.1 mX9_paths.2.2.1 mX9_paths.2.2.2 ∈ ly_G := (ly_in 978 rfl rfl)
theorem cw_X9_paths : Cond.instanceMethod mX9_paths.1 ∈ ly_G ∧ Cond.selects mX9_paths.1.cls mX9_paths.1 mX9_paths.1 ∈ ly_G ∧ Cond.initialized mX9_paths.1.cls ∈ ly_G := ⟨(ly_in 976 (by decide +kernel) (by decide +kernel)), (ly_in 977 (by decide +kernel) (by decide +kernel)), (ly_in 64 (by decide +kernel) (by decide +kernel))⟩
theorem cv_L_74 : cv_ok RL 74 mX9_paths 9 3 := ⟨by decide +kernel, Or.inl (ly_in 975 (by decide +kernel) (by decide +kernel)), cw_X9_paths.1, cw_X9_paths.2.1, cw_X9_paths.2.2, cd_X9_paths, by decide +kernel, by decide⟩
set_option maxRecDepth 20000 in
theorem cd_X9_starts : Cond.code mX9_starts.1 mX9_starts.2.1 mX9_starts.2.2.1 mX9_starts.2.2.2 ∈ ly_G := (ly_in 982 rfl rfl)
theorem cw_X9_starts : Cond.instanceMethod mX9_starts.1 ∈ ly_G ∧ Cond.selects mX9_starts.1.cls mX9_starts.1 mX9_starts.1 ∈ ly_G ∧ Cond.initialized mX9_starts.1.cls ∈ ly_G := ⟨(ly_in 981 (by decide +kernel) (by decide +kernel)), (ly_in 42 (by decide +kernel) (by decide +kernel)), (ly_in 64 (by decide +kernel) (by decide +kernel))⟩
theorem cv_X9_156 : cv_ok RX9 156 mX9_starts 9 1 := ⟨by decide +kernel, Or.inl (ly_in 979 (by decide +kernel) (by decide +kernel)), cw_X9_starts.1, cw_X9_starts.2.1, cw_X9_starts.2.2, cd_X9_starts, by decide +kernel, by decide⟩
set_option maxRecDepth 20000 in
theorem cd_X9_nextPath : Cond.code mX9_nextPath.1 mX9_nextPath.2.1 mX9_nextPath.2.2.1 mX9_nextPath.2.2.2 ∈ ly_G := (ly_in 986 rfl rfl)
theorem cw_X9_nextPath : Cond.instanceMethod mX9_nextPath.1 ∈ ly_G ∧ Cond.selects mX9_nextPath.1.cls mX9_nextPath.1 mX9_nextPath.1 ∈ ly_G ∧ Cond.initialized mX9_nextPath.1.cls ∈ ly_G := ⟨(ly_in 985 (by decide +kernel) (by decide +kernel)), (ly_in 43 (by decide +kernel) (by decide +kernel)), (ly_in 64 (by decide +kernel) (by decide +kernel))⟩
theorem cv_X9_159 : cv_ok RX9 159 mX9_nextPath 9 3 := ⟨by decide +kernel, Or.inl (ly_in 983 (by decide +kernel) (by decide +kernel)), cw_X9_nextPath.1, cw_X9_nextPath.2.1, cw_X9_nextPath.2.2, cd_X9_nextPath, by decide +kernel, by decide⟩
set_option maxRecDepth 20000 in
theorem cd_X9_lastNode : Cond.code mX9_lastNode.1 mX9_lastNode.2.1 mX9_lastNode.2.2.1 mX9_lastNode.2.2.2 ∈ ly_G := (ly_in 990 rfl rfl)
theorem cw_X9_lastNode : Cond.instanceMethod mX9_lastNode.1 ∈ ly_G ∧ Cond.selects mX9_lastNode.1.cls mX9_lastNode.1 mX9_lastNode.1 ∈ ly_G ∧ Cond.initialized mX9_lastNode.1.cls ∈ ly_G := ⟨(ly_in 989 (by decide +kernel) (by decide +kernel)), (ly_in 44 (by decide +kernel) (by decide +kernel)), (ly_in 64 (by decide +kernel) (by decide +kernel))⟩
theorem cv_X9_147 : cv_ok RX9 147 mX9_lastNode 9 1 := ⟨by decide +kernel, Or.inl (ly_in 987 (by decide +kernel) (by decide +kernel)), cw_X9_lastNode.1, cw_X9_lastNode.2.1, cw_X9_lastNode.2.2, cd_X9_lastNode, by decide +kernel, by decide⟩
set_option maxRecDepth 20000 in
theorem cd_X9_back : Cond.code mX9_back.1 mX9_back.2.1 mX9_back.2.2.1 mX9_back.2.2.2 ∈ ly_G := (ly_in 994 rfl rfl)
theorem cw_X9_back : Cond.instanceMethod mX9_back.1 ∈ ly_G ∧ Cond.selects mX9_back.1.cls mX9_back.1 mX9_back.1 ∈ ly_G ∧ Cond.initialized mX9_back.1.cls ∈ ly_G := ⟨(ly_in 993 (by decide +kernel) (by decide +kernel)), (ly_in 45 (by decide +kernel) (by decide +kernel)), (ly_in 64 (by decide +kernel) (by decide +kernel))⟩
theorem cv_X9_150 : cv_ok RX9 150 mX9_back 9 0 := ⟨by decide +kernel, Or.inl (ly_in 991 (by decide +kernel) (by decide +kernel)), cw_X9_back.1, cw_X9_back.2.1, cw_X9_back.2.2, cd_X9_back, by decide +kernel, by decide⟩
set_option maxRecDepth 20000 in
theorem cd_X9_forth : Cond.code mX9_forth.1 mX9_forth.2.1 mX9_forth.2.2.1 mX9_forth.2.2.2 ∈ ly_G := (ly_in 998 rfl rfl)
theorem cw_X9_forth : Cond.instanceMethod mX9_forth.1 ∈ ly_G ∧ Cond.selects mX9_forth.1.cls mX9_forth.1 mX9_forth.1 ∈ ly_G ∧ Cond.initialized mX9_forth.1.cls ∈ ly_G := ⟨(ly_in 997 (by decide +kernel) (by decide +kernel)), (ly_in 46 (by decide +kernel) (by decide +kernel)), (ly_in 64 (by decide +kernel) (by decide +kernel))⟩
theorem cv_X9_153 : cv_ok RX9 153 mX9_forth 9 2 := ⟨by decide +kernel, Or.inl (ly_in 995 (by decide +kernel) (by decide +kernel)), cw_X9_forth.1, cw_X9_forth.2.1, cw_X9_forth.2.2, cd_X9_forth, by decide +kernel, by decide⟩
set_option maxRecDepth 20000 in
theorem cd_X9_pathLength : Cond.code mX9_pathLength.1 mX9_pathLength.2.1 mX9_pathLength.2.2.1 mX9_pathLength.2.2.2 ∈ ly_G := (ly_in 1002 rfl rfl)
theorem cw_X9_pathLength : Cond.instanceMethod mX9_pathLength.1 ∈ ly_G ∧ Cond.selects mX9_pathLength.1.cls mX9_pathLength.1 mX9_pathLength.1 ∈ ly_G ∧ Cond.initialized mX9_pathLength.1.cls ∈ ly_G := ⟨(ly_in 1000 (by decide +kernel) (by decide +kernel)), (ly_in 1001 (by decide +kernel) (by decide +kernel)), (ly_in 64 (by decide +kernel) (by decide +kernel))⟩
theorem cv_L_78 : cv_ok RL 78 mX9_pathLength 9 3 := ⟨by decide +kernel, Or.inl (ly_in 999 (by decide +kernel) (by decide +kernel)), cw_X9_pathLength.1, cw_X9_pathLength.2.1, cw_X9_pathLength.2.2, cd_X9_pathLength, by decide +kernel, by decide⟩
set_option maxRecDepth 20000 in
theorem cd_X9_first : Cond.code mX9_first.1 mX9_first.2.1 mX9_first.2.2.1 mX9_first.2.2.2 ∈ ly_G := (ly_in 1006 rfl rfl)
theorem cw_X9_first : Cond.instanceMethod mX9_first.1 ∈ ly_G ∧ Cond.selects mX9_first.1.cls mX9_first.1 mX9_first.1 ∈ ly_G ∧ Cond.initialized mX9_first.1.cls ∈ ly_G := ⟨(ly_in 1004 (by decide +kernel) (by decide +kernel)), (ly_in 1005 (by decide +kernel) (by decide +kernel)), (ly_in 64 (by decide +kernel) (by decide +kernel))⟩
theorem cv_L_70 : cv_ok RL 70 mX9_first 9 3 := ⟨by decide +kernel, Or.inl (ly_in 1003 (by decide +kernel) (by decide +kernel)), cw_X9_first.1, cw_X9_first.2.1, cw_X9_first.2.2, cd_X9_first, by decide +kernel, by decide⟩
set_option maxRecDepth 20000 in
theorem cd_X9_tight : Cond.code mX9_tight.1 mX9_tight.2.1 mX9_tight.2.2.1 mX9_tight.2.2.2 ∈ ly_G := (ly_in 1010 rfl rfl)
theorem cw_X9_tight : Cond.instanceMethod mX9_tight.1 ∈ ly_G ∧ Cond.selects mX9_tight.1.cls mX9_tight.1 mX9_tight.1 ∈ ly_G ∧ Cond.initialized mX9_tight.1.cls ∈ ly_G := ⟨(ly_in 1008 (by decide +kernel) (by decide +kernel)), (ly_in 1009 (by decide +kernel) (by decide +kernel)), (ly_in 64 (by decide +kernel) (by decide +kernel))⟩
theorem cv_L_82 : cv_ok RL 82 mX9_tight 9 2 := ⟨by decide +kernel, Or.inl (ly_in 1007 (by decide +kernel) (by decide +kernel)), cw_X9_tight.1, cw_X9_tight.2.1, cw_X9_tight.2.2, cd_X9_tight, by decide +kernel, by decide⟩
set_option maxRecDepth 20000 in
theorem cd_X9_interdict : Cond.code mX9_interdict.1 mX9_interdict.2.1 mX9_interdict.2.2.1 mX9_interdict.2.2.2 ∈ ly_G := (ly_in 1014 rfl rfl)
theorem cw_X9_interdict : Cond.instanceMethod mX9_interdict.1 ∈ ly_G ∧ Cond.selects mX9_interdict.1.cls mX9_interdict.1 mX9_interdict.1 ∈ ly_G ∧ Cond.initialized mX9_interdict.1.cls ∈ ly_G := ⟨(ly_in 1012 (by decide +kernel) (by decide +kernel)), (ly_in 1013 (by decide +kernel) (by decide +kernel)), (ly_in 64 (by decide +kernel) (by decide +kernel))⟩
theorem cv_L_86 : cv_ok RL 86 mX9_interdict 9 3 := ⟨by decide +kernel, Or.inl (ly_in 1011 (by decide +kernel) (by decide +kernel)), cw_X9_interdict.1, cw_X9_interdict.2.1, cw_X9_interdict.2.2, cd_X9_interdict, by decide +kernel, by decide⟩
set_option maxRecDepth 20000 in
theorem cd_X9_bestFar : Cond.code mX9_bestFar.1 mX9_bestFar.2.1 mX9_bestFar.2.2.1 mX9_bestFar.2.2.2 ∈ ly_G := (ly_in 1018 rfl rfl)
theorem cw_X9_bestFar : Cond.instanceMethod mX9_bestFar.1 ∈ ly_G ∧ Cond.selects mX9_bestFar.1.cls mX9_bestFar.1 mX9_bestFar.1 ∈ ly_G ∧ Cond.initialized mX9_bestFar.1.cls ∈ ly_G := ⟨(ly_in 1017 (by decide +kernel) (by decide +kernel)), (ly_in 47 (by decide +kernel) (by decide +kernel)), (ly_in 64 (by decide +kernel) (by decide +kernel))⟩
theorem cv_X9_166 : cv_ok RX9 166 mX9_bestFar 9 5 := ⟨by decide +kernel, Or.inl (ly_in 1015 (by decide +kernel) (by decide +kernel)), cw_X9_bestFar.1, cw_X9_bestFar.2.1, cw_X9_bestFar.2.2, cd_X9_bestFar, by decide +kernel, by decide⟩
set_option maxRecDepth 20000 in
theorem cd_X9_greedy : Cond.code mX9_greedy.1 mX9_greedy.2.1 mX9_greedy.2.2.1 mX9_greedy.2.2.2 ∈ ly_G := (ly_in 1022 rfl rfl)
theorem cw_X9_greedy : Cond.instanceMethod mX9_greedy.1 ∈ ly_G ∧ Cond.selects mX9_greedy.1.cls mX9_greedy.1 mX9_greedy.1 ∈ ly_G ∧ Cond.initialized mX9_greedy.1.cls ∈ ly_G := ⟨(ly_in 1020 (by decide +kernel) (by decide +kernel)), (ly_in 1021 (by decide +kernel) (by decide +kernel)), (ly_in 64 (by decide +kernel) (by decide +kernel))⟩
theorem cv_L_90 : cv_ok RL 90 mX9_greedy 9 3 := ⟨by decide +kernel, Or.inl (ly_in 1019 (by decide +kernel) (by decide +kernel)), cw_X9_greedy.1, cw_X9_greedy.2.1, cw_X9_greedy.2.2, cd_X9_greedy, by decide +kernel, by decide⟩
set_option maxRecDepth 20000 in
theorem cd_X9_step : Cond.code mX9_step.1 mX9_step.2.1 mX9_step.2.2.1 mX9_step.2.2.2 ∈ ly_G := (ly_in 1026 rfl rfl)
theorem cw_X9_step : Cond.instanceMethod mX9_step.1 ∈ ly_G ∧ Cond.selects mX9_step.1.cls mX9_step.1 mX9_step.1 ∈ ly_G ∧ Cond.initialized mX9_step.1.cls ∈ ly_G := ⟨(ly_in 1025 (by decide +kernel) (by decide +kernel)), (ly_in 48 (by decide +kernel) (by decide +kernel)), (ly_in 64 (by decide +kernel) (by decide +kernel))⟩
theorem cv_X9_170 : cv_ok RX9 170 mX9_step 9 4 := ⟨by decide +kernel, Or.inl (ly_in 1023 (by decide +kernel) (by decide +kernel)), cw_X9_step.1, cw_X9_step.2.1, cw_X9_step.2.2, cd_X9_step, by decide +kernel, by decide⟩
set_option maxRecDepth 20000 in
theorem cd_X9_budgetFor : Cond.code mX9_budgetFor.1 mX9_budgetFor.2.1 mX9_budgetFor.2.2.1 mX9_budgetFor.2.2.2 ∈ ly_G := (ly_in 1030 rfl rfl)
theorem cw_X9_budgetFor : Cond.instanceMethod mX9_budgetFor.1 ∈ ly_G ∧ Cond.selects mX9_budgetFor.1.cls mX9_budgetFor.1 mX9_budgetFor.1 ∈ ly_G ∧ Cond.initialized mX9_budgetFor.1.cls ∈ ly_G := ⟨(ly_in 1028 (by decide +kernel) (by decide +kernel)), (ly_in 1029 (by decide +kernel) (by decide +kernel)), (ly_in 64 (by decide +kernel) (by decide +kernel))⟩
theorem cv_L_94 : cv_ok RL 94 mX9_budgetFor 9 3 := ⟨by decide +kernel, Or.inl (ly_in 1027 (by decide +kernel) (by decide +kernel)), cw_X9_budgetFor.1, cw_X9_budgetFor.2.1, cw_X9_budgetFor.2.2, cd_X9_budgetFor, by decide +kernel, by decide⟩
set_option maxRecDepth 20000 in
theorem cd_X9_blockade : Cond.code mX9_blockade.1 mX9_blockade.2.1 mX9_blockade.2.2.1 mX9_blockade.2.2.2 ∈ ly_G := (ly_in 1034 rfl rfl)
theorem cw_X9_blockade : Cond.instanceMethod mX9_blockade.1 ∈ ly_G ∧ Cond.selects mX9_blockade.1.cls mX9_blockade.1 mX9_blockade.1 ∈ ly_G ∧ Cond.initialized mX9_blockade.1.cls ∈ ly_G := ⟨(ly_in 1032 (by decide +kernel) (by decide +kernel)), (ly_in 1033 (by decide +kernel) (by decide +kernel)), (ly_in 64 (by decide +kernel) (by decide +kernel))⟩
theorem cv_L_98 : cv_ok RL 98 mX9_blockade 9 2 := ⟨by decide +kernel, Or.inl (ly_in 1031 (by decide +kernel) (by decide +kernel)), cw_X9_blockade.1, cw_X9_blockade.2.1, cw_X9_blockade.2.2, cd_X9_blockade, by decide +kernel, by decide⟩
set_option maxRecDepth 20000 in
theorem cd_X9_respond : Cond.code mX9_respond.1 mX9_respond.2.1 mX9_respond.2.2.1 mX9_respond.2.2.2 ∈ ly_G := (ly_in 1038 rfl rfl)
theorem cw_X9_respond : Cond.instanceMethod mX9_respond.1 ∈ ly_G ∧ Cond.selects mX9_respond.1.cls mX9_respond.1 mX9_respond.1 ∈ ly_G ∧ Cond.initialized mX9_respond.1.cls ∈ ly_G := ⟨(ly_in 1036 (by decide +kernel) (by decide +kernel)), (ly_in 1037 (by decide +kernel) (by decide +kernel)), (ly_in 64 (by decide +kernel) (by decide +kernel))⟩
theorem cv_L_103 : cv_ok RL 103 mX9_respond 9 4 := ⟨by decide +kernel, Or.inl (ly_in 1035 (by decide +kernel) (by decide +kernel)), cw_X9_respond.1, cw_X9_respond.2.1, cw_X9_respond.2.2, cd_X9_respond, by decide +kernel, by decide⟩
set_option maxRecDepth 20000 in
theorem cd_X9_interdictResponse : Cond.code mX9_interdictResponse.1 mX9_interdictResponse.2.1 mX9_interdictResponse.2.2.1 mX9_interdictResponse.2.2.2 ∈ ly_G := (ly_in 1042 rfl rfl)
theorem cw_X9_interdictResponse : Cond.instanceMethod mX9_interdictResponse.1 ∈ ly_G ∧ Cond.selects mX9_interdictResponse.1.cls mX9_interdictResponse.1 mX9_interdictResponse.1 ∈ ly_G ∧ Cond.initialized mX9_interdictResponse.1.cls ∈ ly_G := ⟨(ly_in 1040 (by decide +kernel) (by decide +kernel)), (ly_in 1041 (by decide +kernel) (by decide +kernel)), (ly_in 64 (by decide +kernel) (by decide +kernel))⟩
theorem cv_L_107 : cv_ok RL 107 mX9_interdictResponse 9 4 := ⟨by decide +kernel, Or.inl (ly_in 1039 (by decide +kernel) (by decide +kernel)), cw_X9_interdictResponse.1, cw_X9_interdictResponse.2.1, cw_X9_interdictResponse.2.2, cd_X9_interdictResponse, by decide +kernel, by decide⟩
set_option maxRecDepth 20000 in
theorem cd_X9_fortify : Cond.code mX9_fortify.1 mX9_fortify.2.1 mX9_fortify.2.2.1 mX9_fortify.2.2.2 ∈ ly_G := (ly_in 1046 rfl rfl)
theorem cw_X9_fortify : Cond.instanceMethod mX9_fortify.1 ∈ ly_G ∧ Cond.selects mX9_fortify.1.cls mX9_fortify.1 mX9_fortify.1 ∈ ly_G ∧ Cond.initialized mX9_fortify.1.cls ∈ ly_G := ⟨(ly_in 1044 (by decide +kernel) (by decide +kernel)), (ly_in 1045 (by decide +kernel) (by decide +kernel)), (ly_in 64 (by decide +kernel) (by decide +kernel))⟩
theorem cv_L_111 : cv_ok RL 111 mX9_fortify 9 4 := ⟨by decide +kernel, Or.inl (ly_in 1043 (by decide +kernel) (by decide +kernel)), cw_X9_fortify.1, cw_X9_fortify.2.1, cw_X9_fortify.2.2, cd_X9_fortify, by decide +kernel, by decide⟩
set_option maxRecDepth 20000 in
theorem cd_X9_many : Cond.code mX9_many.1 mX9_many.2.1 mX9_many.2.2.1 mX9_many.2.2.2 ∈ ly_G := (ly_in 1049 rfl rfl)
theorem cw_X9_many : Cond.static mX9_many.1 ∈ ly_G ∧ Cond.initialized mX9_many.1.cls ∈ ly_G := ⟨(ly_in 1048 (by decide +kernel) (by decide +kernel)), (ly_in 64 (by decide +kernel) (by decide +kernel))⟩
theorem cs_X9_173 : cs_ok RX9 173 mX9_many 1 := ⟨Or.inl (ly_in 1047 (by decide +kernel) (by decide +kernel)), cw_X9_many.1, cw_X9_many.2, cd_X9_many, by decide +kernel, by decide⟩
set_option maxRecDepth 20000 in
theorem cd_X9_finding : Cond.code mX9_finding.1 mX9_finding.2.1 mX9_finding.2.2.1 mX9_finding.2.2.2 ∈ ly_G := (ly_in 1053 rfl rfl)
theorem cw_X9_finding : Cond.instanceMethod mX9_finding.1 ∈ ly_G ∧ Cond.selects mX9_finding.1.cls mX9_finding.1 mX9_finding.1 ∈ ly_G ∧ Cond.initialized mX9_finding.1.cls ∈ ly_G := ⟨(ly_in 1051 (by decide +kernel) (by decide +kernel)), (ly_in 1052 (by decide +kernel) (by decide +kernel)), (ly_in 64 (by decide +kernel) (by decide +kernel))⟩
theorem cv_L_115 : cv_ok RL 115 mX9_finding 9 0 := ⟨by decide +kernel, Or.inl (ly_in 1050 (by decide +kernel) (by decide +kernel)), cw_X9_finding.1, cw_X9_finding.2.1, cw_X9_finding.2.2, cd_X9_finding, by decide +kernel, by decide⟩
set_option maxRecDepth 20000 in
theorem cd_X9_worth : Cond.code mX9_worth.1 mX9_worth.2.1 mX9_worth.2.2.1 mX9_worth.2.2.2 ∈ ly_G := (ly_in 1057 rfl rfl)
theorem cw_X9_worth : Cond.instanceMethod mX9_worth.1 ∈ ly_G ∧ Cond.selects mX9_worth.1.cls mX9_worth.1 mX9_worth.1 ∈ ly_G ∧ Cond.initialized mX9_worth.1.cls ∈ ly_G := ⟨(ly_in 1055 (by decide +kernel) (by decide +kernel)), (ly_in 1056 (by decide +kernel) (by decide +kernel)), (ly_in 64 (by decide +kernel) (by decide +kernel))⟩
theorem cv_L_119 : cv_ok RL 119 mX9_worth 9 3 := ⟨by decide +kernel, Or.inl (ly_in 1054 (by decide +kernel) (by decide +kernel)), cw_X9_worth.1, cw_X9_worth.2.1, cw_X9_worth.2.2, cd_X9_worth, by decide +kernel, by decide⟩
set_option maxRecDepth 20000 in
theorem cd_X9_neverHelps : Cond.code mX9_neverHelps.1 mX9_neverHelps.2.1 mX9_neverHelps.2.2.1 mX9_neverHelps.2.2.2 ∈ ly_G := (ly_in 1061 rfl rfl)
theorem cw_X9_neverHelps : Cond.instanceMethod mX9_neverHelps.1 ∈ ly_G ∧ Cond.selects mX9_neverHelps.1.cls mX9_neverHelps.1 mX9_neverHelps.1 ∈ ly_G ∧ Cond.initialized mX9_neverHelps.1.cls ∈ ly_G := ⟨(ly_in 1059 (by decide +kernel) (by decide +kernel)), (ly_in 1060 (by decide +kernel) (by decide +kernel)), (ly_in 64 (by decide +kernel) (by decide +kernel))⟩
theorem cv_L_123 : cv_ok RL 123 mX9_neverHelps 9 3 := ⟨by decide +kernel, Or.inl (ly_in 1058 (by decide +kernel) (by decide +kernel)), cw_X9_neverHelps.1, cw_X9_neverHelps.2.1, cw_X9_neverHelps.2.2, cd_X9_neverHelps, by decide +kernel, by decide⟩
set_option maxRecDepth 20000 in
theorem cd_X9_expected : Cond.code mX9_expected.1 mX9_expected.2.1 mX9_expected.2.2.1 mX9_expected.2.2.2 ∈ ly_G := (ly_in 1065 rfl rfl)
theorem cw_X9_expected : Cond.instanceMethod mX9_expected.1 ∈ ly_G ∧ Cond.selects mX9_expected.1.cls mX9_expected.1 mX9_expected.1 ∈ ly_G ∧ Cond.initialized mX9_expected.1.cls ∈ ly_G := ⟨(ly_in 1063 (by decide +kernel) (by decide +kernel)), (ly_in 1064 (by decide +kernel) (by decide +kernel)), (ly_in 64 (by decide +kernel) (by decide +kernel))⟩
theorem cv_L_128 : cv_ok RL 128 mX9_expected 9 4 := ⟨by decide +kernel, Or.inl (ly_in 1062 (by decide +kernel) (by decide +kernel)), cw_X9_expected.1, cw_X9_expected.2.1, cw_X9_expected.2.2, cd_X9_expected, by decide +kernel, by decide⟩
set_option maxRecDepth 20000 in
theorem cd_X9_isAsked : Cond.code mX9_isAsked.1 mX9_isAsked.2.1 mX9_isAsked.2.2.1 mX9_isAsked.2.2.2 ∈ ly_G := (ly_in 1069 rfl rfl)
theorem cw_X9_isAsked : Cond.instanceMethod mX9_isAsked.1 ∈ ly_G ∧ Cond.selects mX9_isAsked.1.cls mX9_isAsked.1 mX9_isAsked.1 ∈ ly_G ∧ Cond.initialized mX9_isAsked.1.cls ∈ ly_G := ⟨(ly_in 1068 (by decide +kernel) (by decide +kernel)), (ly_in 49 (by decide +kernel) (by decide +kernel)), (ly_in 64 (by decide +kernel) (by decide +kernel))⟩
theorem cv_X9_180 : cv_ok RX9 180 mX9_isAsked 9 4 := ⟨by decide +kernel, Or.inl (ly_in 1066 (by decide +kernel) (by decide +kernel)), cw_X9_isAsked.1, cw_X9_isAsked.2.1, cw_X9_isAsked.2.2, cd_X9_isAsked, by decide +kernel, by decide⟩
set_option maxRecDepth 20000 in
theorem cd_X9_sum : Cond.code mX9_sum.1 mX9_sum.2.1 mX9_sum.2.2.1 mX9_sum.2.2.2 ∈ ly_G := (ly_in 1073 rfl rfl)
theorem cw_X9_sum : Cond.instanceMethod mX9_sum.1 ∈ ly_G ∧ Cond.selects mX9_sum.1.cls mX9_sum.1 mX9_sum.1 ∈ ly_G ∧ Cond.initialized mX9_sum.1.cls ∈ ly_G := ⟨(ly_in 1072 (by decide +kernel) (by decide +kernel)), (ly_in 50 (by decide +kernel) (by decide +kernel)), (ly_in 64 (by decide +kernel) (by decide +kernel))⟩
theorem cv_X9_184 : cv_ok RX9 184 mX9_sum 9 5 := ⟨by decide +kernel, Or.inl (ly_in 1070 (by decide +kernel) (by decide +kernel)), cw_X9_sum.1, cw_X9_sum.2.1, cw_X9_sum.2.2, cd_X9_sum, by decide +kernel, by decide⟩
set_option maxRecDepth 20000 in
theorem cd_X9_power : Cond.code mX9_power.1 mX9_power.2.1 mX9_power.2.2.1 mX9_power.2.2.2 ∈ ly_G := (ly_in 1076 rfl rfl)
theorem cw_X9_power : Cond.static mX9_power.1 ∈ ly_G ∧ Cond.initialized mX9_power.1.cls ∈ ly_G := ⟨(ly_in 1075 (by decide +kernel) (by decide +kernel)), (ly_in 64 (by decide +kernel) (by decide +kernel))⟩
theorem cs_X9_176 : cs_ok RX9 176 mX9_power 2 := ⟨Or.inl (ly_in 1074 (by decide +kernel) (by decide +kernel)), cw_X9_power.1, cw_X9_power.2, cd_X9_power, by decide +kernel, by decide⟩
set_option maxRecDepth 20000 in
theorem cd_X9_lost : Cond.code mX9_lost.1 mX9_lost.2.1 mX9_lost.2.2.1 mX9_lost.2.2.2 ∈ ly_G := (ly_in 1081 rfl rfl)
theorem cw_X9_lost : Cond.instanceMethod mX9_lost.1 ∈ ly_G ∧ Cond.selects mX9_lost.1.cls mX9_lost.1 mX9_lost.1 ∈ ly_G ∧ Cond.initialized mX9_lost.1.cls ∈ ly_G := ⟨(ly_in 1079 (by decide +kernel) (by decide +kernel)), (ly_in 1080 (by decide +kernel) (by decide +kernel)), (ly_in 64 (by decide +kernel) (by decide +kernel))⟩
theorem cv_L_132 : cv_ok RL 132 mX9_lost 9 4 := ⟨by decide +kernel, Or.inl (ly_in 1078 (by decide +kernel) (by decide +kernel)), cw_X9_lost.1, cw_X9_lost.2.1, cw_X9_lost.2.2, cd_X9_lost, by decide +kernel, by decide⟩
set_option maxRecDepth 20000 in
theorem cd_X9_count : Cond.code mX9_count.1 mX9_count.2.1 mX9_count.2.2.1 mX9_count.2.2.2 ∈ ly_G := (ly_in 1085 rfl rfl)
theorem cw_X9_count : Cond.instanceMethod mX9_count.1 ∈ ly_G ∧ Cond.selects mX9_count.1.cls mX9_count.1 mX9_count.1 ∈ ly_G ∧ Cond.initialized mX9_count.1.cls ∈ ly_G := ⟨(ly_in 1083 (by decide +kernel) (by decide +kernel)), (ly_in 1084 (by decide +kernel) (by decide +kernel)), (ly_in 64 (by decide +kernel) (by decide +kernel))⟩
theorem cv_L_140 : cv_ok RL 140 mX9_count 9 1 := ⟨by decide +kernel, Or.inl (ly_in 1082 (by decide +kernel) (by decide +kernel)), cw_X9_count.1, cw_X9_count.2.1, cw_X9_count.2.2, cd_X9_count, by decide +kernel, by decide⟩
set_option maxRecDepth 20000 in
theorem cd_X9_lengths : Cond.code mX9_lengths.1 mX9_lengths.2.1 mX9_lengths.2.2.1 mX9_lengths.2.2.2 ∈ ly_G := (ly_in 1089 rfl rfl)
theorem cw_X9_lengths : Cond.instanceMethod mX9_lengths.1 ∈ ly_G ∧ Cond.selects mX9_lengths.1.cls mX9_lengths.1 mX9_lengths.1 ∈ ly_G ∧ Cond.initialized mX9_lengths.1.cls ∈ ly_G := ⟨(ly_in 1088 (by decide +kernel) (by decide +kernel)), (ly_in 51 (by decide +kernel) (by decide +kernel)), (ly_in 64 (by decide +kernel) (by decide +kernel))⟩
theorem cv_X9_190 : cv_ok RX9 190 mX9_lengths 9 0 := ⟨by decide +kernel, Or.inl (ly_in 1086 (by decide +kernel) (by decide +kernel)), cw_X9_lengths.1, cw_X9_lengths.2.1, cw_X9_lengths.2.2, cd_X9_lengths, by decide +kernel, by decide⟩
set_option maxRecDepth 20000 in
theorem cd_X9_reachable : Cond.code mX9_reachable.1 mX9_reachable.2.1 mX9_reachable.2.2.1 mX9_reachable.2.2.2 ∈ ly_G := (ly_in 1093 rfl rfl)
theorem cw_X9_reachable : Cond.instanceMethod mX9_reachable.1 ∈ ly_G ∧ Cond.selects mX9_reachable.1.cls mX9_reachable.1 mX9_reachable.1 ∈ ly_G ∧ Cond.initialized mX9_reachable.1.cls ∈ ly_G := ⟨(ly_in 1092 (by decide +kernel) (by decide +kernel)), (ly_in 52 (by decide +kernel) (by decide +kernel)), (ly_in 64 (by decide +kernel) (by decide +kernel))⟩
theorem cv_X9_192 : cv_ok RX9 192 mX9_reachable 9 0 := ⟨by decide +kernel, Or.inl (ly_in 1090 (by decide +kernel) (by decide +kernel)), cw_X9_reachable.1, cw_X9_reachable.2.1, cw_X9_reachable.2.2, cd_X9_reachable, by decide +kernel, by decide⟩
set_option maxRecDepth 20000 in
theorem cd_X9_digest : Cond.code mX9_digest.1 mX9_digest.2.1 mX9_digest.2.2.1 mX9_digest.2.2.2 ∈ ly_G := (ly_in 1097 rfl rfl)
theorem cw_X9_digest : Cond.instanceMethod mX9_digest.1 ∈ ly_G ∧ Cond.selects mX9_digest.1.cls mX9_digest.1 mX9_digest.1 ∈ ly_G ∧ Cond.initialized mX9_digest.1.cls ∈ ly_G := ⟨(ly_in 1095 (by decide +kernel) (by decide +kernel)), (ly_in 1096 (by decide +kernel) (by decide +kernel)), (ly_in 64 (by decide +kernel) (by decide +kernel))⟩
theorem cv_L_145 : cv_ok RL 145 mX9_digest 9 0 := ⟨by decide +kernel, Or.inl (ly_in 1094 (by decide +kernel) (by decide +kernel)), cw_X9_digest.1, cw_X9_digest.2.1, cw_X9_digest.2.2, cd_X9_digest, by decide +kernel, by decide⟩
theorem cv_X9_203 : cv_ok RX9 203 mX9_count 9 1 := ⟨by decide +kernel, Or.inl (ly_in 1099 (by decide +kernel) (by decide +kernel)), cw_X9_count.1, cw_X9_count.2.1, cw_X9_count.2.2, cd_X9_count, by decide +kernel, by decide⟩
set_option maxRecDepth 20000 in
theorem cd_X9_mixes : Cond.code mX9_mixes.1 mX9_mixes.2.1 mX9_mixes.2.2.1 mX9_mixes.2.2.2 ∈ ly_G := (ly_in 1103 rfl rfl)
theorem cw_X9_mixes : Cond.instanceMethod mX9_mixes.1 ∈ ly_G ∧ Cond.selects mX9_mixes.1.cls mX9_mixes.1 mX9_mixes.1 ∈ ly_G ∧ Cond.initialized mX9_mixes.1.cls ∈ ly_G := ⟨(ly_in 1102 (by decide +kernel) (by decide +kernel)), (ly_in 53 (by decide +kernel) (by decide +kernel)), (ly_in 64 (by decide +kernel) (by decide +kernel))⟩
theorem cv_X9_206 : cv_ok RX9 206 mX9_mixes 9 1 := ⟨by decide +kernel, Or.inl (ly_in 1100 (by decide +kernel) (by decide +kernel)), cw_X9_mixes.1, cw_X9_mixes.2.1, cw_X9_mixes.2.2, cd_X9_mixes, by decide +kernel, by decide⟩
theorem cv_X9_209 : cv_ok RX9 209 mX9_edge 9 2 := ⟨by decide +kernel, Or.inl (ly_in 1105 (by decide +kernel) (by decide +kernel)), cw_X9_edge.1, cw_X9_edge.2.1, cw_X9_edge.2.2, cd_X9_edge, by decide +kernel, by decide⟩
theorem cv_X9_212 : cv_ok RX9 212 mX9_distance 9 2 := ⟨by decide +kernel, Or.inl (ly_in 1106 (by decide +kernel) (by decide +kernel)), cw_X9_distance.1, cw_X9_distance.2.1, cw_X9_distance.2.2, cd_X9_distance, by decide +kernel, by decide⟩
