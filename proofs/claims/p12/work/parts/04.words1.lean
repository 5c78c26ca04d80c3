set_option maxRecDepth 100000 in
theorem km_X9_76 : Cond.methodLink RX9 76 yX9_isInBounds ∈ tb := tb_mem 423 (by decide +kernel) rfl
set_option maxRecDepth 100000 in
theorem ks_X9_isInBounds : Cond.static yX9_isInBounds ∈ tb := tb_mem 424 (by decide +kernel) rfl
set_option maxRecDepth 100000 in
theorem kd_X9_isInBounds : Cond.code yX9_isInBounds cX9_isInBounds 2 (some .boolean) ∈ tb := tb_mem 425 rfl rfl
set_option maxRecDepth 100000 in
theorem kf_X9_84 : Cond.fieldLink RX9 84 "TowerAppeal$TrustReader" "LEAST" "[I" ∈ tb := tb_mem 426 (by decide +kernel) rfl
set_option maxRecDepth 100000 in
theorem kf_X9_87 : Cond.fieldLink RX9 87 "TowerAppeal$TrustReader" "MOST" "[I" ∈ tb := tb_mem 428 (by decide +kernel) rfl
set_option maxRecDepth 100000 in
theorem km_X10_84 : Cond.methodLink RX10 84 yX9_draft ∈ tb := tb_mem 430 (by decide +kernel) rfl
set_option maxRecDepth 100000 in
theorem kj_X9_draft : Cond.instanceMethod yX9_draft ∈ tb := tb_mem 431 (by decide +kernel) rfl
set_option maxRecDepth 100000 in
theorem kl_X9_draft : Cond.selects RX9 yX9_draft yX9_draft ∈ tb := tb_mem 432 (by decide +kernel) rfl
set_option maxRecDepth 100000 in
theorem kd_X9_draft : Cond.code yX9_draft cX9_draft 1 (some (.object "TowerAppeal$Trust")) ∈ tb := tb_mem 433 rfl rfl
set_option maxRecDepth 100000 in
theorem km_X10_88 : Cond.methodLink RX10 88 yX8_takeOver ∈ tb := tb_mem 434 (by decide +kernel) rfl
set_option maxRecDepth 100000 in
theorem kj_X8_takeOver : Cond.instanceMethod yX8_takeOver ∈ tb := tb_mem 435 (by decide +kernel) rfl
set_option maxRecDepth 100000 in
theorem kl_X8_takeOver : Cond.selects RX8 yX8_takeOver yX8_takeOver ∈ tb := tb_mem 436 (by decide +kernel) rfl
set_option maxRecDepth 100000 in
theorem kd_X8_takeOver : Cond.code yX8_takeOver cX8_takeOver 2 none ∈ tb := tb_mem 437 rfl rfl
set_option maxRecDepth 100000 in
theorem km_L_28 : Cond.methodLink RL 28 yX10_fault ∈ tb := tb_mem 438 (by decide +kernel) rfl
set_option maxRecDepth 100000 in
theorem kj_X10_fault : Cond.instanceMethod yX10_fault ∈ tb := tb_mem 439 (by decide +kernel) rfl
set_option maxRecDepth 100000 in
theorem kl_X10_fault : Cond.selects RX10 yX10_fault yX10_fault ∈ tb := tb_mem 440 (by decide +kernel) rfl
set_option maxRecDepth 100000 in
theorem kd_X10_fault : Cond.code yX10_fault cX10_fault 2 (some .int) ∈ tb := tb_mem 441 rfl rfl
set_option maxRecDepth 100000 in
theorem km_X10_92 : Cond.methodLink RX10 92 yX9_faultKind ∈ tb := tb_mem 442 (by decide +kernel) rfl
set_option maxRecDepth 100000 in
theorem kj_X9_faultKind : Cond.instanceMethod yX9_faultKind ∈ tb := tb_mem 443 (by decide +kernel) rfl
set_option maxRecDepth 100000 in
theorem kl_X9_faultKind : Cond.selects RX9 yX9_faultKind yX9_faultKind ∈ tb := tb_mem 444 (by decide +kernel) rfl
set_option maxRecDepth 100000 in
theorem kd_X9_faultKind : Cond.code yX9_faultKind cX9_faultKind 1 (some .int) ∈ tb := tb_mem 445 rfl rfl
set_option maxRecDepth 100000 in
theorem km_X10_95 : Cond.methodLink RX10 95 yX9_faultPlace ∈ tb := tb_mem 446 (by decide +kernel) rfl
set_option maxRecDepth 100000 in
theorem kj_X9_faultPlace : Cond.instanceMethod yX9_faultPlace ∈ tb := tb_mem 447 (by decide +kernel) rfl
set_option maxRecDepth 100000 in
theorem kl_X9_faultPlace : Cond.selects RX9 yX9_faultPlace yX9_faultPlace ∈ tb := tb_mem 448 (by decide +kernel) rfl
set_option maxRecDepth 100000 in
theorem kd_X9_faultPlace : Cond.code yX9_faultPlace cX9_faultPlace 1 (some .int) ∈ tb := tb_mem 449 rfl rfl
set_option maxRecDepth 100000 in
theorem km_L_32 : Cond.methodLink RL 32 yX10_rule ∈ tb := tb_mem 450 (by decide +kernel) rfl
set_option maxRecDepth 100000 in
theorem kj_X10_rule : Cond.instanceMethod yX10_rule ∈ tb := tb_mem 451 (by decide +kernel) rfl
set_option maxRecDepth 100000 in
theorem kl_X10_rule : Cond.selects RX10 yX10_rule yX10_rule ∈ tb := tb_mem 452 (by decide +kernel) rfl
set_option maxRecDepth 100000 in
theorem kd_X10_rule : Cond.code yX10_rule cX10_rule 2 (some .int) ∈ tb := tb_mem 453 rfl rfl
set_option maxRecDepth 100000 in
theorem km_X10_98 : Cond.methodLink RX10 98 yX8_at ∈ tb := tb_mem 454 (by decide +kernel) rfl
set_option maxRecDepth 100000 in
theorem kj_X8_at : Cond.instanceMethod yX8_at ∈ tb := tb_mem 455 (by decide +kernel) rfl
set_option maxRecDepth 100000 in
theorem kl_X8_at : Cond.selects RX8 yX8_at yX8_at ∈ tb := tb_mem 456 (by decide +kernel) rfl
set_option maxRecDepth 100000 in
theorem kd_X8_at : Cond.code yX8_at cX8_at 2 (some .int) ∈ tb := tb_mem 457 rfl rfl
set_option maxRecDepth 100000 in
theorem km_L_36 : Cond.methodLink RL 36 yX10_declare ∈ tb := tb_mem 458 (by decide +kernel) rfl
set_option maxRecDepth 100000 in
theorem kj_X10_declare : Cond.instanceMethod yX10_declare ∈ tb := tb_mem 459 (by decide +kernel) rfl
set_option maxRecDepth 100000 in
theorem kl_X10_declare : Cond.selects RX10 yX10_declare yX10_declare ∈ tb := tb_mem 460 (by decide +kernel) rfl
set_option maxRecDepth 100000 in
theorem kd_X10_declare : Cond.code yX10_declare cX10_declare 4 (some .int) ∈ tb := tb_mem 461 rfl rfl
set_option maxRecDepth 100000 in
theorem km_X10_102 : Cond.methodLink RX10 102 yX10_isGiver ∈ tb := tb_mem 462 (by decide +kernel) rfl
set_option maxRecDepth 100000 in
theorem ks_X10_isGiver : Cond.static yX10_isGiver ∈ tb := tb_mem 463 (by decide +kernel) rfl
set_option maxRecDepth 100000 in
theorem kd_X10_isGiver : Cond.code yX10_isGiver cX10_isGiver 1 (some .boolean) ∈ tb := tb_mem 464 rfl rfl
set_option maxRecDepth 100000 in
theorem km_X10_110 : Cond.methodLink RX10 110 yX0_setDeclaration ∈ tb := tb_mem 465 (by decide +kernel) rfl
set_option maxRecDepth 100000 in
theorem kj_X0_setDeclaration : Cond.instanceMethod yX0_setDeclaration ∈ tb := tb_mem 466 (by decide +kernel) rfl
set_option maxRecDepth 100000 in
theorem kl_X0_setDeclaration : Cond.selects RX0 yX0_setDeclaration yX0_setDeclaration ∈ tb := tb_mem 467 (by decide +kernel) rfl
set_option maxRecDepth 100000 in
theorem kd_X0_setDeclaration : Cond.code yX0_setDeclaration cX0_setDeclaration 4 none ∈ tb := tb_mem 468 rfl rfl
set_option maxRecDepth 100000 in
theorem km_L_41 : Cond.methodLink RL 41 yX10_nameless ∈ tb := tb_mem 470 (by decide +kernel) rfl
set_option maxRecDepth 100000 in
theorem kj_X10_nameless : Cond.instanceMethod yX10_nameless ∈ tb := tb_mem 471 (by decide +kernel) rfl
set_option maxRecDepth 100000 in
theorem kl_X10_nameless : Cond.selects RX10 yX10_nameless yX10_nameless ∈ tb := tb_mem 472 (by decide +kernel) rfl
set_option maxRecDepth 100000 in
theorem kd_X10_nameless : Cond.code yX10_nameless cX10_nameless 3 (some .int) ∈ tb := tb_mem 473 rfl rfl
set_option maxRecDepth 100000 in
theorem km_X10_114 : Cond.methodLink RX10 114 yX0_setWithoutName ∈ tb := tb_mem 474 (by decide +kernel) rfl
set_option maxRecDepth 100000 in
theorem kj_X0_setWithoutName : Cond.instanceMethod yX0_setWithoutName ∈ tb := tb_mem 475 (by decide +kernel) rfl
set_option maxRecDepth 100000 in
theorem kl_X0_setWithoutName : Cond.selects RX0 yX0_setWithoutName yX0_setWithoutName ∈ tb := tb_mem 476 (by decide +kernel) rfl
set_option maxRecDepth 100000 in
theorem kd_X0_setWithoutName : Cond.code yX0_setWithoutName cX0_setWithoutName 3 (some .boolean) ∈ tb := tb_mem 477 rfl rfl
set_option maxRecDepth 100000 in
theorem km_L_46 : Cond.methodLink RL 46 yX10_pledge ∈ tb := tb_mem 478 (by decide +kernel) rfl
set_option maxRecDepth 100000 in
theorem kj_X10_pledge : Cond.instanceMethod yX10_pledge ∈ tb := tb_mem 479 (by decide +kernel) rfl
set_option maxRecDepth 100000 in
theorem kl_X10_pledge : Cond.selects RX10 yX10_pledge yX10_pledge ∈ tb := tb_mem 480 (by decide +kernel) rfl
set_option maxRecDepth 100000 in
theorem kd_X10_pledge : Cond.code yX10_pledge cX10_pledge 6 (some .int) ∈ tb := tb_mem 481 rfl rfl
set_option maxRecDepth 100000 in
theorem kk_X10_118 : Cond.constant RX10 118 (100000 : Int32) ∈ tb := tb_mem 482 (by decide +kernel) rfl
set_option maxRecDepth 100000 in
theorem km_X10_119 : Cond.methodLink RX10 119 yX10_isWithin ∈ tb := tb_mem 483 (by decide +kernel) rfl
set_option maxRecDepth 100000 in
theorem ks_X10_isWithin : Cond.static yX10_isWithin ∈ tb := tb_mem 484 (by decide +kernel) rfl
set_option maxRecDepth 100000 in
theorem kd_X10_isWithin : Cond.code yX10_isWithin cX10_isWithin 3 (some .boolean) ∈ tb := tb_mem 485 rfl rfl
set_option maxRecDepth 100000 in
theorem km_X10_127 : Cond.methodLink RX10 127 yX2_isFull ∈ tb := tb_mem 486 (by decide +kernel) rfl
set_option maxRecDepth 100000 in
theorem kj_X2_isFull : Cond.instanceMethod yX2_isFull ∈ tb := tb_mem 487 (by decide +kernel) rfl
set_option maxRecDepth 100000 in
theorem kl_X2_isFull : Cond.selects RX2 yX2_isFull yX2_isFull ∈ tb := tb_mem 488 (by decide +kernel) rfl
set_option maxRecDepth 100000 in
theorem kd_X2_isFull : Cond.code yX2_isFull cX2_isFull 1 (some .boolean) ∈ tb := tb_mem 489 rfl rfl
set_option maxRecDepth 100000 in
theorem kc_X10_130 : Cond.classLink RX10 130 RX1 ∈ tb := tb_mem 490 (by decide +kernel) rfl
set_option maxRecDepth 100000 in
theorem kn_X1 : Cond.instantiable RX1 12 ∈ tb := tb_mem 491 (by decide +kernel) rfl
set_option maxRecDepth 100000 in
theorem km_X10_132 : Cond.methodLink RX10 132 yX1_init ∈ tb := tb_mem 492 (by decide +kernel) rfl
set_option maxRecDepth 100000 in
theorem kj_X1_init : Cond.instanceMethod yX1_init ∈ tb := tb_mem 493 (by decide +kernel) rfl
set_option maxRecDepth 100000 in
theorem kd_X1_init : Cond.code yX1_init cX1_init 7 none ∈ tb := tb_mem 494 rfl rfl
set_option maxRecDepth 100000 in
theorem km_X1_3 : Cond.methodLink RX1 3 objectInit ∈ tb := tb_mem 495 (by decide +kernel) rfl
set_option maxRecDepth 100000 in
theorem km_X1_24 : Cond.methodLink RX1 24 yX1_duesThatCome ∈ tb := tb_mem 496 (by decide +kernel) rfl
set_option maxRecDepth 100000 in
theorem ks_X1_duesThatCome : Cond.static yX1_duesThatCome ∈ tb := tb_mem 497 (by decide +kernel) rfl
set_option maxRecDepth 100000 in
theorem kd_X1_duesThatCome : Cond.code yX1_duesThatCome cX1_duesThatCome 5 (some .int) ∈ tb := tb_mem 498 rfl rfl
set_option maxRecDepth 100000 in
theorem kf_X1_15 : Cond.fieldLink RX1 15 "TowerAppeal$Pledge" "giverNumber" "I" ∈ tb := tb_mem 499 (by decide +kernel) rfl
set_option maxRecDepth 100000 in
theorem kf_X1_18 : Cond.fieldLink RX1 18 "TowerAppeal$Pledge" "first" "I" ∈ tb := tb_mem 500 (by decide +kernel) rfl
set_option maxRecDepth 100000 in
theorem kf_X1_21 : Cond.fieldLink RX1 21 "TowerAppeal$Pledge" "every" "I" ∈ tb := tb_mem 501 (by decide +kernel) rfl
set_option maxRecDepth 100000 in
theorem kf_X1_28 : Cond.fieldLink RX1 28 "TowerAppeal$Pledge" "size" "I" ∈ tb := tb_mem 502 (by decide +kernel) rfl
set_option maxRecDepth 100000 in
theorem kf_X1_31 : Cond.fieldLink RX1 31 "TowerAppeal$Pledge" "owed" "[I" ∈ tb := tb_mem 503 (by decide +kernel) rfl
set_option maxRecDepth 100000 in
theorem kf_X1_35 : Cond.fieldLink RX1 35 "TowerAppeal$Pledge" "filled" "[I" ∈ tb := tb_mem 504 (by decide +kernel) rfl
set_option maxRecDepth 100000 in
theorem kf_X1_38 : Cond.fieldLink RX1 38 "TowerAppeal$Pledge" "standing" "[I" ∈ tb := tb_mem 505 (by decide +kernel) rfl
set_option maxRecDepth 100000 in
theorem kf_X1_41 : Cond.fieldLink RX1 41 "TowerAppeal$Pledge" "penceToCome" "I" ∈ tb := tb_mem 506 (by decide +kernel) rfl
set_option maxRecDepth 100000 in
theorem kf_X1_44 : Cond.fieldLink RX1 44 "TowerAppeal$Pledge" "filledInAll" "I" ∈ tb := tb_mem 507 (by decide +kernel) rfl
set_option maxRecDepth 100000 in
theorem kf_X1_47 : Cond.fieldLink RX1 47 "TowerAppeal$Pledge" "lapsed" "Z" ∈ tb := tb_mem 508 (by decide +kernel) rfl
set_option maxRecDepth 100000 in
theorem kf_X1_51 : Cond.fieldLink RX1 51 "TowerAppeal$Pledge" "takenUp" "Z" ∈ tb := tb_mem 509 (by decide +kernel) rfl
set_option maxRecDepth 100000 in
theorem kf_X1_9 : Cond.fieldLink RX1 9 "TowerAppeal$Pledge" "firstLapse" "I" ∈ tb := tb_mem 510 (by decide +kernel) rfl
set_option maxRecDepth 100000 in
theorem km_X10_135 : Cond.methodLink RX10 135 yX2_add ∈ tb := tb_mem 536 (by decide +kernel) rfl
set_option maxRecDepth 100000 in
theorem kj_X2_add : Cond.instanceMethod yX2_add ∈ tb := tb_mem 537 (by decide +kernel) rfl
set_option maxRecDepth 100000 in
theorem kl_X2_add : Cond.selects RX2 yX2_add yX2_add ∈ tb := tb_mem 538 (by decide +kernel) rfl
set_option maxRecDepth 100000 in
theorem kd_X2_add : Cond.code yX2_add cX2_add 2 (some .int) ∈ tb := tb_mem 539 rfl rfl
set_option maxRecDepth 100000 in
theorem km_L_50 : Cond.methodLink RL 50 yX10_change ∈ tb := tb_mem 540 (by decide +kernel) rfl
set_option maxRecDepth 100000 in
theorem kj_X10_change : Cond.instanceMethod yX10_change ∈ tb := tb_mem 541 (by decide +kernel) rfl
set_option maxRecDepth 100000 in
theorem kl_X10_change : Cond.selects RX10 yX10_change yX10_change ∈ tb := tb_mem 542 (by decide +kernel) rfl
set_option maxRecDepth 100000 in
theorem kd_X10_change : Cond.code yX10_change cX10_change 4 (some .int) ∈ tb := tb_mem 543 rfl rfl
set_option maxRecDepth 100000 in
theorem km_X10_139 : Cond.methodLink RX10 139 yX2_at ∈ tb := tb_mem 544 (by decide +kernel) rfl
set_option maxRecDepth 100000 in
theorem kj_X2_at : Cond.instanceMethod yX2_at ∈ tb := tb_mem 545 (by decide +kernel) rfl
set_option maxRecDepth 100000 in
theorem kl_X2_at : Cond.selects RX2 yX2_at yX2_at ∈ tb := tb_mem 546 (by decide +kernel) rfl
set_option maxRecDepth 100000 in
theorem kd_X2_at : Cond.code yX2_at cX2_at 2 (some (.object "TowerAppeal$Pledge")) ∈ tb := tb_mem 547 rfl rfl
set_option maxRecDepth 100000 in
theorem km_X10_142 : Cond.methodLink RX10 142 yX1_isLapsed ∈ tb := tb_mem 548 (by decide +kernel) rfl
set_option maxRecDepth 100000 in
theorem kj_X1_isLapsed : Cond.instanceMethod yX1_isLapsed ∈ tb := tb_mem 549 (by decide +kernel) rfl
set_option maxRecDepth 100000 in
theorem kl_X1_isLapsed : Cond.selects RX1 yX1_isLapsed yX1_isLapsed ∈ tb := tb_mem 550 (by decide +kernel) rfl
set_option maxRecDepth 100000 in
theorem kd_X1_isLapsed : Cond.code yX1_isLapsed cX1_isLapsed 1 (some .boolean) ∈ tb := tb_mem 551 rfl rfl
set_option maxRecDepth 100000 in
theorem km_X10_145 : Cond.methodLink RX10 145 yX1_setPence ∈ tb := tb_mem 552 (by decide +kernel) rfl
set_option maxRecDepth 100000 in
theorem kj_X1_setPence : Cond.instanceMethod yX1_setPence ∈ tb := tb_mem 553 (by decide +kernel) rfl
set_option maxRecDepth 100000 in
theorem kl_X1_setPence : Cond.selects RX1 yX1_setPence yX1_setPence ∈ tb := tb_mem 554 (by decide +kernel) rfl
set_option maxRecDepth 100000 in
theorem kd_X1_setPence : Cond.code yX1_setPence cX1_setPence 4 none ∈ tb := tb_mem 555 rfl rfl
set_option maxRecDepth 100000 in
theorem km_X1_54 : Cond.methodLink RX1 54 yX1_monthOf ∈ tb := tb_mem 556 (by decide +kernel) rfl
set_option maxRecDepth 100000 in
theorem kj_X1_monthOf : Cond.instanceMethod yX1_monthOf ∈ tb := tb_mem 558 (by decide +kernel) rfl
set_option maxRecDepth 100000 in
theorem kd_X1_monthOf : Cond.code yX1_monthOf cX1_monthOf 2 (some .int) ∈ tb := tb_mem 559 rfl rfl
set_option maxRecDepth 100000 in
theorem km_L_55 : Cond.methodLink RL 55 yX10_pay ∈ tb := tb_mem 560 (by decide +kernel) rfl
set_option maxRecDepth 100000 in
theorem kj_X10_pay : Cond.instanceMethod yX10_pay ∈ tb := tb_mem 561 (by decide +kernel) rfl
set_option maxRecDepth 100000 in
theorem kl_X10_pay : Cond.selects RX10 yX10_pay yX10_pay ∈ tb := tb_mem 562 (by decide +kernel) rfl
set_option maxRecDepth 100000 in
theorem kd_X10_pay : Cond.code yX10_pay cX10_pay 4 (some .int) ∈ tb := tb_mem 563 rfl rfl
set_option maxRecDepth 100000 in
theorem km_X10_149 : Cond.methodLink RX10 149 yX10_isSum ∈ tb := tb_mem 564 (by decide +kernel) rfl
set_option maxRecDepth 100000 in
theorem ks_X10_isSum : Cond.static yX10_isSum ∈ tb := tb_mem 565 (by decide +kernel) rfl
set_option maxRecDepth 100000 in
theorem kd_X10_isSum : Cond.code yX10_isSum cX10_isSum 1 (some .boolean) ∈ tb := tb_mem 566 rfl rfl
set_option maxRecDepth 100000 in
theorem kk_X10_307 : Cond.constant RX10 307 (5000000 : Int32) ∈ tb := tb_mem 567 (by decide +kernel) rfl
set_option maxRecDepth 100000 in
theorem km_X10_152 : Cond.methodLink RX10 152 yX1_unfilled ∈ tb := tb_mem 568 (by decide +kernel) rfl
set_option maxRecDepth 100000 in
theorem kj_X1_unfilled : Cond.instanceMethod yX1_unfilled ∈ tb := tb_mem 569 (by decide +kernel) rfl
set_option maxRecDepth 100000 in
theorem kl_X1_unfilled : Cond.selects RX1 yX1_unfilled yX1_unfilled ∈ tb := tb_mem 570 (by decide +kernel) rfl
set_option maxRecDepth 100000 in
theorem kd_X1_unfilled : Cond.code yX1_unfilled cX1_unfilled 1 (some .int) ∈ tb := tb_mem 571 rfl rfl
set_option maxRecDepth 100000 in
theorem km_X1_58 : Cond.methodLink RX1 58 yX1_unfilledWithin ∈ tb := tb_mem 572 (by decide +kernel) rfl
set_option maxRecDepth 100000 in
theorem kj_X1_unfilledWithin : Cond.instanceMethod yX1_unfilledWithin ∈ tb := tb_mem 573 (by decide +kernel) rfl
set_option maxRecDepth 100000 in
theorem kl_X1_unfilledWithin : Cond.selects RX1 yX1_unfilledWithin yX1_unfilledWithin ∈ tb := tb_mem 574 (by decide +kernel) rfl
set_option maxRecDepth 100000 in
theorem kd_X1_unfilledWithin : Cond.code yX1_unfilledWithin cX1_unfilledWithin 5 (some .int) ∈ tb := tb_mem 575 rfl rfl
set_option maxRecDepth 100000 in
theorem km_X10_155 : Cond.methodLink RX10 155 yX5_isFull ∈ tb := tb_mem 576 (by decide +kernel) rfl
set_option maxRecDepth 100000 in
theorem kj_X5_isFull : Cond.instanceMethod yX5_isFull ∈ tb := tb_mem 577 (by decide +kernel) rfl
set_option maxRecDepth 100000 in
theorem kl_X5_isFull : Cond.selects RX5 yX5_isFull yX5_isFull ∈ tb := tb_mem 578 (by decide +kernel) rfl
set_option maxRecDepth 100000 in
theorem kd_X5_isFull : Cond.code yX5_isFull cX5_isFull 1 (some .boolean) ∈ tb := tb_mem 579 rfl rfl
set_option maxRecDepth 100000 in
theorem km_X10_156 : Cond.methodLink RX10 156 yX1_fill ∈ tb := tb_mem 580 (by decide +kernel) rfl
set_option maxRecDepth 100000 in
theorem kj_X1_fill : Cond.instanceMethod yX1_fill ∈ tb := tb_mem 581 (by decide +kernel) rfl
set_option maxRecDepth 100000 in
theorem kl_X1_fill : Cond.selects RX1 yX1_fill yX1_fill ∈ tb := tb_mem 582 (by decide +kernel) rfl
set_option maxRecDepth 100000 in
theorem kd_X1_fill : Cond.code yX1_fill cX1_fill 5 none ∈ tb := tb_mem 583 rfl rfl
set_option maxRecDepth 100000 in
theorem km_X1_62 : Cond.methodLink RX1 62 yJ9_min_7cf53 ∈ tb := tb_mem 584 (by decide +kernel) rfl
set_option maxRecDepth 100000 in
theorem ks_J9_min_7cf53 : Cond.static yJ9_min_7cf53 ∈ tb := tb_mem 585 (by decide +kernel) rfl
set_option maxRecDepth 100000 in
theorem kd_J9_min_7cf53 : Cond.code yJ9_min_7cf53 cJ9_min_7cf53 2 (some .int) ∈ tb := tb_mem 586 rfl rfl
set_option maxRecDepth 100000 in
theorem km_X10_159 : Cond.methodLink RX10 159 yX1_giverNumber ∈ tb := tb_mem 587 (by decide +kernel) rfl
set_option maxRecDepth 100000 in
theorem kj_X1_giverNumber : Cond.instanceMethod yX1_giverNumber ∈ tb := tb_mem 588 (by decide +kernel) rfl
set_option maxRecDepth 100000 in
theorem kl_X1_giverNumber : Cond.selects RX1 yX1_giverNumber yX1_giverNumber ∈ tb := tb_mem 589 (by decide +kernel) rfl
set_option maxRecDepth 100000 in
theorem kd_X1_giverNumber : Cond.code yX1_giverNumber cX1_giverNumber 1 (some .int) ∈ tb := tb_mem 590 rfl rfl
set_option maxRecDepth 100000 in
theorem km_X10_162 : Cond.methodLink RX10 162 yX10_receive ∈ tb := tb_mem 591 (by decide +kernel) rfl
set_option maxRecDepth 100000 in
theorem kj_X10_receive : Cond.instanceMethod yX10_receive ∈ tb := tb_mem 593 (by decide +kernel) rfl
set_option maxRecDepth 100000 in
theorem kd_X10_receive : Cond.code yX10_receive cX10_receive 3 (some .int) ∈ tb := tb_mem 594 rfl rfl
set_option maxRecDepth 100000 in
theorem km_X10_308 : Cond.methodLink RX10 308 yX5_add ∈ tb := tb_mem 595 (by decide +kernel) rfl
set_option maxRecDepth 100000 in
theorem kj_X5_add : Cond.instanceMethod yX5_add ∈ tb := tb_mem 596 (by decide +kernel) rfl
set_option maxRecDepth 100000 in
theorem kl_X5_add : Cond.selects RX5 yX5_add yX5_add ∈ tb := tb_mem 597 (by decide +kernel) rfl
set_option maxRecDepth 100000 in
theorem kd_X5_add : Cond.code yX5_add cX5_add 4 none ∈ tb := tb_mem 598 rfl rfl
set_option maxRecDepth 100000 in
theorem km_X10_310 : Cond.methodLink RX10 310 yX3_takeSum ∈ tb := tb_mem 599 (by decide +kernel) rfl
set_option maxRecDepth 100000 in
theorem kj_X3_takeSum : Cond.instanceMethod yX3_takeSum ∈ tb := tb_mem 600 (by decide +kernel) rfl
set_option maxRecDepth 100000 in
theorem kl_X3_takeSum : Cond.selects RX3 yX3_takeSum yX3_takeSum ∈ tb := tb_mem 601 (by decide +kernel) rfl
set_option maxRecDepth 100000 in
theorem kd_X3_takeSum : Cond.code yX3_takeSum cX3_takeSum 10 (some .int) ∈ tb := tb_mem 602 rfl rfl
set_option maxRecDepth 100000 in
theorem km_X3_28 : Cond.methodLink RX3 28 yX8_matchTill ∈ tb := tb_mem 603 (by decide +kernel) rfl
set_option maxRecDepth 100000 in
theorem kj_X8_matchTill : Cond.instanceMethod yX8_matchTill ∈ tb := tb_mem 604 (by decide +kernel) rfl
set_option maxRecDepth 100000 in
theorem kl_X8_matchTill : Cond.selects RX8 yX8_matchTill yX8_matchTill ∈ tb := tb_mem 605 (by decide +kernel) rfl
set_option maxRecDepth 100000 in
theorem kd_X8_matchTill : Cond.code yX8_matchTill cX8_matchTill 1 (some .int) ∈ tb := tb_mem 606 rfl rfl
set_option maxRecDepth 100000 in
theorem km_X3_34 : Cond.methodLink RX3 34 yX8_matchHundredths ∈ tb := tb_mem 607 (by decide +kernel) rfl
set_option maxRecDepth 100000 in
theorem kj_X8_matchHundredths : Cond.instanceMethod yX8_matchHundredths ∈ tb := tb_mem 608 (by decide +kernel) rfl
set_option maxRecDepth 100000 in
theorem kl_X8_matchHundredths : Cond.selects RX8 yX8_matchHundredths yX8_matchHundredths ∈ tb := tb_mem 609 (by decide +kernel) rfl
set_option maxRecDepth 100000 in
theorem kd_X8_matchHundredths : Cond.code yX8_matchHundredths cX8_matchHundredths 1 (some .int) ∈ tb := tb_mem 610 rfl rfl
set_option maxRecDepth 100000 in
theorem kk_X3_37 : Cond.constantLong RX3 37 (100 : Int64) ∈ tb := tb_mem 611 (by decide +kernel) rfl
set_option maxRecDepth 100000 in
theorem km_X3_39 : Cond.methodLink RX3 39 yX8_matchCapPence ∈ tb := tb_mem 612 (by decide +kernel) rfl
set_option maxRecDepth 100000 in
theorem kj_X8_matchCapPence : Cond.instanceMethod yX8_matchCapPence ∈ tb := tb_mem 613 (by decide +kernel) rfl
set_option maxRecDepth 100000 in
theorem kl_X8_matchCapPence : Cond.selects RX8 yX8_matchCapPence yX8_matchCapPence ∈ tb := tb_mem 614 (by decide +kernel) rfl
set_option maxRecDepth 100000 in
theorem kd_X8_matchCapPence : Cond.code yX8_matchCapPence cX8_matchCapPence 1 (some .int) ∈ tb := tb_mem 615 rfl rfl
set_option maxRecDepth 100000 in
theorem km_X3_42 : Cond.methodLink RX3 42 yJ9_max_f86c9 ∈ tb := tb_mem 616 (by decide +kernel) rfl
set_option maxRecDepth 100000 in
theorem ks_J9_max_f86c9 : Cond.static yJ9_max_f86c9 ∈ tb := tb_mem 617 (by decide +kernel) rfl
set_option maxRecDepth 100000 in
theorem kd_J9_max_f86c9 : Cond.code yJ9_max_f86c9 cJ9_max_f86c9 4 (some .long) ∈ tb := tb_mem 618 rfl rfl
set_option maxRecDepth 100000 in
theorem km_X3_48 : Cond.methodLink RX3 48 yJ9_min_f86c9 ∈ tb := tb_mem 619 (by decide +kernel) rfl
set_option maxRecDepth 100000 in
theorem ks_J9_min_f86c9 : Cond.static yJ9_min_f86c9 ∈ tb := tb_mem 620 (by decide +kernel) rfl
set_option maxRecDepth 100000 in
theorem kd_J9_min_f86c9 : Cond.code yJ9_min_f86c9 cJ9_min_f86c9 4 (some .long) ∈ tb := tb_mem 621 rfl rfl
set_option maxRecDepth 100000 in
theorem km_L_59 : Cond.methodLink RL 59 yX10_gift ∈ tb := tb_mem 622 (by decide +kernel) rfl
set_option maxRecDepth 100000 in
theorem kj_X10_gift : Cond.instanceMethod yX10_gift ∈ tb := tb_mem 623 (by decide +kernel) rfl
set_option maxRecDepth 100000 in
theorem kl_X10_gift : Cond.selects RX10 yX10_gift yX10_gift ∈ tb := tb_mem 624 (by decide +kernel) rfl
set_option maxRecDepth 100000 in
theorem kd_X10_gift : Cond.code yX10_gift cX10_gift 3 (some .int) ∈ tb := tb_mem 625 rfl rfl
set_option maxRecDepth 100000 in
theorem km_L_63 : Cond.methodLink RL 63 yX10_takeUp ∈ tb := tb_mem 626 (by decide +kernel) rfl
set_option maxRecDepth 100000 in
theorem kj_X10_takeUp : Cond.instanceMethod yX10_takeUp ∈ tb := tb_mem 627 (by decide +kernel) rfl
set_option maxRecDepth 100000 in
theorem kl_X10_takeUp : Cond.selects RX10 yX10_takeUp yX10_takeUp ∈ tb := tb_mem 628 (by decide +kernel) rfl
set_option maxRecDepth 100000 in
theorem kd_X10_takeUp : Cond.code yX10_takeUp cX10_takeUp 3 (some .int) ∈ tb := tb_mem 629 rfl rfl
set_option maxRecDepth 100000 in
theorem km_X10_166 : Cond.methodLink RX10 166 yX1_mayBeTakenUp ∈ tb := tb_mem 630 (by decide +kernel) rfl
set_option maxRecDepth 100000 in
theorem kj_X1_mayBeTakenUp : Cond.instanceMethod yX1_mayBeTakenUp ∈ tb := tb_mem 631 (by decide +kernel) rfl
set_option maxRecDepth 100000 in
theorem kl_X1_mayBeTakenUp : Cond.selects RX1 yX1_mayBeTakenUp yX1_mayBeTakenUp ∈ tb := tb_mem 632 (by decide +kernel) rfl
set_option maxRecDepth 100000 in
theorem kd_X1_mayBeTakenUp : Cond.code yX1_mayBeTakenUp cX1_mayBeTakenUp 1 (some .boolean) ∈ tb := tb_mem 633 rfl rfl
set_option maxRecDepth 100000 in
theorem km_X10_169 : Cond.methodLink RX10 169 yX1_standAgain ∈ tb := tb_mem 634 (by decide +kernel) rfl
set_option maxRecDepth 100000 in
theorem kj_X1_standAgain : Cond.instanceMethod yX1_standAgain ∈ tb := tb_mem 635 (by decide +kernel) rfl
set_option maxRecDepth 100000 in
theorem kl_X1_standAgain : Cond.selects RX1 yX1_standAgain yX1_standAgain ∈ tb := tb_mem 636 (by decide +kernel) rfl
set_option maxRecDepth 100000 in
theorem kd_X1_standAgain : Cond.code yX1_standAgain cX1_standAgain 3 none ∈ tb := tb_mem 637 rfl rfl
set_option maxRecDepth 100000 in
theorem km_X10_172 : Cond.methodLink RX10 172 yX1_duesToCome ∈ tb := tb_mem 638 (by decide +kernel) rfl
set_option maxRecDepth 100000 in
theorem kj_X1_duesToCome : Cond.instanceMethod yX1_duesToCome ∈ tb := tb_mem 639 (by decide +kernel) rfl
set_option maxRecDepth 100000 in
theorem kl_X1_duesToCome : Cond.selects RX1 yX1_duesToCome yX1_duesToCome ∈ tb := tb_mem 640 (by decide +kernel) rfl
set_option maxRecDepth 100000 in
theorem kd_X1_duesToCome : Cond.code yX1_duesToCome cX1_duesToCome 4 (some .int) ∈ tb := tb_mem 641 rfl rfl
set_option maxRecDepth 100000 in
theorem km_L_67 : Cond.methodLink RL 67 yX10_claim ∈ tb := tb_mem 642 (by decide +kernel) rfl
set_option maxRecDepth 100000 in
theorem kj_X10_claim : Cond.instanceMethod yX10_claim ∈ tb := tb_mem 643 (by decide +kernel) rfl
set_option maxRecDepth 100000 in
theorem kl_X10_claim : Cond.selects RX10 yX10_claim yX10_claim ∈ tb := tb_mem 644 (by decide +kernel) rfl
set_option maxRecDepth 100000 in
theorem kd_X10_claim : Cond.code yX10_claim cX10_claim 2 (some .int) ∈ tb := tb_mem 645 rfl rfl
set_option maxRecDepth 100000 in
theorem km_X10_175 : Cond.methodLink RX10 175 yX8_taxHundredths ∈ tb := tb_mem 646 (by decide +kernel) rfl
set_option maxRecDepth 100000 in
theorem kj_X8_taxHundredths : Cond.instanceMethod yX8_taxHundredths ∈ tb := tb_mem 647 (by decide +kernel) rfl
set_option maxRecDepth 100000 in
theorem kl_X8_taxHundredths : Cond.selects RX8 yX8_taxHundredths yX8_taxHundredths ∈ tb := tb_mem 648 (by decide +kernel) rfl
set_option maxRecDepth 100000 in
theorem kd_X8_taxHundredths : Cond.code yX8_taxHundredths cX8_taxHundredths 1 (some .int) ∈ tb := tb_mem 649 rfl rfl
set_option maxRecDepth 100000 in
theorem km_X10_178 : Cond.methodLink RX10 178 yX5_claimTax ∈ tb := tb_mem 650 (by decide +kernel) rfl
set_option maxRecDepth 100000 in
theorem kj_X5_claimTax : Cond.instanceMethod yX5_claimTax ∈ tb := tb_mem 651 (by decide +kernel) rfl
set_option maxRecDepth 100000 in
theorem kl_X5_claimTax : Cond.selects RX5 yX5_claimTax yX5_claimTax ∈ tb := tb_mem 652 (by decide +kernel) rfl
set_option maxRecDepth 100000 in
theorem kd_X5_claimTax : Cond.code yX5_claimTax cX5_claimTax 6 (some .int) ∈ tb := tb_mem 653 rfl rfl
set_option maxRecDepth 100000 in
theorem km_X5_33 : Cond.methodLink RX5 33 yX0_hasDeclared ∈ tb := tb_mem 654 (by decide +kernel) rfl
set_option maxRecDepth 100000 in
theorem kj_X0_hasDeclared : Cond.instanceMethod yX0_hasDeclared ∈ tb := tb_mem 655 (by decide +kernel) rfl
set_option maxRecDepth 100000 in
theorem kl_X0_hasDeclared : Cond.selects RX0 yX0_hasDeclared yX0_hasDeclared ∈ tb := tb_mem 656 (by decide +kernel) rfl
set_option maxRecDepth 100000 in
theorem kd_X0_hasDeclared : Cond.code yX0_hasDeclared cX0_hasDeclared 3 (some .boolean) ∈ tb := tb_mem 657 rfl rfl
set_option maxRecDepth 100000 in
theorem kk_X5_39 : Cond.constantLong RX5 39 (100 : Int64) ∈ tb := tb_mem 658 (by decide +kernel) rfl
set_option maxRecDepth 100000 in
theorem km_X10_182 : Cond.methodLink RX10 182 yX3_takeTax ∈ tb := tb_mem 659 (by decide +kernel) rfl
set_option maxRecDepth 100000 in
theorem kj_X3_takeTax : Cond.instanceMethod yX3_takeTax ∈ tb := tb_mem 660 (by decide +kernel) rfl
set_option maxRecDepth 100000 in
theorem kl_X3_takeTax : Cond.selects RX3 yX3_takeTax yX3_takeTax ∈ tb := tb_mem 661 (by decide +kernel) rfl
set_option maxRecDepth 100000 in
theorem kd_X3_takeTax : Cond.code yX3_takeTax cX3_takeTax 2 none ∈ tb := tb_mem 662 rfl rfl
set_option maxRecDepth 100000 in
theorem km_L_71 : Cond.methodLink RL 71 yX10_about ∈ tb := tb_mem 663 (by decide +kernel) rfl
set_option maxRecDepth 100000 in
theorem kj_X10_about : Cond.instanceMethod yX10_about ∈ tb := tb_mem 664 (by decide +kernel) rfl
set_option maxRecDepth 100000 in
theorem kl_X10_about : Cond.selects RX10 yX10_about yX10_about ∈ tb := tb_mem 665 (by decide +kernel) rfl
set_option maxRecDepth 100000 in
theorem kd_X10_about : Cond.code yX10_about cX10_about 4 (some .int) ∈ tb := tb_mem 666 rfl rfl
set_option maxRecDepth 100000 in
theorem km_X10_185 : Cond.methodLink RX10 185 yX1_penceToCome ∈ tb := tb_mem 667 (by decide +kernel) rfl
set_option maxRecDepth 100000 in
theorem kj_X1_penceToCome : Cond.instanceMethod yX1_penceToCome ∈ tb := tb_mem 668 (by decide +kernel) rfl
set_option maxRecDepth 100000 in
theorem kl_X1_penceToCome : Cond.selects RX1 yX1_penceToCome yX1_penceToCome ∈ tb := tb_mem 669 (by decide +kernel) rfl
set_option maxRecDepth 100000 in
theorem kd_X1_penceToCome : Cond.code yX1_penceToCome cX1_penceToCome 1 (some .int) ∈ tb := tb_mem 670 rfl rfl
set_option maxRecDepth 100000 in
theorem km_X10_188 : Cond.methodLink RX10 188 yX1_overdue ∈ tb := tb_mem 671 (by decide +kernel) rfl
set_option maxRecDepth 100000 in
theorem kj_X1_overdue : Cond.instanceMethod yX1_overdue ∈ tb := tb_mem 672 (by decide +kernel) rfl
set_option maxRecDepth 100000 in
theorem kl_X1_overdue : Cond.selects RX1 yX1_overdue yX1_overdue ∈ tb := tb_mem 673 (by decide +kernel) rfl
set_option maxRecDepth 100000 in
theorem kd_X1_overdue : Cond.code yX1_overdue cX1_overdue 4 (some .int) ∈ tb := tb_mem 674 rfl rfl
set_option maxRecDepth 100000 in
theorem km_X10_191 : Cond.methodLink RX10 191 yX1_filledInAll ∈ tb := tb_mem 675 (by decide +kernel) rfl
set_option maxRecDepth 100000 in
theorem kj_X1_filledInAll : Cond.instanceMethod yX1_filledInAll ∈ tb := tb_mem 676 (by decide +kernel) rfl
set_option maxRecDepth 100000 in
theorem kl_X1_filledInAll : Cond.selects RX1 yX1_filledInAll yX1_filledInAll ∈ tb := tb_mem 677 (by decide +kernel) rfl
set_option maxRecDepth 100000 in
theorem kd_X1_filledInAll : Cond.code yX1_filledInAll cX1_filledInAll 1 (some .int) ∈ tb := tb_mem 678 rfl rfl
set_option maxRecDepth 100000 in
theorem km_X10_194 : Cond.methodLink RX10 194 yX1_firstLapse ∈ tb := tb_mem 679 (by decide +kernel) rfl
set_option maxRecDepth 100000 in
theorem kj_X1_firstLapse : Cond.instanceMethod yX1_firstLapse ∈ tb := tb_mem 680 (by decide +kernel) rfl
set_option maxRecDepth 100000 in
theorem kl_X1_firstLapse : Cond.selects RX1 yX1_firstLapse yX1_firstLapse ∈ tb := tb_mem 681 (by decide +kernel) rfl
set_option maxRecDepth 100000 in
theorem kd_X1_firstLapse : Cond.code yX1_firstLapse cX1_firstLapse 1 (some .int) ∈ tb := tb_mem 682 rfl rfl
set_option maxRecDepth 100000 in
theorem km_X10_197 : Cond.methodLink RX10 197 yX1_nextDue ∈ tb := tb_mem 683 (by decide +kernel) rfl
set_option maxRecDepth 100000 in
theorem kj_X1_nextDue : Cond.instanceMethod yX1_nextDue ∈ tb := tb_mem 684 (by decide +kernel) rfl
set_option maxRecDepth 100000 in
theorem kl_X1_nextDue : Cond.selects RX1 yX1_nextDue yX1_nextDue ∈ tb := tb_mem 685 (by decide +kernel) rfl
set_option maxRecDepth 100000 in
theorem kd_X1_nextDue : Cond.code yX1_nextDue cX1_nextDue 3 (some .int) ∈ tb := tb_mem 686 rfl rfl
set_option maxRecDepth 100000 in
theorem km_L_75 : Cond.methodLink RL 75 yX10_giver ∈ tb := tb_mem 687 (by decide +kernel) rfl
set_option maxRecDepth 100000 in
theorem kj_X10_giver : Cond.instanceMethod yX10_giver ∈ tb := tb_mem 688 (by decide +kernel) rfl
set_option maxRecDepth 100000 in
theorem kl_X10_giver : Cond.selects RX10 yX10_giver yX10_giver ∈ tb := tb_mem 689 (by decide +kernel) rfl
set_option maxRecDepth 100000 in
theorem kd_X10_giver : Cond.code yX10_giver cX10_giver 3 (some .int) ∈ tb := tb_mem 690 rfl rfl
set_option maxRecDepth 100000 in
theorem km_X10_200 : Cond.methodLink RX10 200 yX5_givenBy ∈ tb := tb_mem 691 (by decide +kernel) rfl
set_option maxRecDepth 100000 in
theorem kj_X5_givenBy : Cond.instanceMethod yX5_givenBy ∈ tb := tb_mem 692 (by decide +kernel) rfl
set_option maxRecDepth 100000 in
theorem kl_X5_givenBy : Cond.selects RX5 yX5_givenBy yX5_givenBy ∈ tb := tb_mem 693 (by decide +kernel) rfl
set_option maxRecDepth 100000 in
theorem kd_X5_givenBy : Cond.code yX5_givenBy cX5_givenBy 4 (some .int) ∈ tb := tb_mem 694 rfl rfl
set_option maxRecDepth 100000 in
theorem km_X10_203 : Cond.methodLink RX10 203 yX5_unclaimedOf ∈ tb := tb_mem 695 (by decide +kernel) rfl
set_option maxRecDepth 100000 in
theorem kj_X5_unclaimedOf : Cond.instanceMethod yX5_unclaimedOf ∈ tb := tb_mem 696 (by decide +kernel) rfl
set_option maxRecDepth 100000 in
theorem kl_X5_unclaimedOf : Cond.selects RX5 yX5_unclaimedOf yX5_unclaimedOf ∈ tb := tb_mem 697 (by decide +kernel) rfl
set_option maxRecDepth 100000 in
theorem kd_X5_unclaimedOf : Cond.code yX5_unclaimedOf cX5_unclaimedOf 4 (some .int) ∈ tb := tb_mem 698 rfl rfl
set_option maxRecDepth 100000 in
theorem km_X10_206 : Cond.methodLink RX10 206 yX0_declaredFrom ∈ tb := tb_mem 699 (by decide +kernel) rfl
set_option maxRecDepth 100000 in
theorem kj_X0_declaredFrom : Cond.instanceMethod yX0_declaredFrom ∈ tb := tb_mem 700 (by decide +kernel) rfl
set_option maxRecDepth 100000 in
theorem kl_X0_declaredFrom : Cond.selects RX0 yX0_declaredFrom yX0_declaredFrom ∈ tb := tb_mem 701 (by decide +kernel) rfl
set_option maxRecDepth 100000 in
theorem kd_X0_declaredFrom : Cond.code yX0_declaredFrom cX0_declaredFrom 2 (some .int) ∈ tb := tb_mem 702 rfl rfl
set_option maxRecDepth 100000 in
theorem km_X10_209 : Cond.methodLink RX10 209 yX0_declaredTo ∈ tb := tb_mem 703 (by decide +kernel) rfl
set_option maxRecDepth 100000 in
theorem kj_X0_declaredTo : Cond.instanceMethod yX0_declaredTo ∈ tb := tb_mem 704 (by decide +kernel) rfl
set_option maxRecDepth 100000 in
theorem kl_X0_declaredTo : Cond.selects RX0 yX0_declaredTo yX0_declaredTo ∈ tb := tb_mem 705 (by decide +kernel) rfl
set_option maxRecDepth 100000 in
theorem kd_X0_declaredTo : Cond.code yX0_declaredTo cX0_declaredTo 2 (some .int) ∈ tb := tb_mem 706 rfl rfl
set_option maxRecDepth 100000 in
theorem km_X10_212 : Cond.methodLink RX10 212 yX0_isWithoutName ∈ tb := tb_mem 707 (by decide +kernel) rfl
set_option maxRecDepth 100000 in
theorem kj_X0_isWithoutName : Cond.instanceMethod yX0_isWithoutName ∈ tb := tb_mem 708 (by decide +kernel) rfl
set_option maxRecDepth 100000 in
theorem kl_X0_isWithoutName : Cond.selects RX0 yX0_isWithoutName yX0_isWithoutName ∈ tb := tb_mem 709 (by decide +kernel) rfl
set_option maxRecDepth 100000 in
theorem kd_X0_isWithoutName : Cond.code yX0_isWithoutName cX0_isWithoutName 2 (some .boolean) ∈ tb := tb_mem 710 rfl rfl
set_option maxRecDepth 100000 in
theorem km_L_79 : Cond.methodLink RL 79 yX10_stage ∈ tb := tb_mem 711 (by decide +kernel) rfl
set_option maxRecDepth 100000 in
theorem kj_X10_stage : Cond.instanceMethod yX10_stage ∈ tb := tb_mem 712 (by decide +kernel) rfl
set_option maxRecDepth 100000 in
theorem kl_X10_stage : Cond.selects RX10 yX10_stage yX10_stage ∈ tb := tb_mem 713 (by decide +kernel) rfl
set_option maxRecDepth 100000 in
theorem kd_X10_stage : Cond.code yX10_stage cX10_stage 3 (some .int) ∈ tb := tb_mem 714 rfl rfl
set_option maxRecDepth 100000 in
theorem kk_X10_215 : Cond.constant RX10 215 (100000000 : Int32) ∈ tb := tb_mem 715 (by decide +kernel) rfl
set_option maxRecDepth 100000 in
theorem km_X10_216 : Cond.methodLink RX10 216 yX7_isFull ∈ tb := tb_mem 716 (by decide +kernel) rfl
set_option maxRecDepth 100000 in
theorem kj_X7_isFull : Cond.instanceMethod yX7_isFull ∈ tb := tb_mem 717 (by decide +kernel) rfl
set_option maxRecDepth 100000 in
theorem kl_X7_isFull : Cond.selects RX7 yX7_isFull yX7_isFull ∈ tb := tb_mem 718 (by decide +kernel) rfl
set_option maxRecDepth 100000 in
theorem kd_X7_isFull : Cond.code yX7_isFull cX7_isFull 1 (some .boolean) ∈ tb := tb_mem 719 rfl rfl
set_option maxRecDepth 100000 in
theorem kc_X10_217 : Cond.classLink RX10 217 RX4 ∈ tb := tb_mem 720 (by decide +kernel) rfl
set_option maxRecDepth 100000 in
theorem kn_X4 : Cond.instantiable RX4 6 ∈ tb := tb_mem 721 (by decide +kernel) rfl
set_option maxRecDepth 100000 in
theorem km_X10_219 : Cond.methodLink RX10 219 yX4_init ∈ tb := tb_mem 722 (by decide +kernel) rfl
set_option maxRecDepth 100000 in
theorem kj_X4_init : Cond.instanceMethod yX4_init ∈ tb := tb_mem 723 (by decide +kernel) rfl
set_option maxRecDepth 100000 in
theorem kd_X4_init : Cond.code yX4_init cX4_init 3 none ∈ tb := tb_mem 724 rfl rfl
set_option maxRecDepth 100000 in
theorem km_X4_1 : Cond.methodLink RX4 1 objectInit ∈ tb := tb_mem 725 (by decide +kernel) rfl
set_option maxRecDepth 100000 in
theorem kf_X4_13 : Cond.fieldLink RX4 13 "TowerAppeal$Stage" "cost" "I" ∈ tb := tb_mem 726 (by decide +kernel) rfl
set_option maxRecDepth 100000 in
theorem kf_X4_16 : Cond.fieldLink RX4 16 "TowerAppeal$Stage" "parts" "I" ∈ tb := tb_mem 727 (by decide +kernel) rfl
set_option maxRecDepth 100000 in
theorem kf_X4_9 : Cond.fieldLink RX4 9 "TowerAppeal$Stage" "progress" "I" ∈ tb := tb_mem 728 (by decide +kernel) rfl
set_option maxRecDepth 100000 in
theorem kf_X4_25 : Cond.fieldLink RX4 25 "TowerAppeal$Stage" "partsPaid" "I" ∈ tb := tb_mem 729 (by decide +kernel) rfl
set_option maxRecDepth 100000 in
theorem kf_X4_19 : Cond.fieldLink RX4 19 "TowerAppeal$Stage" "paid" "I" ∈ tb := tb_mem 730 (by decide +kernel) rfl
set_option maxRecDepth 100000 in
theorem kf_X4_22 : Cond.fieldLink RX4 22 "TowerAppeal$Stage" "paused" "I" ∈ tb := tb_mem 731 (by decide +kernel) rfl
set_option maxRecDepth 100000 in
theorem km_X10_221 : Cond.methodLink RX10 221 yX7_add ∈ tb := tb_mem 745 (by decide +kernel) rfl
set_option maxRecDepth 100000 in
theorem kj_X7_add : Cond.instanceMethod yX7_add ∈ tb := tb_mem 746 (by decide +kernel) rfl
set_option maxRecDepth 100000 in
theorem kl_X7_add : Cond.selects RX7 yX7_add yX7_add ∈ tb := tb_mem 747 (by decide +kernel) rfl
set_option maxRecDepth 100000 in
theorem kd_X7_add : Cond.code yX7_add cX7_add 2 (some .int) ∈ tb := tb_mem 748 rfl rfl
set_option maxRecDepth 100000 in
theorem km_L_83 : Cond.methodLink RL 83 yX10_begin ∈ tb := tb_mem 749 (by decide +kernel) rfl
set_option maxRecDepth 100000 in
theorem kj_X10_begin : Cond.instanceMethod yX10_begin ∈ tb := tb_mem 750 (by decide +kernel) rfl
set_option maxRecDepth 100000 in
theorem kl_X10_begin : Cond.selects RX10 yX10_begin yX10_begin ∈ tb := tb_mem 751 (by decide +kernel) rfl
set_option maxRecDepth 100000 in
theorem kd_X10_begin : Cond.code yX10_begin cX10_begin 1 (some .int) ∈ tb := tb_mem 752 rfl rfl
set_option maxRecDepth 100000 in
theorem km_X10_224 : Cond.methodLink RX10 224 yX7_mayStartNext ∈ tb := tb_mem 753 (by decide +kernel) rfl
set_option maxRecDepth 100000 in
theorem kj_X7_mayStartNext : Cond.instanceMethod yX7_mayStartNext ∈ tb := tb_mem 754 (by decide +kernel) rfl
set_option maxRecDepth 100000 in
theorem kl_X7_mayStartNext : Cond.selects RX7 yX7_mayStartNext yX7_mayStartNext ∈ tb := tb_mem 755 (by decide +kernel) rfl
set_option maxRecDepth 100000 in
theorem kd_X7_mayStartNext : Cond.code yX7_mayStartNext cX7_mayStartNext 1 (some .boolean) ∈ tb := tb_mem 756 rfl rfl
set_option maxRecDepth 100000 in
theorem km_X7_32 : Cond.methodLink RX7 32 yX7_running ∈ tb := tb_mem 757 (by decide +kernel) rfl
set_option maxRecDepth 100000 in
theorem kj_X7_running : Cond.instanceMethod yX7_running ∈ tb := tb_mem 759 (by decide +kernel) rfl
set_option maxRecDepth 100000 in
theorem kd_X7_running : Cond.code yX7_running cX7_running 2 (some (.object "TowerAppeal$Stage")) ∈ tb := tb_mem 760 rfl rfl
set_option maxRecDepth 100000 in
theorem km_X7_24 : Cond.methodLink RX7 24 yX7_at ∈ tb := tb_mem 761 (by decide +kernel) rfl
set_option maxRecDepth 100000 in
theorem kj_X7_at : Cond.instanceMethod yX7_at ∈ tb := tb_mem 762 (by decide +kernel) rfl
set_option maxRecDepth 100000 in
theorem kl_X7_at : Cond.selects RX7 yX7_at yX7_at ∈ tb := tb_mem 763 (by decide +kernel) rfl
set_option maxRecDepth 100000 in
theorem kd_X7_at : Cond.code yX7_at cX7_at 2 (some (.object "TowerAppeal$Stage")) ∈ tb := tb_mem 764 rfl rfl

