/-! WORDS OF METHODS AND CALLS -/
theorem v_X0_count : ab_vi yX0_count cX0_count 1 (some .int) 0 := ⟨(ab_mem 394 (by decide +kernel) rfl), (ab_mem 395 (by decide +kernel) rfl), (ab_mem 43 (by decide +kernel) rfl), (ab_mem 396 (by decide +kernel) rfl), (by decide +kernel), (by decide +kernel), (by decide +kernel)⟩
theorem v_X0_forgetAll : ab_vi yX0_forgetAll cX0_forgetAll 1 none 0 := ⟨(ab_mem 327 (by decide +kernel) rfl), (ab_mem 328 (by decide +kernel) rfl), (ab_mem 43 (by decide +kernel) rfl), (ab_mem 329 (by decide +kernel) rfl), (by decide +kernel), (by decide +kernel), (by decide +kernel)⟩
theorem v_X0_remember : ab_vi yX0_remember cX0_remember 3 none 1 := ⟨(ab_mem 440 (by decide +kernel) rfl), (ab_mem 441 (by decide +kernel) rfl), (ab_mem 43 (by decide +kernel) rfl), (ab_mem 442 (by decide +kernel) rfl), (by decide +kernel), (by decide +kernel), (by decide +kernel)⟩
theorem v_X0_forgetFirst : ab_vi yX0_forgetFirst cX0_forgetFirst 2 none 0 := ⟨(ab_mem 445 (by decide +kernel) rfl), (ab_mem 3 (by decide +kernel) rfl), (ab_mem 43 (by decide +kernel) rfl), (ab_mem 446 (by decide +kernel) rfl), (by decide +kernel), (by decide +kernel), (by decide +kernel)⟩
theorem v_X0_takeLast : ab_vi yX0_takeLast cX0_takeLast 1 (some .long) 0 := ⟨(ab_mem 510 (by decide +kernel) rfl), (ab_mem 511 (by decide +kernel) rfl), (ab_mem 43 (by decide +kernel) rfl), (ab_mem 512 (by decide +kernel) rfl), (by decide +kernel), (by decide +kernel), (by decide +kernel)⟩
theorem v_X1_weighPairs : ab_vi yX1_weighPairs cX1_weighPairs 8 none 2 := ⟨(ab_mem 725 (by decide +kernel) rfl), (ab_mem 726 (by decide +kernel) rfl), (ab_mem 45 (by decide +kernel) rfl), (ab_mem 727 (by decide +kernel) rfl), (by decide +kernel), (by decide +kernel), (by decide +kernel)⟩
theorem v_X1_hasBy : ab_vs yX1_hasBy cX1_hasBy 2 (some .int) 2 := ⟨(ab_mem 742 (by decide +kernel) rfl), (ab_mem 45 (by decide +kernel) rfl), (ab_mem 743 (by decide +kernel) rfl), (by decide +kernel), (by decide +kernel), (by decide +kernel)⟩
theorem v_X1_isRest : ab_vi yX1_isRest cX1_isRest 2 (some .boolean) 1 := ⟨(ab_mem 739 (by decide +kernel) rfl), (ab_mem 13 (by decide +kernel) rfl), (ab_mem 45 (by decide +kernel) rfl), (ab_mem 740 (by decide +kernel) rfl), (by decide +kernel), (by decide +kernel), (by decide +kernel)⟩
theorem v_X1_restCount : ab_vi yX1_restCount cX1_restCount 3 (some .int) 0 := ⟨(ab_mem 734 (by decide +kernel) rfl), (ab_mem 735 (by decide +kernel) rfl), (ab_mem 45 (by decide +kernel) rfl), (ab_mem 736 (by decide +kernel) rfl), (by decide +kernel), (by decide +kernel), (by decide +kernel)⟩
theorem v_X1_firstRest : ab_vi yX1_firstRest cX1_firstRest 2 (some .int) 0 := ⟨(ab_mem 745 (by decide +kernel) rfl), (ab_mem 746 (by decide +kernel) rfl), (ab_mem 45 (by decide +kernel) rfl), (ab_mem 747 (by decide +kernel) rfl), (by decide +kernel), (by decide +kernel), (by decide +kernel)⟩
theorem v_X1_weightInTime : ab_vi yX1_weightInTime cX1_weightInTime 8 (some .int) 2 := ⟨(ab_mem 754 (by decide +kernel) rfl), (ab_mem 755 (by decide +kernel) rfl), (ab_mem 45 (by decide +kernel) rfl), (ab_mem 756 (by decide +kernel) rfl), (by decide +kernel), (by decide +kernel), (by decide +kernel)⟩
theorem v_X1_isInTimePricked : ab_vi yX1_isInTimePricked cX1_isInTimePricked 4 (some .boolean) 2 := ⟨(ab_mem 762 (by decide +kernel) rfl), (ab_mem 14 (by decide +kernel) rfl), (ab_mem 45 (by decide +kernel) rfl), (ab_mem 763 (by decide +kernel) rfl), (by decide +kernel), (by decide +kernel), (by decide +kernel)⟩
theorem v_X1_setOut : ab_vi yX1_setOut cX1_setOut 1 none 0 := ⟨(ab_mem 774 (by decide +kernel) rfl), (ab_mem 775 (by decide +kernel) rfl), (ab_mem 45 (by decide +kernel) rfl), (ab_mem 776 (by decide +kernel) rfl), (by decide +kernel), (by decide +kernel), (by decide +kernel)⟩
theorem v_X1_mileBehindLot : ab_vi yX1_mileBehindLot cX1_mileBehindLot 2 (some .int) 1 := ⟨(ab_mem 781 (by decide +kernel) rfl), (ab_mem 782 (by decide +kernel) rfl), (ab_mem 45 (by decide +kernel) rfl), (ab_mem 783 (by decide +kernel) rfl), (by decide +kernel), (by decide +kernel), (by decide +kernel)⟩
theorem v_X2_mile : ab_vi yX2_mile cX2_mile 1 (some .int) 0 := ⟨(ab_mem 347 (by decide +kernel) rfl), (ab_mem 348 (by decide +kernel) rfl), (ab_mem 42 (by decide +kernel) rfl), (ab_mem 349 (by decide +kernel) rfl), (by decide +kernel), (by decide +kernel), (by decide +kernel)⟩
theorem v_X2_dayNumber : ab_vi yX2_dayNumber cX2_dayNumber 1 (some .int) 0 := ⟨(ab_mem 351 (by decide +kernel) rfl), (ab_mem 352 (by decide +kernel) rfl), (ab_mem 42 (by decide +kernel) rfl), (ab_mem 353 (by decide +kernel) rfl), (by decide +kernel), (by decide +kernel), (by decide +kernel)⟩
theorem v_X2_end : ab_vi yX2_end cX2_end 1 (some .int) 0 := ⟨(ab_mem 670 (by decide +kernel) rfl), (ab_mem 671 (by decide +kernel) rfl), (ab_mem 42 (by decide +kernel) rfl), (ab_mem 672 (by decide +kernel) rfl), (by decide +kernel), (by decide +kernel), (by decide +kernel)⟩
theorem v_X2_menCount : ab_vi yX2_menCount cX2_menCount 1 (some .int) 0 := ⟨(ab_mem 575 (by decide +kernel) rfl), (ab_mem 576 (by decide +kernel) rfl), (ab_mem 42 (by decide +kernel) rfl), (ab_mem 577 (by decide +kernel) rfl), (by decide +kernel), (by decide +kernel), (by decide +kernel)⟩
theorem v_X2_isThere : ab_vi yX2_isThere cX2_isThere 1 (some .boolean) 0 := ⟨(ab_mem 452 (by decide +kernel) rfl), (ab_mem 453 (by decide +kernel) rfl), (ab_mem 42 (by decide +kernel) rfl), (ab_mem 454 (by decide +kernel) rfl), (by decide +kernel), (by decide +kernel), (by decide +kernel)⟩
theorem v_X2_begin : ab_vi yX2_begin cX2_begin 2 none 0 := ⟨(ab_mem 315 (by decide +kernel) rfl), (ab_mem 316 (by decide +kernel) rfl), (ab_mem 42 (by decide +kernel) rfl), (ab_mem 317 (by decide +kernel) rfl), (by decide +kernel), (by decide +kernel), (by decide +kernel)⟩
theorem v_X2_follow : ab_vi yX2_follow cX2_follow 3 none 1 := ⟨(ab_mem 531 (by decide +kernel) rfl), (ab_mem 532 (by decide +kernel) rfl), (ab_mem 42 (by decide +kernel) rfl), (ab_mem 533 (by decide +kernel) rfl), (by decide +kernel), (by decide +kernel), (by decide +kernel)⟩
theorem v_X2_followWith : ab_vi yX2_followWith cX2_followWith 3 none 2 := ⟨(ab_mem 674 (by decide +kernel) rfl), (ab_mem 675 (by decide +kernel) rfl), (ab_mem 42 (by decide +kernel) rfl), (ab_mem 676 (by decide +kernel) rfl), (by decide +kernel), (by decide +kernel), (by decide +kernel)⟩
theorem v_X2_packed : ab_vi yX2_packed cX2_packed 4 (some .long) 0 := ⟨(ab_mem 436 (by decide +kernel) rfl), (ab_mem 437 (by decide +kernel) rfl), (ab_mem 42 (by decide +kernel) rfl), (ab_mem 438 (by decide +kernel) rfl), (by decide +kernel), (by decide +kernel), (by decide +kernel)⟩
theorem v_X2_unpack : ab_vi yX2_unpack cX2_unpack 6 none 1 := ⟨(ab_mem 514 (by decide +kernel) rfl), (ab_mem 515 (by decide +kernel) rfl), (ab_mem 42 (by decide +kernel) rfl), (ab_mem 516 (by decide +kernel) rfl), (by decide +kernel), (by decide +kernel), (by decide +kernel)⟩
theorem v_X2_thornsOf : ab_vi yX2_thornsOf cX2_thornsOf 2 (some .int) 1 := ⟨(ab_mem 382 (by decide +kernel) rfl), (ab_mem 383 (by decide +kernel) rfl), (ab_mem 42 (by decide +kernel) rfl), (ab_mem 384 (by decide +kernel) rfl), (by decide +kernel), (by decide +kernel), (by decide +kernel)⟩
theorem v_X2_allThorns : ab_vi yX2_allThorns cX2_allThorns 3 (some .int) 0 := ⟨(ab_mem 390 (by decide +kernel) rfl), (ab_mem 391 (by decide +kernel) rfl), (ab_mem 42 (by decide +kernel) rfl), (ab_mem 392 (by decide +kernel) rfl), (by decide +kernel), (by decide +kernel), (by decide +kernel)⟩
theorem v_X2_speedOf : ab_vi yX2_speedOf cX2_speedOf 2 (some .int) 1 := ⟨(ab_mem 378 (by decide +kernel) rfl), (ab_mem 379 (by decide +kernel) rfl), (ab_mem 42 (by decide +kernel) rfl), (ab_mem 380 (by decide +kernel) rfl), (by decide +kernel), (by decide +kernel), (by decide +kernel)⟩
theorem v_X2_leader : ab_vi yX2_leader cX2_leader 6 (some .int) 0 := ⟨(ab_mem 355 (by decide +kernel) rfl), (ab_mem 356 (by decide +kernel) rfl), (ab_mem 42 (by decide +kernel) rfl), (ab_mem 357 (by decide +kernel) rfl), (by decide +kernel), (by decide +kernel), (by decide +kernel)⟩
theorem v_X2_leaderSpeed : ab_vi yX2_leaderSpeed cX2_leaderSpeed 2 (some .int) 0 := ⟨(ab_mem 373 (by decide +kernel) rfl), (ab_mem 374 (by decide +kernel) rfl), (ab_mem 42 (by decide +kernel) rfl), (ab_mem 375 (by decide +kernel) rfl), (by decide +kernel), (by decide +kernel), (by decide +kernel)⟩
theorem v_X2_canPrick : ab_vi yX2_canPrick cX2_canPrick 2 (some .boolean) 1 := ⟨(ab_mem 489 (by decide +kernel) rfl), (ab_mem 490 (by decide +kernel) rfl), (ab_mem 42 (by decide +kernel) rfl), (ab_mem 491 (by decide +kernel) rfl), (by decide +kernel), (by decide +kernel), (by decide +kernel)⟩
theorem v_X2_prick : ab_vi yX2_prick cX2_prick 2 none 1 := ⟨(ab_mem 468 (by decide +kernel) rfl), (ab_mem 469 (by decide +kernel) rfl), (ab_mem 42 (by decide +kernel) rfl), (ab_mem 470 (by decide +kernel) rfl), (by decide +kernel), (by decide +kernel), (by decide +kernel)⟩
theorem v_X2_canEase : ab_vi yX2_canEase cX2_canEase 2 (some .boolean) 1 := ⟨(ab_mem 498 (by decide +kernel) rfl), (ab_mem 499 (by decide +kernel) rfl), (ab_mem 42 (by decide +kernel) rfl), (ab_mem 500 (by decide +kernel) rfl), (by decide +kernel), (by decide +kernel), (by decide +kernel)⟩
theorem v_X2_ease : ab_vi yX2_ease cX2_ease 2 none 1 := ⟨(ab_mem 502 (by decide +kernel) rfl), (ab_mem 503 (by decide +kernel) rfl), (ab_mem 42 (by decide +kernel) rfl), (ab_mem 504 (by decide +kernel) rfl), (by decide +kernel), (by decide +kernel), (by decide +kernel)⟩
theorem v_X2_easeTimes : ab_vi yX2_easeTimes cX2_easeTimes 4 none 2 := ⟨(ab_mem 613 (by decide +kernel) rfl), (ab_mem 614 (by decide +kernel) rfl), (ab_mem 42 (by decide +kernel) rfl), (ab_mem 615 (by decide +kernel) rfl), (by decide +kernel), (by decide +kernel), (by decide +kernel)⟩
theorem v_X2_goDay : ab_vi yX2_goDay cX2_goDay 4 (some .int) 0 := ⟨(ab_mem 448 (by decide +kernel) rfl), (ab_mem 449 (by decide +kernel) rfl), (ab_mem 42 (by decide +kernel) rfl), (ab_mem 450 (by decide +kernel) rfl), (by decide +kernel), (by decide +kernel), (by decide +kernel)⟩
theorem v_X2_milesOver : ab_vs yX2_milesOver cX2_milesOver 2 (some .int) 2 := ⟨(ab_mem 459 (by decide +kernel) rfl), (ab_mem 42 (by decide +kernel) rfl), (ab_mem 460 (by decide +kernel) rfl), (by decide +kernel), (by decide +kernel), (by decide +kernel)⟩
theorem v_X2_goDays : ab_vi yX2_goDays cX2_goDays 3 none 1 := ⟨(ab_mem 535 (by decide +kernel) rfl), (ab_mem 536 (by decide +kernel) rfl), (ab_mem 42 (by decide +kernel) rfl), (ab_mem 537 (by decide +kernel) rfl), (by decide +kernel), (by decide +kernel), (by decide +kernel)⟩
theorem v_X2_goToEnd : ab_vi yX2_goToEnd cX2_goToEnd 3 (some .int) 1 := ⟨(ab_mem 554 (by decide +kernel) rfl), (ab_mem 555 (by decide +kernel) rfl), (ab_mem 42 (by decide +kernel) rfl), (ab_mem 556 (by decide +kernel) rfl), (by decide +kernel), (by decide +kernel), (by decide +kernel)⟩
theorem v_X2_stay : ab_vi yX2_stay cX2_stay 1 none 0 := ⟨(ab_mem 481 (by decide +kernel) rfl), (ab_mem 482 (by decide +kernel) rfl), (ab_mem 42 (by decide +kernel) rfl), (ab_mem 483 (by decide +kernel) rfl), (by decide +kernel), (by decide +kernel), (by decide +kernel)⟩
theorem v_X2_healAll : ab_vi yX2_healAll cX2_healAll 2 none 0 := ⟨(ab_mem 474 (by decide +kernel) rfl), (ab_mem 4 (by decide +kernel) rfl), (ab_mem 42 (by decide +kernel) rfl), (ab_mem 475 (by decide +kernel) rfl), (by decide +kernel), (by decide +kernel), (by decide +kernel)⟩
theorem v_X3_mileIn : ab_vi yX3_mileIn cX3_mileIn 2 (some .int) 1 := ⟨(ab_mem 527 (by decide +kernel) rfl), (ab_mem 528 (by decide +kernel) rfl), (ab_mem 44 (by decide +kernel) rfl), (ab_mem 529 (by decide +kernel) rfl), (by decide +kernel), (by decide +kernel), (by decide +kernel)⟩
theorem v_X3_leaderIn : ab_vi yX3_leaderIn cX3_leaderIn 2 (some .int) 1 := ⟨(ab_mem 541 (by decide +kernel) rfl), (ab_mem 542 (by decide +kernel) rfl), (ab_mem 44 (by decide +kernel) rfl), (ab_mem 543 (by decide +kernel) rfl), (by decide +kernel), (by decide +kernel), (by decide +kernel)⟩
theorem v_X3_daysToEnd : ab_vi yX3_daysToEnd cX3_daysToEnd 1 (some .int) 0 := ⟨(ab_mem 550 (by decide +kernel) rfl), (ab_mem 551 (by decide +kernel) rfl), (ab_mem 44 (by decide +kernel) rfl), (ab_mem 552 (by decide +kernel) rfl), (by decide +kernel), (by decide +kernel), (by decide +kernel)⟩
theorem v_X3_daysToLead : ab_vi yX3_daysToLead cX3_daysToLead 3 (some .int) 1 := ⟨(ab_mem 562 (by decide +kernel) rfl), (ab_mem 563 (by decide +kernel) rfl), (ab_mem 44 (by decide +kernel) rfl), (ab_mem 564 (by decide +kernel) rfl), (by decide +kernel), (by decide +kernel), (by decide +kernel)⟩
theorem v_X3_bestCure : ab_vi yX3_bestCure cX3_bestCure 6 (some .int) 1 := ⟨(ab_mem 571 (by decide +kernel) rfl), (ab_mem 572 (by decide +kernel) rfl), (ab_mem 44 (by decide +kernel) rfl), (ab_mem 573 (by decide +kernel) rfl), (by decide +kernel), (by decide +kernel), (by decide +kernel)⟩
theorem v_X3_daysIfEased : ab_vi yX3_daysIfEased cX3_daysIfEased 2 (some .int) 1 := ⟨(ab_mem 581 (by decide +kernel) rfl), (ab_mem 5 (by decide +kernel) rfl), (ab_mem 44 (by decide +kernel) rfl), (ab_mem 582 (by decide +kernel) rfl), (by decide +kernel), (by decide +kernel), (by decide +kernel)⟩
theorem v_X3_fewestPulls : ab_vi yX3_fewestPulls cX3_fewestPulls 7 (some .int) 1 := ⟨(ab_mem 589 (by decide +kernel) rfl), (ab_mem 590 (by decide +kernel) rfl), (ab_mem 44 (by decide +kernel) rfl), (ab_mem 591 (by decide +kernel) rfl), (by decide +kernel), (by decide +kernel), (by decide +kernel)⟩
theorem v_X3_pullsOf : ab_vi yX3_pullsOf cX3_pullsOf 3 (some .int) 2 := ⟨(ab_mem 601 (by decide +kernel) rfl), (ab_mem 6 (by decide +kernel) rfl), (ab_mem 44 (by decide +kernel) rfl), (ab_mem 602 (by decide +kernel) rfl), (by decide +kernel), (by decide +kernel), (by decide +kernel)⟩
theorem v_X3_canPull : ab_vi yX3_canPull cX3_canPull 3 (some .boolean) 1 := ⟨(ab_mem 605 (by decide +kernel) rfl), (ab_mem 7 (by decide +kernel) rfl), (ab_mem 44 (by decide +kernel) rfl), (ab_mem 606 (by decide +kernel) rfl), (by decide +kernel), (by decide +kernel), (by decide +kernel)⟩
theorem v_X3_isInTime : ab_vi yX3_isInTime cX3_isInTime 4 (some .boolean) 2 := ⟨(ab_mem 610 (by decide +kernel) rfl), (ab_mem 8 (by decide +kernel) rfl), (ab_mem 44 (by decide +kernel) rfl), (ab_mem 611 (by decide +kernel) rfl), (by decide +kernel), (by decide +kernel), (by decide +kernel)⟩
theorem v_X3_pullsInAll : ab_vi yX3_pullsInAll cX3_pullsInAll 4 (some .int) 1 := ⟨(ab_mem 596 (by decide +kernel) rfl), (ab_mem 597 (by decide +kernel) rfl), (ab_mem 44 (by decide +kernel) rfl), (ab_mem 598 (by decide +kernel) rfl), (by decide +kernel), (by decide +kernel), (by decide +kernel)⟩
theorem v_X3_pullFigures : ab_vi yX3_pullFigures cX3_pullFigures 4 (some .int) 1 := ⟨(ab_mem 619 (by decide +kernel) rfl), (ab_mem 620 (by decide +kernel) rfl), (ab_mem 44 (by decide +kernel) rfl), (ab_mem 621 (by decide +kernel) rfl), (by decide +kernel), (by decide +kernel), (by decide +kernel)⟩
theorem v_X3_firstImpossible : ab_vi yX3_firstImpossible cX3_firstImpossible 8 (some .int) 2 := ⟨(ab_mem 629 (by decide +kernel) rfl), (ab_mem 630 (by decide +kernel) rfl), (ab_mem 44 (by decide +kernel) rfl), (ab_mem 631 (by decide +kernel) rfl), (by decide +kernel), (by decide +kernel), (by decide +kernel)⟩
theorem v_X3_does : ab_vi yX3_does cX3_does 4 (some .boolean) 3 := ⟨(ab_mem 636 (by decide +kernel) rfl), (ab_mem 9 (by decide +kernel) rfl), (ab_mem 44 (by decide +kernel) rfl), (ab_mem 637 (by decide +kernel) rfl), (by decide +kernel), (by decide +kernel), (by decide +kernel)⟩
theorem v_X3_doesPlain : ab_vi yX3_doesPlain cX3_doesPlain 4 (some .boolean) 2 := ⟨(ab_mem 640 (by decide +kernel) rfl), (ab_mem 10 (by decide +kernel) rfl), (ab_mem 44 (by decide +kernel) rfl), (ab_mem 641 (by decide +kernel) rfl), (by decide +kernel), (by decide +kernel), (by decide +kernel)⟩
theorem v_X3_lossOverOrders : ab_vi yX3_lossOverOrders cX3_lossOverOrders 7 (some .int) 1 := ⟨(ab_mem 655 (by decide +kernel) rfl), (ab_mem 656 (by decide +kernel) rfl), (ab_mem 44 (by decide +kernel) rfl), (ab_mem 657 (by decide +kernel) rfl), (by decide +kernel), (by decide +kernel), (by decide +kernel)⟩
theorem v_X3_mileOfSome : ab_vi yX3_mileOfSome cX3_mileOfSome 2 (some .int) 1 := ⟨(ab_mem 667 (by decide +kernel) rfl), (ab_mem 11 (by decide +kernel) rfl), (ab_mem 44 (by decide +kernel) rfl), (ab_mem 668 (by decide +kernel) rfl), (by decide +kernel), (by decide +kernel), (by decide +kernel)⟩
theorem v_X4_count : ab_vi yX4_count cX4_count 1 (some .int) 0 := ⟨(ab_mem 331 (by decide +kernel) rfl), (ab_mem 332 (by decide +kernel) rfl), (ab_mem 40 (by decide +kernel) rfl), (ab_mem 333 (by decide +kernel) rfl), (by decide +kernel), (by decide +kernel), (by decide +kernel)⟩
theorem v_X4_end : ab_vi yX4_end cX4_end 1 (some .int) 0 := ⟨(ab_mem 343 (by decide +kernel) rfl), (ab_mem 344 (by decide +kernel) rfl), (ab_mem 40 (by decide +kernel) rfl), (ab_mem 345 (by decide +kernel) rfl), (by decide +kernel), (by decide +kernel), (by decide +kernel)⟩
theorem v_X4_empty : ab_vi yX4_empty cX4_empty 1 none 0 := ⟨(ab_mem 299 (by decide +kernel) rfl), (ab_mem 300 (by decide +kernel) rfl), (ab_mem 40 (by decide +kernel) rfl), (ab_mem 301 (by decide +kernel) rfl), (by decide +kernel), (by decide +kernel), (by decide +kernel)⟩
theorem v_X4_add : ab_vi yX4_add cX4_add 4 none 2 := ⟨(ab_mem 307 (by decide +kernel) rfl), (ab_mem 308 (by decide +kernel) rfl), (ab_mem 40 (by decide +kernel) rfl), (ab_mem 309 (by decide +kernel) rfl), (by decide +kernel), (by decide +kernel), (by decide +kernel)⟩
theorem v_X4_has : ab_vi yX4_has cX4_has 2 (some .boolean) 1 := ⟨(ab_mem 415 (by decide +kernel) rfl), (ab_mem 416 (by decide +kernel) rfl), (ab_mem 40 (by decide +kernel) rfl), (ab_mem 417 (by decide +kernel) rfl), (by decide +kernel), (by decide +kernel), (by decide +kernel)⟩
theorem v_X4_milesOf : ab_vi yX4_milesOf cX4_milesOf 2 (some .int) 1 := ⟨(ab_mem 419 (by decide +kernel) rfl), (ab_mem 420 (by decide +kernel) rfl), (ab_mem 40 (by decide +kernel) rfl), (ab_mem 421 (by decide +kernel) rfl), (by decide +kernel), (by decide +kernel), (by decide +kernel)⟩
theorem v_X4_groundOf : ab_vi yX4_groundOf cX4_groundOf 2 (some .int) 1 := ⟨(ab_mem 424 (by decide +kernel) rfl), (ab_mem 425 (by decide +kernel) rfl), (ab_mem 40 (by decide +kernel) rfl), (ab_mem 426 (by decide +kernel) rfl), (by decide +kernel), (by decide +kernel), (by decide +kernel)⟩
theorem v_X4_beginOf : ab_vi yX4_beginOf cX4_beginOf 2 (some .int) 1 := ⟨(ab_mem 428 (by decide +kernel) rfl), (ab_mem 429 (by decide +kernel) rfl), (ab_mem 40 (by decide +kernel) rfl), (ab_mem 430 (by decide +kernel) rfl), (by decide +kernel), (by decide +kernel), (by decide +kernel)⟩
theorem v_X4_stretchAt : ab_vi yX4_stretchAt cX4_stretchAt 2 (some .int) 1 := ⟨(ab_mem 386 (by decide +kernel) rfl), (ab_mem 387 (by decide +kernel) rfl), (ab_mem 40 (by decide +kernel) rfl), (ab_mem 388 (by decide +kernel) rfl), (by decide +kernel), (by decide +kernel), (by decide +kernel)⟩
theorem v_X5_size : ab_vi yX5_size cX5_size 1 (some .int) 0 := ⟨(ab_mem 247 (by decide +kernel) rfl), (ab_mem 248 (by decide +kernel) rfl), (ab_mem 39 (by decide +kernel) rfl), (ab_mem 249 (by decide +kernel) rfl), (by decide +kernel), (by decide +kernel), (by decide +kernel)⟩
theorem v_X5_empty : ab_vi yX5_empty cX5_empty 1 none 0 := ⟨(ab_mem 259 (by decide +kernel) rfl), (ab_mem 260 (by decide +kernel) rfl), (ab_mem 39 (by decide +kernel) rfl), (ab_mem 261 (by decide +kernel) rfl), (by decide +kernel), (by decide +kernel), (by decide +kernel)⟩
theorem v_X5_append : ab_vi yX5_append cX5_append 2 none 1 := ⟨(ab_mem 251 (by decide +kernel) rfl), (ab_mem 252 (by decide +kernel) rfl), (ab_mem 39 (by decide +kernel) rfl), (ab_mem 253 (by decide +kernel) rfl), (by decide +kernel), (by decide +kernel), (by decide +kernel)⟩
theorem v_X5_letterAt : ab_vi yX5_letterAt cX5_letterAt 2 (some .int) 1 := ⟨(ab_mem 272 (by decide +kernel) rfl), (ab_mem 0 (by decide +kernel) rfl), (ab_mem 39 (by decide +kernel) rfl), (ab_mem 273 (by decide +kernel) rfl), (by decide +kernel), (by decide +kernel), (by decide +kernel)⟩
theorem v_X5_figureAt : ab_vi yX5_figureAt cX5_figureAt 2 (some .int) 1 := ⟨(ab_mem 284 (by decide +kernel) rfl), (ab_mem 2 (by decide +kernel) rfl), (ab_mem 39 (by decide +kernel) rfl), (ab_mem 285 (by decide +kernel) rfl), (by decide +kernel), (by decide +kernel), (by decide +kernel)⟩
theorem v_X5_faultPlace : ab_vi yX5_faultPlace cX5_faultPlace 7 (some .int) 0 := ⟨(ab_mem 267 (by decide +kernel) rfl), (ab_mem 268 (by decide +kernel) rfl), (ab_mem 39 (by decide +kernel) rfl), (ab_mem 269 (by decide +kernel) rfl), (by decide +kernel), (by decide +kernel), (by decide +kernel)⟩
theorem v_X5_misfitFrom : ab_vi yX5_misfitFrom cX5_misfitFrom 6 (some .int) 3 := ⟨(ab_mem 280 (by decide +kernel) rfl), (ab_mem 1 (by decide +kernel) rfl), (ab_mem 39 (by decide +kernel) rfl), (ab_mem 281 (by decide +kernel) rfl), (by decide +kernel), (by decide +kernel), (by decide +kernel)⟩
theorem v_X5_tell : ab_vi yX5_tell cX5_tell 5 none 2 := ⟨(ab_mem 295 (by decide +kernel) rfl), (ab_mem 296 (by decide +kernel) rfl), (ab_mem 39 (by decide +kernel) rfl), (ab_mem 297 (by decide +kernel) rfl), (by decide +kernel), (by decide +kernel), (by decide +kernel)⟩
theorem v_X6_count : ab_vi yX6_count cX6_count 1 (some .int) 0 := ⟨(ab_mem 398 (by decide +kernel) rfl), (ab_mem 399 (by decide +kernel) rfl), (ab_mem 46 (by decide +kernel) rfl), (ab_mem 400 (by decide +kernel) rfl), (by decide +kernel), (by decide +kernel), (by decide +kernel)⟩
theorem v_X6_forgetAll : ab_vi yX6_forgetAll cX6_forgetAll 1 none 0 := ⟨(ab_mem 700 (by decide +kernel) rfl), (ab_mem 701 (by decide +kernel) rfl), (ab_mem 46 (by decide +kernel) rfl), (ab_mem 702 (by decide +kernel) rfl), (by decide +kernel), (by decide +kernel), (by decide +kernel)⟩
theorem v_X6_add : ab_vi yX6_add cX6_add 4 none 3 := ⟨(ab_mem 692 (by decide +kernel) rfl), (ab_mem 693 (by decide +kernel) rfl), (ab_mem 46 (by decide +kernel) rfl), (ab_mem 694 (by decide +kernel) rfl), (by decide +kernel), (by decide +kernel), (by decide +kernel)⟩
theorem v_X6_fits : ab_vi yX6_fits cX6_fits 5 (some .boolean) 2 := ⟨(ab_mem 713 (by decide +kernel) rfl), (ab_mem 12 (by decide +kernel) rfl), (ab_mem 46 (by decide +kernel) rfl), (ab_mem 714 (by decide +kernel) rfl), (by decide +kernel), (by decide +kernel), (by decide +kernel)⟩
theorem v_X6_fittingCount : ab_vi yX6_fittingCount cX6_fittingCount 4 (some .int) 0 := ⟨(ab_mem 708 (by decide +kernel) rfl), (ab_mem 709 (by decide +kernel) rfl), (ab_mem 46 (by decide +kernel) rfl), (ab_mem 710 (by decide +kernel) rfl), (by decide +kernel), (by decide +kernel), (by decide +kernel)⟩
theorem v_X6_firstFitting : ab_vi yX6_firstFitting cX6_firstFitting 3 (some .int) 0 := ⟨(ab_mem 717 (by decide +kernel) rfl), (ab_mem 718 (by decide +kernel) rfl), (ab_mem 46 (by decide +kernel) rfl), (ab_mem 719 (by decide +kernel) rfl), (by decide +kernel), (by decide +kernel), (by decide +kernel)⟩
theorem v_X7_count : ab_vi yX7_count cX7_count 1 (some .int) 0 := ⟨(ab_mem 335 (by decide +kernel) rfl), (ab_mem 336 (by decide +kernel) rfl), (ab_mem 41 (by decide +kernel) rfl), (ab_mem 337 (by decide +kernel) rfl), (by decide +kernel), (by decide +kernel), (by decide +kernel)⟩
theorem v_X7_empty : ab_vi yX7_empty cX7_empty 1 none 0 := ⟨(ab_mem 303 (by decide +kernel) rfl), (ab_mem 304 (by decide +kernel) rfl), (ab_mem 41 (by decide +kernel) rfl), (ab_mem 305 (by decide +kernel) rfl), (by decide +kernel), (by decide +kernel), (by decide +kernel)⟩
theorem v_X7_add : ab_vi yX7_add cX7_add 4 none 3 := ⟨(ab_mem 311 (by decide +kernel) rfl), (ab_mem 312 (by decide +kernel) rfl), (ab_mem 41 (by decide +kernel) rfl), (ab_mem 313 (by decide +kernel) rfl), (by decide +kernel), (by decide +kernel), (by decide +kernel)⟩
theorem v_X7_has : ab_vi yX7_has cX7_has 2 (some .boolean) 1 := ⟨(ab_mem 323 (by decide +kernel) rfl), (ab_mem 324 (by decide +kernel) rfl), (ab_mem 41 (by decide +kernel) rfl), (ab_mem 325 (by decide +kernel) rfl), (by decide +kernel), (by decide +kernel), (by decide +kernel)⟩
theorem v_X7_paceOf : ab_vi yX7_paceOf cX7_paceOf 2 (some .int) 1 := ⟨(ab_mem 360 (by decide +kernel) rfl), (ab_mem 361 (by decide +kernel) rfl), (ab_mem 41 (by decide +kernel) rfl), (ab_mem 362 (by decide +kernel) rfl), (by decide +kernel), (by decide +kernel), (by decide +kernel)⟩
theorem v_X7_kindOf : ab_vi yX7_kindOf cX7_kindOf 2 (some .int) 1 := ⟨(ab_mem 364 (by decide +kernel) rfl), (ab_mem 365 (by decide +kernel) rfl), (ab_mem 41 (by decide +kernel) rfl), (ab_mem 366 (by decide +kernel) rfl), (by decide +kernel), (by decide +kernel), (by decide +kernel)⟩
theorem v_X7_toldThornsOf : ab_vi yX7_toldThornsOf cX7_toldThornsOf 2 (some .int) 1 := ⟨(ab_mem 319 (by decide +kernel) rfl), (ab_mem 320 (by decide +kernel) rfl), (ab_mem 41 (by decide +kernel) rfl), (ab_mem 321 (by decide +kernel) rfl), (by decide +kernel), (by decide +kernel), (by decide +kernel)⟩
theorem v_X8_write : ab_vi yX8_write cX8_write 2 (some .int) 1 := ⟨(ab_mem 243 (by decide +kernel) rfl), (ab_mem 244 (by decide +kernel) rfl), (ab_mem 38 (by decide +kernel) rfl), (ab_mem 245 (by decide +kernel) rfl), (by decide +kernel), (by decide +kernel), (by decide +kernel)⟩
theorem v_X8_wipe : ab_vi yX8_wipe cX8_wipe 2 (some .int) 0 := ⟨(ab_mem 255 (by decide +kernel) rfl), (ab_mem 256 (by decide +kernel) rfl), (ab_mem 38 (by decide +kernel) rfl), (ab_mem 257 (by decide +kernel) rfl), (by decide +kernel), (by decide +kernel), (by decide +kernel)⟩
theorem v_X8_fault : ab_vi yX8_fault cX8_fault 1 (some .int) 0 := ⟨(ab_mem 263 (by decide +kernel) rfl), (ab_mem 264 (by decide +kernel) rfl), (ab_mem 38 (by decide +kernel) rfl), (ab_mem 265 (by decide +kernel) rfl), (by decide +kernel), (by decide +kernel), (by decide +kernel)⟩
theorem v_X8_army : ab_vi yX8_army cX8_army 2 (some .int) 0 := ⟨(ab_mem 291 (by decide +kernel) rfl), (ab_mem 292 (by decide +kernel) rfl), (ab_mem 38 (by decide +kernel) rfl), (ab_mem 293 (by decide +kernel) rfl), (by decide +kernel), (by decide +kernel), (by decide +kernel)⟩
theorem v_X8_about : ab_vi yX8_about cX8_about 2 (some .int) 1 := ⟨(ab_mem 339 (by decide +kernel) rfl), (ab_mem 340 (by decide +kernel) rfl), (ab_mem 38 (by decide +kernel) rfl), (ab_mem 341 (by decide +kernel) rfl), (by decide +kernel), (by decide +kernel), (by decide +kernel)⟩
theorem v_X8_man : ab_vi yX8_man cX8_man 3 (some .int) 2 := ⟨(ab_mem 402 (by decide +kernel) rfl), (ab_mem 403 (by decide +kernel) rfl), (ab_mem 38 (by decide +kernel) rfl), (ab_mem 404 (by decide +kernel) rfl), (by decide +kernel), (by decide +kernel), (by decide +kernel)⟩
theorem v_X8_stretch : ab_vi yX8_stretch cX8_stretch 3 (some .int) 2 := ⟨(ab_mem 411 (by decide +kernel) rfl), (ab_mem 412 (by decide +kernel) rfl), (ab_mem 38 (by decide +kernel) rfl), (ab_mem 413 (by decide +kernel) rfl), (by decide +kernel), (by decide +kernel), (by decide +kernel)⟩
theorem v_X8_day : ab_vi yX8_day cX8_day 1 (some .int) 0 := ⟨(ab_mem 432 (by decide +kernel) rfl), (ab_mem 433 (by decide +kernel) rfl), (ab_mem 38 (by decide +kernel) rfl), (ab_mem 434 (by decide +kernel) rfl), (by decide +kernel), (by decide +kernel), (by decide +kernel)⟩
theorem v_X8_halt : ab_vi yX8_halt cX8_halt 1 (some .int) 0 := ⟨(ab_mem 477 (by decide +kernel) rfl), (ab_mem 478 (by decide +kernel) rfl), (ab_mem 38 (by decide +kernel) rfl), (ab_mem 479 (by decide +kernel) rfl), (by decide +kernel), (by decide +kernel), (by decide +kernel)⟩
theorem v_X8_gravel : ab_vi yX8_gravel cX8_gravel 2 (some .int) 1 := ⟨(ab_mem 485 (by decide +kernel) rfl), (ab_mem 486 (by decide +kernel) rfl), (ab_mem 38 (by decide +kernel) rfl), (ab_mem 487 (by decide +kernel) rfl), (by decide +kernel), (by decide +kernel), (by decide +kernel)⟩
theorem v_X8_pull : ab_vi yX8_pull cX8_pull 2 (some .int) 1 := ⟨(ab_mem 494 (by decide +kernel) rfl), (ab_mem 495 (by decide +kernel) rfl), (ab_mem 38 (by decide +kernel) rfl), (ab_mem 496 (by decide +kernel) rfl), (by decide +kernel), (by decide +kernel), (by decide +kernel)⟩
theorem v_X8_undo : ab_vi yX8_undo cX8_undo 1 (some .int) 0 := ⟨(ab_mem 506 (by decide +kernel) rfl), (ab_mem 507 (by decide +kernel) rfl), (ab_mem 38 (by decide +kernel) rfl), (ab_mem 508 (by decide +kernel) rfl), (by decide +kernel), (by decide +kernel), (by decide +kernel)⟩
theorem v_X8_later : ab_vi yX8_later cX8_later 3 (some .int) 2 := ⟨(ab_mem 520 (by decide +kernel) rfl), (ab_mem 521 (by decide +kernel) rfl), (ab_mem 38 (by decide +kernel) rfl), (ab_mem 522 (by decide +kernel) rfl), (by decide +kernel), (by decide +kernel), (by decide +kernel)⟩
theorem v_X8_comes : ab_vi yX8_comes cX8_comes 1 (some .int) 0 := ⟨(ab_mem 546 (by decide +kernel) rfl), (ab_mem 547 (by decide +kernel) rfl), (ab_mem 38 (by decide +kernel) rfl), (ab_mem 548 (by decide +kernel) rfl), (by decide +kernel), (by decide +kernel), (by decide +kernel)⟩
theorem v_X8_leads : ab_vi yX8_leads cX8_leads 2 (some .int) 1 := ⟨(ab_mem 558 (by decide +kernel) rfl), (ab_mem 559 (by decide +kernel) rfl), (ab_mem 38 (by decide +kernel) rfl), (ab_mem 560 (by decide +kernel) rfl), (by decide +kernel), (by decide +kernel), (by decide +kernel)⟩
theorem v_X8_cure : ab_vi yX8_cure cX8_cure 2 (some .int) 1 := ⟨(ab_mem 567 (by decide +kernel) rfl), (ab_mem 568 (by decide +kernel) rfl), (ab_mem 38 (by decide +kernel) rfl), (ab_mem 569 (by decide +kernel) rfl), (by decide +kernel), (by decide +kernel), (by decide +kernel)⟩
theorem v_X8_plan : ab_vi yX8_plan cX8_plan 4 (some .int) 2 := ⟨(ab_mem 585 (by decide +kernel) rfl), (ab_mem 586 (by decide +kernel) rfl), (ab_mem 38 (by decide +kernel) rfl), (ab_mem 587 (by decide +kernel) rfl), (by decide +kernel), (by decide +kernel), (by decide +kernel)⟩
theorem v_X8_judge : ab_vi yX8_judge cX8_judge 4 (some .int) 2 := ⟨(ab_mem 623 (by decide +kernel) rfl), (ab_mem 624 (by decide +kernel) rfl), (ab_mem 38 (by decide +kernel) rfl), (ab_mem 625 (by decide +kernel) rfl), (by decide +kernel), (by decide +kernel), (by decide +kernel)⟩
theorem v_X8_share : ab_vi yX8_share cX8_share 4 (some .int) 2 := ⟨(ab_mem 646 (by decide +kernel) rfl), (ab_mem 647 (by decide +kernel) rfl), (ab_mem 38 (by decide +kernel) rfl), (ab_mem 648 (by decide +kernel) rfl), (by decide +kernel), (by decide +kernel), (by decide +kernel)⟩
theorem v_X8_attempt : ab_vi yX8_attempt cX8_attempt 4 (some .int) 3 := ⟨(ab_mem 688 (by decide +kernel) rfl), (ab_mem 689 (by decide +kernel) rfl), (ab_mem 38 (by decide +kernel) rfl), (ab_mem 690 (by decide +kernel) rfl), (by decide +kernel), (by decide +kernel), (by decide +kernel)⟩
theorem v_X8_unattempt : ab_vi yX8_unattempt cX8_unattempt 2 (some .int) 0 := ⟨(ab_mem 696 (by decide +kernel) rfl), (ab_mem 697 (by decide +kernel) rfl), (ab_mem 38 (by decide +kernel) rfl), (ab_mem 698 (by decide +kernel) rfl), (by decide +kernel), (by decide +kernel), (by decide +kernel)⟩
theorem v_X8_paces : ab_vi yX8_paces cX8_paces 2 (some .int) 1 := ⟨(ab_mem 704 (by decide +kernel) rfl), (ab_mem 705 (by decide +kernel) rfl), (ab_mem 38 (by decide +kernel) rfl), (ab_mem 706 (by decide +kernel) rfl), (by decide +kernel), (by decide +kernel), (by decide +kernel)⟩
theorem v_X8_rests : ab_vi yX8_rests cX8_rests 4 (some .int) 3 := ⟨(ab_mem 721 (by decide +kernel) rfl), (ab_mem 722 (by decide +kernel) rfl), (ab_mem 38 (by decide +kernel) rfl), (ab_mem 723 (by decide +kernel) rfl), (by decide +kernel), (by decide +kernel), (by decide +kernel)⟩
theorem v_X8_thorny : ab_vi yX8_thorny cX8_thorny 5 (some .int) 3 := ⟨(ab_mem 749 (by decide +kernel) rfl), (ab_mem 750 (by decide +kernel) rfl), (ab_mem 38 (by decide +kernel) rfl), (ab_mem 751 (by decide +kernel) rfl), (by decide +kernel), (by decide +kernel), (by decide +kernel)⟩
theorem v_X8_seed : ab_vi yX8_seed cX8_seed 5 (some .long) 1 := ⟨(ab_mem 766 (by decide +kernel) rfl), (ab_mem 767 (by decide +kernel) rfl), (ab_mem 38 (by decide +kernel) rfl), (ab_mem 768 (by decide +kernel) rfl), (by decide +kernel), (by decide +kernel), (by decide +kernel)⟩
theorem v_X8_campaigns : ab_vi yX8_campaigns cX8_campaigns 4 (some .int) 1 := ⟨(ab_mem 770 (by decide +kernel) rfl), (ab_mem 771 (by decide +kernel) rfl), (ab_mem 38 (by decide +kernel) rfl), (ab_mem 772 (by decide +kernel) rfl), (by decide +kernel), (by decide +kernel), (by decide +kernel)⟩
theorem v_X8_keep : ab_vi yX8_keep cX8_keep 2 (some .int) 1 := ⟨(ab_mem 788 (by decide +kernel) rfl), (ab_mem 789 (by decide +kernel) rfl), (ab_mem 38 (by decide +kernel) rfl), (ab_mem 790 (by decide +kernel) rfl), (by decide +kernel), (by decide +kernel), (by decide +kernel)⟩
theorem v_X8_again : ab_vi yX8_again cX8_again 2 (some .int) 1 := ⟨(ab_mem 792 (by decide +kernel) rfl), (ab_mem 793 (by decide +kernel) rfl), (ab_mem 38 (by decide +kernel) rfl), (ab_mem 794 (by decide +kernel) rfl), (by decide +kernel), (by decide +kernel), (by decide +kernel)⟩
theorem v_X8_isChoice : ab_vs yX8_isChoice cX8_isChoice 1 (some .boolean) 1 := ⟨(ab_mem 524 (by decide +kernel) rfl), (ab_mem 38 (by decide +kernel) rfl), (ab_mem 525 (by decide +kernel) rfl), (by decide +kernel), (by decide +kernel), (by decide +kernel)⟩
theorem v_X8_factorial : ab_vs yX8_factorial cX8_factorial 1 (some .int) 1 := ⟨(ab_mem 650 (by decide +kernel) rfl), (ab_mem 38 (by decide +kernel) rfl), (ab_mem 651 (by decide +kernel) rfl), (by decide +kernel), (by decide +kernel), (by decide +kernel)⟩
theorem v_X8_power : ab_vs yX8_power cX8_power 4 (some .int) 2 := ⟨(ab_mem 593 (by decide +kernel) rfl), (ab_mem 38 (by decide +kernel) rfl), (ab_mem 594 (by decide +kernel) rfl), (by decide +kernel), (by decide +kernel), (by decide +kernel)⟩
theorem v_X8_speedBy : ab_vs yX8_speedBy cX8_speedBy 5 (some .int) 3 := ⟨(ab_mem 368 (by decide +kernel) rfl), (ab_mem 38 (by decide +kernel) rfl), (ab_mem 369 (by decide +kernel) rfl), (by decide +kernel), (by decide +kernel), (by decide +kernel)⟩
theorem v_X8_termOf : ab_vs yX8_termOf cX8_termOf 4 (some .int) 3 := ⟨(ab_mem 679 (by decide +kernel) rfl), (ab_mem 38 (by decide +kernel) rfl), (ab_mem 680 (by decide +kernel) rfl), (by decide +kernel), (by decide +kernel), (by decide +kernel)⟩
theorem v_X8_commonDivisor : ab_vs yX8_commonDivisor cX8_commonDivisor 6 (some .int) 2 := ⟨(ab_mem 685 (by decide +kernel) rfl), (ab_mem 38 (by decide +kernel) rfl), (ab_mem 686 (by decide +kernel) rfl), (by decide +kernel), (by decide +kernel), (by decide +kernel)⟩
theorem v_X9_in : ab_vs yX9_in cX9_in 6 (some .boolean) 3 := ⟨(ab_mem 916 (by decide +kernel) rfl), (ab_mem 47 (by decide +kernel) rfl), (ab_mem 917 (by decide +kernel) rfl), (by decide +kernel), (by decide +kernel), (by decide +kernel)⟩
theorem v_X9_has : ab_vs yX9_has cX9_has 2 (some .boolean) 2 := ⟨(ab_mem 959 (by decide +kernel) rfl), (ab_mem 47 (by decide +kernel) rfl), (ab_mem 960 (by decide +kernel) rfl), (by decide +kernel), (by decide +kernel), (by decide +kernel)⟩
theorem v_X9_many : ab_vs yX9_many cX9_many 3 (some .int) 1 := ⟨(ab_mem 1101 (by decide +kernel) rfl), (ab_mem 47 (by decide +kernel) rfl), (ab_mem 1102 (by decide +kernel) rfl), (by decide +kernel), (by decide +kernel), (by decide +kernel)⟩
theorem v_X9_power : ab_vs yX9_power cX9_power 4 (some .int) 2 := ⟨(ab_mem 1069 (by decide +kernel) rfl), (ab_mem 47 (by decide +kernel) rfl), (ab_mem 1070 (by decide +kernel) rfl), (by decide +kernel), (by decide +kernel), (by decide +kernel)⟩
theorem v_X9_noMan : ab_vi yX9_noMan cX9_noMan 2 (some .boolean) 1 := ⟨(ab_mem 985 (by decide +kernel) rfl), (ab_mem 24 (by decide +kernel) rfl), (ab_mem 47 (by decide +kernel) rfl), (ab_mem 986 (by decide +kernel) rfl), (by decide +kernel), (by decide +kernel), (by decide +kernel)⟩
theorem v_X9_write : ab_vi yX9_write cX9_write 2 (some .int) 1 := ⟨(ab_mem 911 (by decide +kernel) rfl), (ab_mem 912 (by decide +kernel) rfl), (ab_mem 47 (by decide +kernel) rfl), (ab_mem 913 (by decide +kernel) rfl), (by decide +kernel), (by decide +kernel), (by decide +kernel)⟩
theorem v_X9_wipe : ab_vi yX9_wipe cX9_wipe 2 (some .int) 0 := ⟨(ab_mem 919 (by decide +kernel) rfl), (ab_mem 920 (by decide +kernel) rfl), (ab_mem 47 (by decide +kernel) rfl), (ab_mem 921 (by decide +kernel) rfl), (by decide +kernel), (by decide +kernel), (by decide +kernel)⟩
theorem v_X9_figure : ab_vi yX9_figure cX9_figure 3 (some .int) 2 := ⟨(ab_mem 940 (by decide +kernel) rfl), (ab_mem 18 (by decide +kernel) rfl), (ab_mem 47 (by decide +kernel) rfl), (ab_mem 941 (by decide +kernel) rfl), (by decide +kernel), (by decide +kernel), (by decide +kernel)⟩
theorem v_X9_readOneStretch : ab_vi yX9_readOneStretch cX9_readOneStretch 3 (some .boolean) 0 := ⟨(ab_mem 936 (by decide +kernel) rfl), (ab_mem 17 (by decide +kernel) rfl), (ab_mem 47 (by decide +kernel) rfl), (ab_mem 937 (by decide +kernel) rfl), (by decide +kernel), (by decide +kernel), (by decide +kernel)⟩
theorem v_X9_readOneMan : ab_vi yX9_readOneMan cX9_readOneMan 4 (some .boolean) 0 := ⟨(ab_mem 944 (by decide +kernel) rfl), (ab_mem 19 (by decide +kernel) rfl), (ab_mem 47 (by decide +kernel) rfl), (ab_mem 945 (by decide +kernel) rfl), (by decide +kernel), (by decide +kernel), (by decide +kernel)⟩
theorem v_X9_readThing : ab_vi yX9_readThing cX9_readThing 2 (some .boolean) 0 := ⟨(ab_mem 932 (by decide +kernel) rfl), (ab_mem 16 (by decide +kernel) rfl), (ab_mem 47 (by decide +kernel) rfl), (ab_mem 933 (by decide +kernel) rfl), (by decide +kernel), (by decide +kernel), (by decide +kernel)⟩
theorem v_X9_readArmy : ab_vi yX9_readArmy cX9_readArmy 1 (some .int) 0 := ⟨(ab_mem 928 (by decide +kernel) rfl), (ab_mem 15 (by decide +kernel) rfl), (ab_mem 47 (by decide +kernel) rfl), (ab_mem 929 (by decide +kernel) rfl), (by decide +kernel), (by decide +kernel), (by decide +kernel)⟩
theorem v_X9_fault : ab_vi yX9_fault cX9_fault 1 (some .int) 0 := ⟨(ab_mem 923 (by decide +kernel) rfl), (ab_mem 924 (by decide +kernel) rfl), (ab_mem 47 (by decide +kernel) rfl), (ab_mem 925 (by decide +kernel) rfl), (by decide +kernel), (by decide +kernel), (by decide +kernel)⟩
theorem v_X9_army : ab_vi yX9_army cX9_army 2 (some .int) 0 := ⟨(ab_mem 947 (by decide +kernel) rfl), (ab_mem 948 (by decide +kernel) rfl), (ab_mem 47 (by decide +kernel) rfl), (ab_mem 949 (by decide +kernel) rfl), (by decide +kernel), (by decide +kernel), (by decide +kernel)⟩
theorem v_X9_speedBy : ab_vs yX9_speedBy cX9_speedBy 4 (some .int) 3 := ⟨(ab_mem 966 (by decide +kernel) rfl), (ab_mem 47 (by decide +kernel) rfl), (ab_mem 967 (by decide +kernel) rfl), (by decide +kernel), (by decide +kernel), (by decide +kernel)⟩
theorem v_X9_speed : ab_vi yX9_speed cX9_speed 3 (some .int) 2 := ⟨(ab_mem 963 (by decide +kernel) rfl), (ab_mem 21 (by decide +kernel) rfl), (ab_mem 47 (by decide +kernel) rfl), (ab_mem 964 (by decide +kernel) rfl), (by decide +kernel), (by decide +kernel), (by decide +kernel)⟩
theorem v_X9_leader : ab_vi yX9_leader cX9_leader 5 (some .int) 2 := ⟨(ab_mem 956 (by decide +kernel) rfl), (ab_mem 20 (by decide +kernel) rfl), (ab_mem 47 (by decide +kernel) rfl), (ab_mem 957 (by decide +kernel) rfl), (by decide +kernel), (by decide +kernel), (by decide +kernel)⟩
theorem v_X9_begins : ab_vi yX9_begins cX9_begins 4 (some .int) 1 := ⟨(ab_mem 974 (by decide +kernel) rfl), (ab_mem 23 (by decide +kernel) rfl), (ab_mem 47 (by decide +kernel) rfl), (ab_mem 975 (by decide +kernel) rfl), (by decide +kernel), (by decide +kernel), (by decide +kernel)⟩
theorem v_X9_stretchAt : ab_vi yX9_stretchAt cX9_stretchAt 4 (some .int) 1 := ⟨(ab_mem 970 (by decide +kernel) rfl), (ab_mem 22 (by decide +kernel) rfl), (ab_mem 47 (by decide +kernel) rfl), (ab_mem 971 (by decide +kernel) rfl), (by decide +kernel), (by decide +kernel), (by decide +kernel)⟩
theorem v_X9_heal : ab_vi yX9_heal cX9_heal 3 none 1 := ⟨(ab_mem 1008 (by decide +kernel) rfl), (ab_mem 27 (by decide +kernel) rfl), (ab_mem 47 (by decide +kernel) rfl), (ab_mem 1009 (by decide +kernel) rfl), (by decide +kernel), (by decide +kernel), (by decide +kernel)⟩
theorem v_X9_prick : ab_vs yX9_prick cX9_prick 2 none 2 := ⟨(ab_mem 1004 (by decide +kernel) rfl), (ab_mem 47 (by decide +kernel) rfl), (ab_mem 1005 (by decide +kernel) rfl), (by decide +kernel), (by decide +kernel), (by decide +kernel)⟩
theorem v_X9_goDay : ab_vi yX9_goDay cX9_goDay 8 (some .int) 2 := ⟨(ab_mem 1001 (by decide +kernel) rfl), (ab_mem 26 (by decide +kernel) rfl), (ab_mem 47 (by decide +kernel) rfl), (ab_mem 1002 (by decide +kernel) rfl), (by decide +kernel), (by decide +kernel), (by decide +kernel)⟩
theorem v_X9_allThorns : ab_vs yX9_allThorns cX9_allThorns 1 (some .int) 1 := ⟨(ab_mem 977 (by decide +kernel) rfl), (ab_mem 47 (by decide +kernel) rfl), (ab_mem 978 (by decide +kernel) rfl), (by decide +kernel), (by decide +kernel), (by decide +kernel)⟩
theorem v_X9_goHalt : ab_vi yX9_goHalt cX9_goHalt 2 (some .int) 1 := ⟨(ab_mem 1016 (by decide +kernel) rfl), (ab_mem 28 (by decide +kernel) rfl), (ab_mem 47 (by decide +kernel) rfl), (ab_mem 1017 (by decide +kernel) rfl), (by decide +kernel), (by decide +kernel), (by decide +kernel)⟩
theorem v_X9_about : ab_vi yX9_about cX9_about 3 (some .int) 1 := ⟨(ab_mem 951 (by decide +kernel) rfl), (ab_mem 952 (by decide +kernel) rfl), (ab_mem 47 (by decide +kernel) rfl), (ab_mem 953 (by decide +kernel) rfl), (by decide +kernel), (by decide +kernel), (by decide +kernel)⟩
theorem v_X9_man : ab_vi yX9_man cX9_man 3 (some .int) 2 := ⟨(ab_mem 980 (by decide +kernel) rfl), (ab_mem 981 (by decide +kernel) rfl), (ab_mem 47 (by decide +kernel) rfl), (ab_mem 982 (by decide +kernel) rfl), (by decide +kernel), (by decide +kernel), (by decide +kernel)⟩
theorem v_X9_stretch : ab_vi yX9_stretch cX9_stretch 3 (some .int) 2 := ⟨(ab_mem 988 (by decide +kernel) rfl), (ab_mem 989 (by decide +kernel) rfl), (ab_mem 47 (by decide +kernel) rfl), (ab_mem 990 (by decide +kernel) rfl), (by decide +kernel), (by decide +kernel), (by decide +kernel)⟩
theorem v_X9_note : ab_vi yX9_note cX9_note 2 none 0 := ⟨(ab_mem 997 (by decide +kernel) rfl), (ab_mem 25 (by decide +kernel) rfl), (ab_mem 47 (by decide +kernel) rfl), (ab_mem 998 (by decide +kernel) rfl), (by decide +kernel), (by decide +kernel), (by decide +kernel)⟩
theorem v_X9_day : ab_vi yX9_day cX9_day 1 (some .int) 0 := ⟨(ab_mem 992 (by decide +kernel) rfl), (ab_mem 993 (by decide +kernel) rfl), (ab_mem 47 (by decide +kernel) rfl), (ab_mem 994 (by decide +kernel) rfl), (by decide +kernel), (by decide +kernel), (by decide +kernel)⟩
theorem v_X9_halt : ab_vi yX9_halt cX9_halt 1 (some .int) 0 := ⟨(ab_mem 1011 (by decide +kernel) rfl), (ab_mem 1012 (by decide +kernel) rfl), (ab_mem 47 (by decide +kernel) rfl), (ab_mem 1013 (by decide +kernel) rfl), (by decide +kernel), (by decide +kernel), (by decide +kernel)⟩
theorem v_X9_gravel : ab_vi yX9_gravel cX9_gravel 2 (some .int) 1 := ⟨(ab_mem 1019 (by decide +kernel) rfl), (ab_mem 1020 (by decide +kernel) rfl), (ab_mem 47 (by decide +kernel) rfl), (ab_mem 1021 (by decide +kernel) rfl), (by decide +kernel), (by decide +kernel), (by decide +kernel)⟩
theorem v_X9_pull : ab_vi yX9_pull cX9_pull 2 (some .int) 1 := ⟨(ab_mem 1023 (by decide +kernel) rfl), (ab_mem 1024 (by decide +kernel) rfl), (ab_mem 47 (by decide +kernel) rfl), (ab_mem 1025 (by decide +kernel) rfl), (by decide +kernel), (by decide +kernel), (by decide +kernel)⟩
theorem v_X9_undo : ab_vi yX9_undo cX9_undo 2 (some .int) 0 := ⟨(ab_mem 1027 (by decide +kernel) rfl), (ab_mem 1028 (by decide +kernel) rfl), (ab_mem 47 (by decide +kernel) rfl), (ab_mem 1029 (by decide +kernel) rfl), (by decide +kernel), (by decide +kernel), (by decide +kernel)⟩
theorem v_X9_begin : ab_vi yX9_begin cX9_begin 2 none 0 := ⟨(ab_mem 1037 (by decide +kernel) rfl), (ab_mem 29 (by decide +kernel) rfl), (ab_mem 47 (by decide +kernel) rfl), (ab_mem 1038 (by decide +kernel) rfl), (by decide +kernel), (by decide +kernel), (by decide +kernel)⟩
theorem v_X9_goDays : ab_vi yX9_goDays cX9_goDays 4 none 2 := ⟨(ab_mem 1041 (by decide +kernel) rfl), (ab_mem 30 (by decide +kernel) rfl), (ab_mem 47 (by decide +kernel) rfl), (ab_mem 1042 (by decide +kernel) rfl), (by decide +kernel), (by decide +kernel), (by decide +kernel)⟩
theorem v_X9_later : ab_vi yX9_later cX9_later 3 (some .int) 2 := ⟨(ab_mem 1031 (by decide +kernel) rfl), (ab_mem 1032 (by decide +kernel) rfl), (ab_mem 47 (by decide +kernel) rfl), (ab_mem 1033 (by decide +kernel) rfl), (by decide +kernel), (by decide +kernel), (by decide +kernel)⟩
theorem v_X9_comesOf : ab_vi yX9_comesOf cX9_comesOf 2 (some .int) 0 := ⟨(ab_mem 1049 (by decide +kernel) rfl), (ab_mem 31 (by decide +kernel) rfl), (ab_mem 47 (by decide +kernel) rfl), (ab_mem 1050 (by decide +kernel) rfl), (by decide +kernel), (by decide +kernel), (by decide +kernel)⟩
theorem v_X9_comes : ab_vi yX9_comes cX9_comes 1 (some .int) 0 := ⟨(ab_mem 1044 (by decide +kernel) rfl), (ab_mem 1045 (by decide +kernel) rfl), (ab_mem 47 (by decide +kernel) rfl), (ab_mem 1046 (by decide +kernel) rfl), (by decide +kernel), (by decide +kernel), (by decide +kernel)⟩
theorem v_X9_leads : ab_vi yX9_leads cX9_leads 3 (some .int) 1 := ⟨(ab_mem 1052 (by decide +kernel) rfl), (ab_mem 1053 (by decide +kernel) rfl), (ab_mem 47 (by decide +kernel) rfl), (ab_mem 1054 (by decide +kernel) rfl), (by decide +kernel), (by decide +kernel), (by decide +kernel)⟩
theorem v_X9_cure : ab_vi yX9_cure cX9_cure 4 (some .int) 1 := ⟨(ab_mem 1056 (by decide +kernel) rfl), (ab_mem 1057 (by decide +kernel) rfl), (ab_mem 47 (by decide +kernel) rfl), (ab_mem 1058 (by decide +kernel) rfl), (by decide +kernel), (by decide +kernel), (by decide +kernel)⟩
theorem v_X9_pulls : ab_vi yX9_pulls cX9_pulls 5 (some .int) 1 := ⟨(ab_mem 1073 (by decide +kernel) rfl), (ab_mem 33 (by decide +kernel) rfl), (ab_mem 47 (by decide +kernel) rfl), (ab_mem 1074 (by decide +kernel) rfl), (by decide +kernel), (by decide +kernel), (by decide +kernel)⟩
theorem v_X9_findPlan : ab_vi yX9_findPlan cX9_findPlan 6 none 1 := ⟨(ab_mem 1066 (by decide +kernel) rfl), (ab_mem 32 (by decide +kernel) rfl), (ab_mem 47 (by decide +kernel) rfl), (ab_mem 1067 (by decide +kernel) rfl), (by decide +kernel), (by decide +kernel), (by decide +kernel)⟩
theorem v_X9_plan : ab_vi yX9_plan cX9_plan 3 (some .int) 2 := ⟨(ab_mem 1060 (by decide +kernel) rfl), (ab_mem 1061 (by decide +kernel) rfl), (ab_mem 47 (by decide +kernel) rfl), (ab_mem 1062 (by decide +kernel) rfl), (by decide +kernel), (by decide +kernel), (by decide +kernel)⟩
theorem v_X9_longPower : ab_vs yX9_longPower cX9_longPower 6 (some .long) 2 := ⟨(ab_mem 1082 (by decide +kernel) rfl), (ab_mem 47 (by decide +kernel) rfl), (ab_mem 1083 (by decide +kernel) rfl), (by decide +kernel), (by decide +kernel), (by decide +kernel)⟩
theorem v_X9_gravels : ab_vi yX9_gravels cX9_gravels 3 (some .boolean) 1 := ⟨(ab_mem 1090 (by decide +kernel) rfl), (ab_mem 35 (by decide +kernel) rfl), (ab_mem 47 (by decide +kernel) rfl), (ab_mem 1091 (by decide +kernel) rfl), (by decide +kernel), (by decide +kernel), (by decide +kernel)⟩
theorem v_X9_isPulled : ab_vi yX9_isPulled cX9_isPulled 3 (some .boolean) 1 := ⟨(ab_mem 1094 (by decide +kernel) rfl), (ab_mem 36 (by decide +kernel) rfl), (ab_mem 47 (by decide +kernel) rfl), (ab_mem 1095 (by decide +kernel) rfl), (by decide +kernel), (by decide +kernel), (by decide +kernel)⟩
theorem v_X9_does : ab_vi yX9_does cX9_does 5 (some .boolean) 1 := ⟨(ab_mem 1086 (by decide +kernel) rfl), (ab_mem 34 (by decide +kernel) rfl), (ab_mem 47 (by decide +kernel) rfl), (ab_mem 1087 (by decide +kernel) rfl), (by decide +kernel), (by decide +kernel), (by decide +kernel)⟩
theorem v_X9_judge : ab_vi yX9_judge cX9_judge 5 (some .int) 2 := ⟨(ab_mem 1076 (by decide +kernel) rfl), (ab_mem 1077 (by decide +kernel) rfl), (ab_mem 47 (by decide +kernel) rfl), (ab_mem 1078 (by decide +kernel) rfl), (by decide +kernel), (by decide +kernel), (by decide +kernel)⟩
theorem v_X9_ways : ab_vs yX9_ways cX9_ways 3 (some .int) 1 := ⟨(ab_mem 1104 (by decide +kernel) rfl), (ab_mem 47 (by decide +kernel) rfl), (ab_mem 1105 (by decide +kernel) rfl), (by decide +kernel), (by decide +kernel), (by decide +kernel)⟩
theorem v_X9_divisor : ab_vs yX9_divisor cX9_divisor 5 (some .int) 2 := ⟨(ab_mem 1110 (by decide +kernel) rfl), (ab_mem 47 (by decide +kernel) rfl), (ab_mem 1111 (by decide +kernel) rfl), (by decide +kernel), (by decide +kernel), (by decide +kernel)⟩
theorem v_X9_fraction : ab_vs yX9_fraction cX9_fraction 4 (some .int) 3 := ⟨(ab_mem 1107 (by decide +kernel) rfl), (ab_mem 47 (by decide +kernel) rfl), (ab_mem 1108 (by decide +kernel) rfl), (by decide +kernel), (by decide +kernel), (by decide +kernel)⟩
theorem v_X9_share : ab_vi yX9_share cX9_share 6 (some .int) 2 := ⟨(ab_mem 1097 (by decide +kernel) rfl), (ab_mem 1098 (by decide +kernel) rfl), (ab_mem 47 (by decide +kernel) rfl), (ab_mem 1099 (by decide +kernel) rfl), (by decide +kernel), (by decide +kernel), (by decide +kernel)⟩
theorem v_X9_attempt : ab_vi yX9_attempt cX9_attempt 4 (some .int) 3 := ⟨(ab_mem 1113 (by decide +kernel) rfl), (ab_mem 1114 (by decide +kernel) rfl), (ab_mem 47 (by decide +kernel) rfl), (ab_mem 1115 (by decide +kernel) rfl), (by decide +kernel), (by decide +kernel), (by decide +kernel)⟩
theorem v_X9_unattempt : ab_vi yX9_unattempt cX9_unattempt 2 (some .int) 0 := ⟨(ab_mem 1119 (by decide +kernel) rfl), (ab_mem 1120 (by decide +kernel) rfl), (ab_mem 47 (by decide +kernel) rfl), (ab_mem 1121 (by decide +kernel) rfl), (by decide +kernel), (by decide +kernel), (by decide +kernel)⟩
theorem v_X9_paces : ab_vi yX9_paces cX9_paces 5 (some .int) 1 := ⟨(ab_mem 1123 (by decide +kernel) rfl), (ab_mem 1124 (by decide +kernel) rfl), (ab_mem 47 (by decide +kernel) rfl), (ab_mem 1125 (by decide +kernel) rfl), (by decide +kernel), (by decide +kernel), (by decide +kernel)⟩
theorem v_X9_rests : ab_vi yX9_rests cX9_rests 7 (some .int) 3 := ⟨(ab_mem 1127 (by decide +kernel) rfl), (ab_mem 1128 (by decide +kernel) rfl), (ab_mem 47 (by decide +kernel) rfl), (ab_mem 1129 (by decide +kernel) rfl), (by decide +kernel), (by decide +kernel), (by decide +kernel)⟩
theorem v_X9_thorny : ab_vi yX9_thorny cX9_thorny 8 (some .int) 3 := ⟨(ab_mem 1131 (by decide +kernel) rfl), (ab_mem 1132 (by decide +kernel) rfl), (ab_mem 47 (by decide +kernel) rfl), (ab_mem 1133 (by decide +kernel) rfl), (by decide +kernel), (by decide +kernel), (by decide +kernel)⟩
theorem v_X9_seed : ab_vi yX9_seed cX9_seed 5 (some .long) 1 := ⟨(ab_mem 1136 (by decide +kernel) rfl), (ab_mem 1137 (by decide +kernel) rfl), (ab_mem 47 (by decide +kernel) rfl), (ab_mem 1138 (by decide +kernel) rfl), (by decide +kernel), (by decide +kernel), (by decide +kernel)⟩
theorem v_X9_campaigns : ab_vi yX9_campaigns cX9_campaigns 5 (some .int) 1 := ⟨(ab_mem 1140 (by decide +kernel) rfl), (ab_mem 1141 (by decide +kernel) rfl), (ab_mem 47 (by decide +kernel) rfl), (ab_mem 1142 (by decide +kernel) rfl), (by decide +kernel), (by decide +kernel), (by decide +kernel)⟩
theorem v_X9_keep : ab_vi yX9_keep cX9_keep 3 (some .int) 1 := ⟨(ab_mem 1147 (by decide +kernel) rfl), (ab_mem 1148 (by decide +kernel) rfl), (ab_mem 47 (by decide +kernel) rfl), (ab_mem 1149 (by decide +kernel) rfl), (by decide +kernel), (by decide +kernel), (by decide +kernel)⟩
theorem v_X9_again : ab_vi yX9_again cX9_again 3 (some .int) 1 := ⟨(ab_mem 1151 (by decide +kernel) rfl), (ab_mem 1152 (by decide +kernel) rfl), (ab_mem 47 (by decide +kernel) rfl), (ab_mem 1153 (by decide +kernel) rfl), (by decide +kernel), (by decide +kernel), (by decide +kernel)⟩
theorem v_J6_bitCount_0f7a4 : ab_vs yJ6_bitCount_0f7a4 cJ6_bitCount_0f7a4 1 (some .int) 1 := ⟨(ab_mem 659 (by decide +kernel) rfl), (ab_mem 49 (by decide +kernel) rfl), (ab_mem 660 (by decide +kernel) rfl), (by decide +kernel), (by decide +kernel), (by decide +kernel)⟩
theorem v_J9_abs_0f7a4 : ab_vs yJ9_abs_0f7a4 cJ9_abs_0f7a4 1 (some .int) 1 := ⟨(ab_mem 682 (by decide +kernel) rfl), (ab_mem 48 (by decide +kernel) rfl), (ab_mem 683 (by decide +kernel) rfl), (by decide +kernel), (by decide +kernel), (by decide +kernel)⟩
theorem v_J9_max_7cf53 : ab_vs yJ9_max_7cf53 cJ9_max_7cf53 2 (some .int) 2 := ⟨(ab_mem 462 (by decide +kernel) rfl), (ab_mem 48 (by decide +kernel) rfl), (ab_mem 463 (by decide +kernel) rfl), (by decide +kernel), (by decide +kernel), (by decide +kernel)⟩
theorem v_J9_min_7cf53 : ab_vs yJ9_min_7cf53 cJ9_min_7cf53 2 (some .int) 2 := ⟨(ab_mem 465 (by decide +kernel) rfl), (ab_mem 48 (by decide +kernel) rfl), (ab_mem 466 (by decide +kernel) rfl), (by decide +kernel), (by decide +kernel), (by decide +kernel)⟩
theorem ml_X0_19 : Cond.methodLink RX0 19 yX0_forgetFirst ∈ ab_tb := (ab_mem 443 (by decide +kernel) rfl)
theorem ml_X1_25 : Cond.methodLink RX1 25 yX2_follow ∈ ab_tb := (ab_mem 728 (by decide +kernel) rfl)
theorem ml_X1_31 : Cond.methodLink RX1 31 yX2_prick ∈ ab_tb := (ab_mem 729 (by decide +kernel) rfl)
theorem ml_X1_35 : Cond.methodLink RX1 35 yX2_goDays ∈ ab_tb := (ab_mem 730 (by decide +kernel) rfl)
theorem ml_X1_38 : Cond.methodLink RX1 38 yX2_mile ∈ ab_tb := (ab_mem 731 (by decide +kernel) rfl)
theorem ml_X1_42 : Cond.methodLink RX1 42 yX2_leader ∈ ab_tb := (ab_mem 732 (by decide +kernel) rfl)
theorem ml_X1_45 : Cond.methodLink RX1 45 yX1_hasBy ∈ ab_tb := (ab_mem 741 (by decide +kernel) rfl)
theorem ml_X1_49 : Cond.methodLink RX1 49 yX1_isRest ∈ ab_tb := (ab_mem 737 (by decide +kernel) rfl)
theorem ml_X1_53 : Cond.methodLink RX1 53 yX2_menCount ∈ ab_tb := (ab_mem 757 (by decide +kernel) rfl)
theorem ml_X1_56 : Cond.methodLink RX1 56 yJ6_bitCount_0f7a4 ∈ ab_tb := (ab_mem 758 (by decide +kernel) rfl)
theorem ml_X1_66 : Cond.methodLink RX1 66 yX1_isInTimePricked ∈ ab_tb := (ab_mem 760 (by decide +kernel) rfl)
theorem ml_X1_70 : Cond.methodLink RX1 70 yX2_goToEnd ∈ ab_tb := (ab_mem 764 (by decide +kernel) rfl)
theorem ml_X1_73 : Cond.methodLink RX1 73 yX2_ease ∈ ab_tb := (ab_mem 784 (by decide +kernel) rfl)
theorem ml_X1_76 : Cond.methodLink RX1 76 yX2_stay ∈ ab_tb := (ab_mem 785 (by decide +kernel) rfl)
theorem ml_X1_79 : Cond.methodLink RX1 79 yX2_goDay ∈ ab_tb := (ab_mem 786 (by decide +kernel) rfl)
theorem ml_X1_62 : Cond.methodLinkNest RX1 62 yX8_power "LameLead" ∈ ab_tb := (ab_mem 759 (by decide +kernel) rfl)
theorem ml_X2_33 : Cond.methodLink RX2 33 yX4_end ∈ ab_tb := (ab_mem 455 (by decide +kernel) rfl)
theorem ml_X2_39 : Cond.methodLink RX2 39 yX7_count ∈ ab_tb := (ab_mem 358 (by decide +kernel) rfl)
theorem ml_X2_44 : Cond.methodLink RX2 44 yX7_toldThornsOf ∈ ab_tb := (ab_mem 318 (by decide +kernel) rfl)
theorem ml_X2_48 : Cond.methodLink RX2 48 yX2_follow ∈ ab_tb := (ab_mem 677 (by decide +kernel) rfl)
theorem ml_X2_56 : Cond.methodLink RX2 56 yX7_paceOf ∈ ab_tb := (ab_mem 359 (by decide +kernel) rfl)
theorem ml_X2_59 : Cond.methodLink RX2 59 yX7_kindOf ∈ ab_tb := (ab_mem 363 (by decide +kernel) rfl)
theorem ml_X2_62 : Cond.methodLink RX2 62 yX2_thornsOf ∈ ab_tb := (ab_mem 381 (by decide +kernel) rfl)
theorem ml_X2_69 : Cond.methodLink RX2 69 yX2_leader ∈ ab_tb := (ab_mem 376 (by decide +kernel) rfl)
theorem ml_X2_72 : Cond.methodLink RX2 72 yX2_speedOf ∈ ab_tb := (ab_mem 377 (by decide +kernel) rfl)
theorem ml_X2_75 : Cond.methodLink RX2 75 yX7_has ∈ ab_tb := (ab_mem 471 (by decide +kernel) rfl)
theorem ml_X2_79 : Cond.methodLink RX2 79 yX2_ease ∈ ab_tb := (ab_mem 616 (by decide +kernel) rfl)
theorem ml_X2_83 : Cond.methodLink RX2 83 yX2_isThere ∈ ab_tb := (ab_mem 451 (by decide +kernel) rfl)
theorem ml_X2_87 : Cond.methodLink RX2 87 yX4_stretchAt ∈ ab_tb := (ab_mem 456 (by decide +kernel) rfl)
theorem ml_X2_90 : Cond.methodLink RX2 90 yX4_groundOf ∈ ab_tb := (ab_mem 457 (by decide +kernel) rfl)
theorem ml_X2_93 : Cond.methodLink RX2 93 yX2_milesOver ∈ ab_tb := (ab_mem 458 (by decide +kernel) rfl)
theorem ml_X2_97 : Cond.methodLink RX2 97 yJ9_min_7cf53 ∈ ab_tb := (ab_mem 464 (by decide +kernel) rfl)
theorem ml_X2_102 : Cond.methodLink RX2 102 yX2_prick ∈ ab_tb := (ab_mem 467 (by decide +kernel) rfl)
theorem ml_X2_105 : Cond.methodLink RX2 105 yX2_healAll ∈ ab_tb := (ab_mem 472 (by decide +kernel) rfl)
theorem ml_X2_108 : Cond.methodLink RX2 108 yJ9_max_7cf53 ∈ ab_tb := (ab_mem 461 (by decide +kernel) rfl)
theorem ml_X2_111 : Cond.methodLink RX2 111 yX2_goDay ∈ ab_tb := (ab_mem 538 (by decide +kernel) rfl)
theorem ml_X2_65 : Cond.methodLinkNest RX2 65 yX8_speedBy "LameLead" ∈ ab_tb := (ab_mem 367 (by decide +kernel) rfl)
theorem kl_X2_52 : Cond.constantLong RX2 52 (15) ∈ ab_tb := (ab_mem 517 (by decide +kernel) rfl)
theorem kl_X2_54 : Cond.constantLong RX2 54 (255) ∈ ab_tb := (ab_mem 518 (by decide +kernel) rfl)
theorem ml_X3_22 : Cond.methodLink RX3 22 yX2_follow ∈ ab_tb := (ab_mem 530 (by decide +kernel) rfl)
theorem ml_X3_28 : Cond.methodLink RX3 28 yX2_goDays ∈ ab_tb := (ab_mem 534 (by decide +kernel) rfl)
theorem ml_X3_32 : Cond.methodLink RX3 32 yX2_mile ∈ ab_tb := (ab_mem 539 (by decide +kernel) rfl)
theorem ml_X3_36 : Cond.methodLink RX3 36 yX2_leader ∈ ab_tb := (ab_mem 544 (by decide +kernel) rfl)
theorem ml_X3_39 : Cond.methodLink RX3 39 yX2_goToEnd ∈ ab_tb := (ab_mem 553 (by decide +kernel) rfl)
theorem ml_X3_43 : Cond.methodLink RX3 43 yX2_goDay ∈ ab_tb := (ab_mem 565 (by decide +kernel) rfl)
theorem ml_X3_46 : Cond.methodLink RX3 46 yX2_menCount ∈ ab_tb := (ab_mem 574 (by decide +kernel) rfl)
theorem ml_X3_49 : Cond.methodLink RX3 49 yX2_canEase ∈ ab_tb := (ab_mem 578 (by decide +kernel) rfl)
theorem ml_X3_53 : Cond.methodLink RX3 53 yX3_daysIfEased ∈ ab_tb := (ab_mem 579 (by decide +kernel) rfl)
theorem ml_X3_56 : Cond.methodLink RX3 56 yX2_ease ∈ ab_tb := (ab_mem 583 (by decide +kernel) rfl)
theorem ml_X3_63 : Cond.methodLink RX3 63 yX3_pullsInAll ∈ ab_tb := (ab_mem 595 (by decide +kernel) rfl)
theorem ml_X3_66 : Cond.methodLink RX3 66 yX3_canPull ∈ ab_tb := (ab_mem 603 (by decide +kernel) rfl)
theorem ml_X3_69 : Cond.methodLink RX3 69 yX3_isInTime ∈ ab_tb := (ab_mem 608 (by decide +kernel) rfl)
theorem ml_X3_73 : Cond.methodLink RX3 73 yX3_pullsOf ∈ ab_tb := (ab_mem 599 (by decide +kernel) rfl)
theorem ml_X3_76 : Cond.methodLink RX3 76 yX2_thornsOf ∈ ab_tb := (ab_mem 607 (by decide +kernel) rfl)
theorem ml_X3_79 : Cond.methodLink RX3 79 yX2_easeTimes ∈ ab_tb := (ab_mem 612 (by decide +kernel) rfl)
theorem ml_X3_83 : Cond.methodLink RX3 83 yJ9_min_7cf53 ∈ ab_tb := (ab_mem 632 (by decide +kernel) rfl)
theorem ml_X3_90 : Cond.methodLink RX3 90 yX3_does ∈ ab_tb := (ab_mem 634 (by decide +kernel) rfl)
theorem ml_X3_94 : Cond.methodLink RX3 94 yX3_doesPlain ∈ ab_tb := (ab_mem 638 (by decide +kernel) rfl)
theorem ml_X3_97 : Cond.methodLink RX3 97 yX2_stay ∈ ab_tb := (ab_mem 642 (by decide +kernel) rfl)
theorem ml_X3_100 : Cond.methodLink RX3 100 yX2_canPrick ∈ ab_tb := (ab_mem 643 (by decide +kernel) rfl)
theorem ml_X3_103 : Cond.methodLink RX3 103 yX2_prick ∈ ab_tb := (ab_mem 644 (by decide +kernel) rfl)
theorem ml_X3_106 : Cond.methodLink RX3 106 yJ6_bitCount_0f7a4 ∈ ab_tb := (ab_mem 658 (by decide +kernel) rfl)
theorem ml_X3_114 : Cond.methodLink RX3 114 yX3_mileOfSome ∈ ab_tb := (ab_mem 665 (by decide +kernel) rfl)
theorem ml_X3_117 : Cond.methodLink RX3 117 yX2_end ∈ ab_tb := (ab_mem 669 (by decide +kernel) rfl)
theorem ml_X3_120 : Cond.methodLink RX3 120 yX2_followWith ∈ ab_tb := (ab_mem 673 (by decide +kernel) rfl)
theorem ml_X3_59 : Cond.methodLinkNest RX3 59 yX8_power "LameLead" ∈ ab_tb := (ab_mem 592 (by decide +kernel) rfl)
theorem ml_X3_111 : Cond.methodLinkNest RX3 111 yX8_factorial "LameLead" ∈ ab_tb := (ab_mem 664 (by decide +kernel) rfl)
theorem kl_X3_88 : Cond.constantLong RX3 88 (1000) ∈ ab_tb := (ab_mem 633 (by decide +kernel) rfl)
theorem ml_X4_31 : Cond.methodLink RX4 31 yX4_has ∈ ab_tb := (ab_mem 422 (by decide +kernel) rfl)
theorem ml_X5_19 : Cond.methodLink RX5 19 yX5_letterAt ∈ ab_tb := (ab_mem 270 (by decide +kernel) rfl)
theorem ml_X5_29 : Cond.methodLink RX5 29 yX5_misfitFrom ∈ ab_tb := (ab_mem 278 (by decide +kernel) rfl)
theorem ml_X5_39 : Cond.methodLink RX5 39 yX5_figureAt ∈ ab_tb := (ab_mem 282 (by decide +kernel) rfl)
theorem ml_X5_42 : Cond.methodLink RX5 42 yX4_empty ∈ ab_tb := (ab_mem 298 (by decide +kernel) rfl)
theorem ml_X5_47 : Cond.methodLink RX5 47 yX7_empty ∈ ab_tb := (ab_mem 302 (by decide +kernel) rfl)
theorem ml_X5_50 : Cond.methodLink RX5 50 yX4_add ∈ ab_tb := (ab_mem 306 (by decide +kernel) rfl)
theorem ml_X5_54 : Cond.methodLink RX5 54 yX7_add ∈ ab_tb := (ab_mem 310 (by decide +kernel) rfl)
theorem sl_X5_23 : ∃ t ∈ ab_sts, t.2.2.1 = 103 ∧ (Cond.fieldLink RX5 23 "LameLead" t.1 t.2.1 ∈ ab_tb ∨ Cond.fieldLinkNest RX5 23 "LameLead" t.1 t.2.1 "LameLead" ∈ ab_tb) := ⟨_, List.mem_of_getElem? (i := 3) rfl, rfl, Or.inr (ab_mem 274 (by decide +kernel) rfl)⟩
theorem sl_X5_26 : ∃ t ∈ ab_sts, t.2.2.1 = 104 ∧ (Cond.fieldLink RX5 26 "LameLead" t.1 t.2.1 ∈ ab_tb ∨ Cond.fieldLinkNest RX5 26 "LameLead" t.1 t.2.1 "LameLead" ∈ ab_tb) := ⟨_, List.mem_of_getElem? (i := 4) rfl, rfl, Or.inr (ab_mem 276 (by decide +kernel) rfl)⟩
theorem sl_X5_33 : ∃ t ∈ ab_sts, t.2.2.1 = 105 ∧ (Cond.fieldLink RX5 33 "LameLead" t.1 t.2.1 ∈ ab_tb ∨ Cond.fieldLinkNest RX5 33 "LameLead" t.1 t.2.1 "LameLead" ∈ ab_tb) := ⟨_, List.mem_of_getElem? (i := 5) rfl, rfl, Or.inr (ab_mem 286 (by decide +kernel) rfl)⟩
theorem sl_X5_36 : ∃ t ∈ ab_sts, t.2.2.1 = 106 ∧ (Cond.fieldLink RX5 36 "LameLead" t.1 t.2.1 ∈ ab_tb ∨ Cond.fieldLinkNest RX5 36 "LameLead" t.1 t.2.1 "LameLead" ∈ ab_tb) := ⟨_, List.mem_of_getElem? (i := 6) rfl, rfl, Or.inr (ab_mem 288 (by decide +kernel) rfl)⟩
theorem ml_X6_30 : Cond.methodLink RX6 30 yX6_fits ∈ ab_tb := (ab_mem 711 (by decide +kernel) rfl)
theorem ml_X6_26 : Cond.methodLinkNest RX6 26 yX8_speedBy "LameLead" ∈ ab_tb := (ab_mem 715 (by decide +kernel) rfl)
theorem ml_X7_25 : Cond.methodLink RX7 25 yX7_has ∈ ab_tb := (ab_mem 322 (by decide +kernel) rfl)
theorem ml_X8_79 : Cond.methodLink RX8 79 yX5_size ∈ ab_tb := (ab_mem 246 (by decide +kernel) rfl)
theorem ml_X8_83 : Cond.methodLink RX8 83 yX5_append ∈ ab_tb := (ab_mem 250 (by decide +kernel) rfl)
theorem ml_X8_87 : Cond.methodLink RX8 87 yX5_empty ∈ ab_tb := (ab_mem 258 (by decide +kernel) rfl)
theorem ml_X8_90 : Cond.methodLink RX8 90 yX5_faultPlace ∈ ab_tb := (ab_mem 266 (by decide +kernel) rfl)
theorem ml_X8_93 : Cond.methodLink RX8 93 yX5_tell ∈ ab_tb := (ab_mem 294 (by decide +kernel) rfl)
theorem ml_X8_96 : Cond.methodLink RX8 96 yX2_begin ∈ ab_tb := (ab_mem 314 (by decide +kernel) rfl)
theorem ml_X8_99 : Cond.methodLink RX8 99 yX0_forgetAll ∈ ab_tb := (ab_mem 326 (by decide +kernel) rfl)
theorem ml_X8_102 : Cond.methodLink RX8 102 yX4_count ∈ ab_tb := (ab_mem 330 (by decide +kernel) rfl)
theorem ml_X8_105 : Cond.methodLink RX8 105 yX7_count ∈ ab_tb := (ab_mem 334 (by decide +kernel) rfl)
theorem ml_X8_106 : Cond.methodLink RX8 106 yX4_end ∈ ab_tb := (ab_mem 342 (by decide +kernel) rfl)
theorem ml_X8_109 : Cond.methodLink RX8 109 yX2_mile ∈ ab_tb := (ab_mem 346 (by decide +kernel) rfl)
theorem ml_X8_112 : Cond.methodLink RX8 112 yX2_dayNumber ∈ ab_tb := (ab_mem 350 (by decide +kernel) rfl)
theorem ml_X8_115 : Cond.methodLink RX8 115 yX2_leader ∈ ab_tb := (ab_mem 354 (by decide +kernel) rfl)
theorem ml_X8_118 : Cond.methodLink RX8 118 yX2_leaderSpeed ∈ ab_tb := (ab_mem 372 (by decide +kernel) rfl)
theorem ml_X8_121 : Cond.methodLink RX8 121 yX4_stretchAt ∈ ab_tb := (ab_mem 385 (by decide +kernel) rfl)
theorem ml_X8_125 : Cond.methodLink RX8 125 yX2_allThorns ∈ ab_tb := (ab_mem 389 (by decide +kernel) rfl)
theorem ml_X8_128 : Cond.methodLink RX8 128 yX0_count ∈ ab_tb := (ab_mem 393 (by decide +kernel) rfl)
theorem ml_X8_129 : Cond.methodLink RX8 129 yX6_count ∈ ab_tb := (ab_mem 397 (by decide +kernel) rfl)
theorem ml_X8_130 : Cond.methodLink RX8 130 yX7_has ∈ ab_tb := (ab_mem 405 (by decide +kernel) rfl)
theorem ml_X8_134 : Cond.methodLink RX8 134 yX7_paceOf ∈ ab_tb := (ab_mem 406 (by decide +kernel) rfl)
theorem ml_X8_137 : Cond.methodLink RX8 137 yX7_kindOf ∈ ab_tb := (ab_mem 407 (by decide +kernel) rfl)
theorem ml_X8_140 : Cond.methodLink RX8 140 yX2_thornsOf ∈ ab_tb := (ab_mem 408 (by decide +kernel) rfl)
theorem ml_X8_143 : Cond.methodLink RX8 143 yX2_speedOf ∈ ab_tb := (ab_mem 409 (by decide +kernel) rfl)
theorem ml_X8_146 : Cond.methodLink RX8 146 yX4_has ∈ ab_tb := (ab_mem 414 (by decide +kernel) rfl)
theorem ml_X8_147 : Cond.methodLink RX8 147 yX4_milesOf ∈ ab_tb := (ab_mem 418 (by decide +kernel) rfl)
theorem ml_X8_150 : Cond.methodLink RX8 150 yX4_groundOf ∈ ab_tb := (ab_mem 423 (by decide +kernel) rfl)
theorem ml_X8_153 : Cond.methodLink RX8 153 yX4_beginOf ∈ ab_tb := (ab_mem 427 (by decide +kernel) rfl)
theorem ml_X8_156 : Cond.methodLink RX8 156 yX2_packed ∈ ab_tb := (ab_mem 435 (by decide +kernel) rfl)
theorem ml_X8_160 : Cond.methodLink RX8 160 yX0_remember ∈ ab_tb := (ab_mem 439 (by decide +kernel) rfl)
theorem ml_X8_164 : Cond.methodLink RX8 164 yX2_goDay ∈ ab_tb := (ab_mem 447 (by decide +kernel) rfl)
theorem ml_X8_167 : Cond.methodLink RX8 167 yX2_stay ∈ ab_tb := (ab_mem 480 (by decide +kernel) rfl)
theorem ml_X8_170 : Cond.methodLink RX8 170 yX2_canPrick ∈ ab_tb := (ab_mem 488 (by decide +kernel) rfl)
theorem ml_X8_173 : Cond.methodLink RX8 173 yX2_prick ∈ ab_tb := (ab_mem 492 (by decide +kernel) rfl)
theorem ml_X8_176 : Cond.methodLink RX8 176 yX2_canEase ∈ ab_tb := (ab_mem 497 (by decide +kernel) rfl)
theorem ml_X8_179 : Cond.methodLink RX8 179 yX2_ease ∈ ab_tb := (ab_mem 501 (by decide +kernel) rfl)
theorem ml_X8_182 : Cond.methodLink RX8 182 yX0_takeLast ∈ ab_tb := (ab_mem 509 (by decide +kernel) rfl)
theorem ml_X8_185 : Cond.methodLink RX8 185 yX2_unpack ∈ ab_tb := (ab_mem 513 (by decide +kernel) rfl)
theorem ml_X8_188 : Cond.methodLink RX8 188 yX8_isChoice ∈ ab_tb := (ab_mem 523 (by decide +kernel) rfl)
theorem ml_X8_191 : Cond.methodLink RX8 191 yX3_mileIn ∈ ab_tb := (ab_mem 526 (by decide +kernel) rfl)
theorem ml_X8_194 : Cond.methodLink RX8 194 yX3_leaderIn ∈ ab_tb := (ab_mem 540 (by decide +kernel) rfl)
theorem ml_X8_197 : Cond.methodLink RX8 197 yX3_daysToEnd ∈ ab_tb := (ab_mem 549 (by decide +kernel) rfl)
theorem ml_X8_200 : Cond.methodLink RX8 200 yX3_daysToLead ∈ ab_tb := (ab_mem 561 (by decide +kernel) rfl)
theorem ml_X8_203 : Cond.methodLink RX8 203 yX3_bestCure ∈ ab_tb := (ab_mem 570 (by decide +kernel) rfl)
theorem ml_X8_207 : Cond.methodLink RX8 207 yX3_fewestPulls ∈ ab_tb := (ab_mem 588 (by decide +kernel) rfl)
theorem ml_X8_210 : Cond.methodLink RX8 210 yX3_pullsInAll ∈ ab_tb := (ab_mem 617 (by decide +kernel) rfl)
theorem ml_X8_213 : Cond.methodLink RX8 213 yX3_pullFigures ∈ ab_tb := (ab_mem 618 (by decide +kernel) rfl)
theorem ml_X8_219 : Cond.methodLink RX8 219 yX3_firstImpossible ∈ ab_tb := (ab_mem 628 (by decide +kernel) rfl)
theorem ml_X8_223 : Cond.methodLink RX8 223 yX8_factorial ∈ ab_tb := (ab_mem 649 (by decide +kernel) rfl)
theorem ml_X8_226 : Cond.methodLink RX8 226 yX3_lossOverOrders ∈ ab_tb := (ab_mem 654 (by decide +kernel) rfl)
theorem ml_X8_229 : Cond.methodLink RX8 229 yX8_termOf ∈ ab_tb := (ab_mem 678 (by decide +kernel) rfl)
theorem ml_X8_233 : Cond.methodLink RX8 233 yX6_add ∈ ab_tb := (ab_mem 691 (by decide +kernel) rfl)
theorem ml_X8_237 : Cond.methodLink RX8 237 yX6_forgetAll ∈ ab_tb := (ab_mem 699 (by decide +kernel) rfl)
theorem ml_X8_238 : Cond.methodLink RX8 238 yX6_fittingCount ∈ ab_tb := (ab_mem 707 (by decide +kernel) rfl)
theorem ml_X8_241 : Cond.methodLink RX8 241 yX6_firstFitting ∈ ab_tb := (ab_mem 716 (by decide +kernel) rfl)
theorem ml_X8_244 : Cond.methodLink RX8 244 yX1_weighPairs ∈ ab_tb := (ab_mem 724 (by decide +kernel) rfl)
theorem ml_X8_248 : Cond.methodLink RX8 248 yX1_restCount ∈ ab_tb := (ab_mem 733 (by decide +kernel) rfl)
theorem ml_X8_251 : Cond.methodLink RX8 251 yX1_firstRest ∈ ab_tb := (ab_mem 744 (by decide +kernel) rfl)
theorem ml_X8_254 : Cond.methodLink RX8 254 yX8_power ∈ ab_tb := (ab_mem 752 (by decide +kernel) rfl)
theorem ml_X8_258 : Cond.methodLink RX8 258 yX1_weightInTime ∈ ab_tb := (ab_mem 753 (by decide +kernel) rfl)
theorem ml_X8_261 : Cond.methodLink RX8 261 yX1_setOut ∈ ab_tb := (ab_mem 773 (by decide +kernel) rfl)
theorem ml_X8_270 : Cond.methodLink RX8 270 yX1_mileBehindLot ∈ ab_tb := (ab_mem 780 (by decide +kernel) rfl)
theorem ml_X8_280 : Cond.methodLink RX8 280 yJ9_abs_0f7a4 ∈ ab_tb := (ab_mem 681 (by decide +kernel) rfl)
theorem ml_X8_285 : Cond.methodLink RX8 285 yX8_commonDivisor ∈ ab_tb := (ab_mem 684 (by decide +kernel) rfl)
theorem kl_X8_69 : Cond.constantLong RX8 69 (-1) ∈ ab_tb := (ab_mem 210 (by decide +kernel) rfl)
theorem kl_X8_264 : Cond.constantLong RX8 264 (6364136223846793005) ∈ ab_tb := (ab_mem 777 (by decide +kernel) rfl)
theorem kl_X8_266 : Cond.constantLong RX8 266 (1442695040888963407) ∈ ab_tb := (ab_mem 778 (by decide +kernel) rfl)
theorem kl_X8_268 : Cond.constantLong RX8 268 (20) ∈ ab_tb := (ab_mem 779 (by decide +kernel) rfl)
theorem sl_X8_216 : ∃ t ∈ ab_sts, t.2.2.1 = 102 ∧ (Cond.fieldLink RX8 216 "LameLead" t.1 t.2.1 ∈ ab_tb ∨ Cond.fieldLinkNest RX8 216 "LameLead" t.1 t.2.1 "LameLead" ∈ ab_tb) := ⟨_, List.mem_of_getElem? (i := 2) rfl, rfl, Or.inl (ab_mem 626 (by decide +kernel) rfl)⟩
theorem sl_X8_273 : ∃ t ∈ ab_sts, t.2.2.1 = 101 ∧ (Cond.fieldLink RX8 273 "LameLead" t.1 t.2.1 ∈ ab_tb ∨ Cond.fieldLinkNest RX8 273 "LameLead" t.1 t.2.1 "LameLead" ∈ ab_tb) := ⟨_, List.mem_of_getElem? (i := 1) rfl, rfl, Or.inl (ab_mem 652 (by decide +kernel) rfl)⟩
theorem sl_X8_277 : ∃ t ∈ ab_sts, t.2.2.1 = 100 ∧ (Cond.fieldLink RX8 277 "LameLead" t.1 t.2.1 ∈ ab_tb ∨ Cond.fieldLinkNest RX8 277 "LameLead" t.1 t.2.1 "LameLead" ∈ ab_tb) := ⟨_, List.mem_of_getElem? (i := 0) rfl, rfl, Or.inl (ab_mem 370 (by decide +kernel) rfl)⟩
theorem ml_X9_72 : Cond.methodLink RX9 72 yX9_in ∈ ab_tb := (ab_mem 915 (by decide +kernel) rfl)
theorem ml_X9_84 : Cond.methodLink RX9 84 yX9_figure ∈ ab_tb := (ab_mem 938 (by decide +kernel) rfl)
theorem ml_X9_94 : Cond.methodLink RX9 94 yX9_readOneStretch ∈ ab_tb := (ab_mem 934 (by decide +kernel) rfl)
theorem ml_X9_98 : Cond.methodLink RX9 98 yX9_readOneMan ∈ ab_tb := (ab_mem 942 (by decide +kernel) rfl)
theorem ml_X9_101 : Cond.methodLink RX9 101 yX9_readThing ∈ ab_tb := (ab_mem 930 (by decide +kernel) rfl)
theorem ml_X9_104 : Cond.methodLink RX9 104 yX9_readArmy ∈ ab_tb := (ab_mem 926 (by decide +kernel) rfl)
theorem ml_X9_117 : Cond.methodLink RX9 117 yX9_speedBy ∈ ab_tb := (ab_mem 965 (by decide +kernel) rfl)
theorem ml_X9_121 : Cond.methodLink RX9 121 yX9_has ∈ ab_tb := (ab_mem 958 (by decide +kernel) rfl)
theorem ml_X9_125 : Cond.methodLink RX9 125 yX9_speed ∈ ab_tb := (ab_mem 961 (by decide +kernel) rfl)
theorem ml_X9_129 : Cond.methodLink RX9 129 yX9_begins ∈ ab_tb := (ab_mem 972 (by decide +kernel) rfl)
theorem ml_X9_133 : Cond.methodLink RX9 133 yX9_leader ∈ ab_tb := (ab_mem 954 (by decide +kernel) rfl)
theorem ml_X9_136 : Cond.methodLink RX9 136 yX9_stretchAt ∈ ab_tb := (ab_mem 968 (by decide +kernel) rfl)
theorem ml_X9_139 : Cond.methodLink RX9 139 yX9_prick ∈ ab_tb := (ab_mem 1003 (by decide +kernel) rfl)
theorem ml_X9_143 : Cond.methodLink RX9 143 yX9_heal ∈ ab_tb := (ab_mem 1006 (by decide +kernel) rfl)
theorem ml_X9_147 : Cond.methodLink RX9 147 yX9_allThorns ∈ ab_tb := (ab_mem 976 (by decide +kernel) rfl)
theorem ml_X9_154 : Cond.methodLink RX9 154 yX9_noMan ∈ ab_tb := (ab_mem 983 (by decide +kernel) rfl)
theorem ml_X9_158 : Cond.methodLink RX9 158 yX9_note ∈ ab_tb := (ab_mem 995 (by decide +kernel) rfl)
theorem ml_X9_161 : Cond.methodLink RX9 161 yX9_goDay ∈ ab_tb := (ab_mem 999 (by decide +kernel) rfl)
theorem ml_X9_164 : Cond.methodLink RX9 164 yX9_goHalt ∈ ab_tb := (ab_mem 1014 (by decide +kernel) rfl)
theorem ml_X9_169 : Cond.methodLink RX9 169 yX9_begin ∈ ab_tb := (ab_mem 1035 (by decide +kernel) rfl)
theorem ml_X9_172 : Cond.methodLink RX9 172 yX9_goDays ∈ ab_tb := (ab_mem 1039 (by decide +kernel) rfl)
theorem ml_X9_176 : Cond.methodLink RX9 176 yX9_comesOf ∈ ab_tb := (ab_mem 1047 (by decide +kernel) rfl)
theorem ml_X9_185 : Cond.methodLink RX9 185 yX9_power ∈ ab_tb := (ab_mem 1068 (by decide +kernel) rfl)
theorem ml_X9_191 : Cond.methodLink RX9 191 yX9_pulls ∈ ab_tb := (ab_mem 1071 (by decide +kernel) rfl)
theorem ml_X9_196 : Cond.methodLink RX9 196 yX9_findPlan ∈ ab_tb := (ab_mem 1064 (by decide +kernel) rfl)
theorem ml_X9_200 : Cond.methodLink RX9 200 yX9_gravels ∈ ab_tb := (ab_mem 1088 (by decide +kernel) rfl)
theorem ml_X9_203 : Cond.methodLink RX9 203 yX9_isPulled ∈ ab_tb := (ab_mem 1092 (by decide +kernel) rfl)
theorem ml_X9_210 : Cond.methodLink RX9 210 yX9_longPower ∈ ab_tb := (ab_mem 1081 (by decide +kernel) rfl)
theorem ml_X9_214 : Cond.methodLink RX9 214 yX9_does ∈ ab_tb := (ab_mem 1084 (by decide +kernel) rfl)
theorem ml_X9_217 : Cond.methodLink RX9 217 yX9_divisor ∈ ab_tb := (ab_mem 1109 (by decide +kernel) rfl)
theorem ml_X9_220 : Cond.methodLink RX9 220 yX9_many ∈ ab_tb := (ab_mem 1100 (by decide +kernel) rfl)
theorem ml_X9_223 : Cond.methodLink RX9 223 yX9_ways ∈ ab_tb := (ab_mem 1103 (by decide +kernel) rfl)
theorem ml_X9_226 : Cond.methodLink RX9 226 yX9_fraction ∈ ab_tb := (ab_mem 1106 (by decide +kernel) rfl)
theorem kl_X9_76 : Cond.constantLong RX9 76 (255) ∈ ab_tb := (ab_mem 914 (by decide +kernel) rfl)
theorem kl_X9_167 : Cond.constantLong RX9 167 (40) ∈ ab_tb := (ab_mem 1034 (by decide +kernel) rfl)
theorem kl_X9_194 : Cond.constantLong RX9 194 (20) ∈ ab_tb := (ab_mem 1063 (by decide +kernel) rfl)
theorem kl_X9_206 : Cond.constantLong RX9 206 (4) ∈ ab_tb := (ab_mem 1079 (by decide +kernel) rfl)
theorem kl_X9_208 : Cond.constantLong RX9 208 (1000) ∈ ab_tb := (ab_mem 1080 (by decide +kernel) rfl)
theorem kl_X9_230 : Cond.constantLong RX9 230 (3) ∈ ab_tb := (ab_mem 1116 (by decide +kernel) rfl)
theorem kl_X9_232 : Cond.constantLong RX9 232 (9) ∈ ab_tb := (ab_mem 1117 (by decide +kernel) rfl)
theorem kl_X9_246 : Cond.constantLong RX9 246 (10) ∈ ab_tb := (ab_mem 1134 (by decide +kernel) rfl)
theorem kl_X9_252 : Cond.constantLong RX9 252 (30) ∈ ab_tb := (ab_mem 1143 (by decide +kernel) rfl)
theorem kl_X9_254 : Cond.constantLong RX9 254 (6364136223846793005) ∈ ab_tb := (ab_mem 1144 (by decide +kernel) rfl)
theorem kl_X9_256 : Cond.constantLong RX9 256 (1442695040888963407) ∈ ab_tb := (ab_mem 1145 (by decide +kernel) rfl)
theorem kl_J6_100265 : Cond.constant RJ6 265 (1431655765 : Int64).toInt32 ∈ ab_tb := (ab_mem 661 (by decide +kernel) rfl)
theorem kl_J6_100266 : Cond.constant RJ6 266 (858993459 : Int64).toInt32 ∈ ab_tb := (ab_mem 662 (by decide +kernel) rfl)
theorem kl_J6_100267 : Cond.constant RJ6 267 (252645135 : Int64).toInt32 ∈ ab_tb := (ab_mem 663 (by decide +kernel) rfl)
theorem ml_L_13 : Cond.methodLink RL 13 yX8_write ∈ ab_tb := (ab_mem 242 (by decide +kernel) rfl)
theorem ml_L_17 : Cond.methodLink RL 17 yX9_write ∈ ab_tb := (ab_mem 910 (by decide +kernel) rfl)
theorem ml_L_18 : Cond.methodLink RL 18 yX8_wipe ∈ ab_tb := (ab_mem 254 (by decide +kernel) rfl)
theorem ml_L_22 : Cond.methodLink RL 22 yX9_wipe ∈ ab_tb := (ab_mem 918 (by decide +kernel) rfl)
theorem ml_L_23 : Cond.methodLink RL 23 yX8_fault ∈ ab_tb := (ab_mem 262 (by decide +kernel) rfl)
theorem ml_L_26 : Cond.methodLink RL 26 yX9_fault ∈ ab_tb := (ab_mem 922 (by decide +kernel) rfl)
theorem ml_L_27 : Cond.methodLink RL 27 yX8_army ∈ ab_tb := (ab_mem 290 (by decide +kernel) rfl)
theorem ml_L_30 : Cond.methodLink RL 30 yX9_army ∈ ab_tb := (ab_mem 946 (by decide +kernel) rfl)
theorem ml_L_31 : Cond.methodLink RL 31 yX8_about ∈ ab_tb := (ab_mem 338 (by decide +kernel) rfl)
theorem ml_L_34 : Cond.methodLink RL 34 yX9_about ∈ ab_tb := (ab_mem 950 (by decide +kernel) rfl)
theorem ml_L_35 : Cond.methodLink RL 35 yX8_man ∈ ab_tb := (ab_mem 401 (by decide +kernel) rfl)
theorem ml_L_39 : Cond.methodLink RL 39 yX9_man ∈ ab_tb := (ab_mem 979 (by decide +kernel) rfl)
theorem ml_L_40 : Cond.methodLink RL 40 yX8_stretch ∈ ab_tb := (ab_mem 410 (by decide +kernel) rfl)
theorem ml_L_43 : Cond.methodLink RL 43 yX9_stretch ∈ ab_tb := (ab_mem 987 (by decide +kernel) rfl)
theorem ml_L_44 : Cond.methodLink RL 44 yX8_day ∈ ab_tb := (ab_mem 431 (by decide +kernel) rfl)
theorem ml_L_47 : Cond.methodLink RL 47 yX9_day ∈ ab_tb := (ab_mem 991 (by decide +kernel) rfl)
theorem ml_L_48 : Cond.methodLink RL 48 yX8_halt ∈ ab_tb := (ab_mem 476 (by decide +kernel) rfl)
theorem ml_L_51 : Cond.methodLink RL 51 yX9_halt ∈ ab_tb := (ab_mem 1010 (by decide +kernel) rfl)
theorem ml_L_52 : Cond.methodLink RL 52 yX8_gravel ∈ ab_tb := (ab_mem 484 (by decide +kernel) rfl)
theorem ml_L_55 : Cond.methodLink RL 55 yX9_gravel ∈ ab_tb := (ab_mem 1018 (by decide +kernel) rfl)
theorem ml_L_56 : Cond.methodLink RL 56 yX8_pull ∈ ab_tb := (ab_mem 493 (by decide +kernel) rfl)
theorem ml_L_59 : Cond.methodLink RL 59 yX9_pull ∈ ab_tb := (ab_mem 1022 (by decide +kernel) rfl)
theorem ml_L_60 : Cond.methodLink RL 60 yX8_undo ∈ ab_tb := (ab_mem 505 (by decide +kernel) rfl)
theorem ml_L_63 : Cond.methodLink RL 63 yX9_undo ∈ ab_tb := (ab_mem 1026 (by decide +kernel) rfl)
theorem ml_L_64 : Cond.methodLink RL 64 yX8_later ∈ ab_tb := (ab_mem 519 (by decide +kernel) rfl)
theorem ml_L_67 : Cond.methodLink RL 67 yX9_later ∈ ab_tb := (ab_mem 1030 (by decide +kernel) rfl)
theorem ml_L_68 : Cond.methodLink RL 68 yX8_comes ∈ ab_tb := (ab_mem 545 (by decide +kernel) rfl)
theorem ml_L_71 : Cond.methodLink RL 71 yX9_comes ∈ ab_tb := (ab_mem 1043 (by decide +kernel) rfl)
theorem ml_L_72 : Cond.methodLink RL 72 yX8_leads ∈ ab_tb := (ab_mem 557 (by decide +kernel) rfl)
theorem ml_L_75 : Cond.methodLink RL 75 yX9_leads ∈ ab_tb := (ab_mem 1051 (by decide +kernel) rfl)
theorem ml_L_76 : Cond.methodLink RL 76 yX8_cure ∈ ab_tb := (ab_mem 566 (by decide +kernel) rfl)
theorem ml_L_79 : Cond.methodLink RL 79 yX9_cure ∈ ab_tb := (ab_mem 1055 (by decide +kernel) rfl)
theorem ml_L_80 : Cond.methodLink RL 80 yX8_plan ∈ ab_tb := (ab_mem 584 (by decide +kernel) rfl)
theorem ml_L_83 : Cond.methodLink RL 83 yX9_plan ∈ ab_tb := (ab_mem 1059 (by decide +kernel) rfl)
theorem ml_L_86 : Cond.methodLink RL 86 yX8_judge ∈ ab_tb := (ab_mem 622 (by decide +kernel) rfl)
theorem ml_L_90 : Cond.methodLink RL 90 yX9_judge ∈ ab_tb := (ab_mem 1075 (by decide +kernel) rfl)
theorem ml_L_91 : Cond.methodLink RL 91 yX8_share ∈ ab_tb := (ab_mem 645 (by decide +kernel) rfl)
theorem ml_L_95 : Cond.methodLink RL 95 yX9_share ∈ ab_tb := (ab_mem 1096 (by decide +kernel) rfl)
theorem ml_L_96 : Cond.methodLink RL 96 yX8_attempt ∈ ab_tb := (ab_mem 687 (by decide +kernel) rfl)
theorem ml_L_100 : Cond.methodLink RL 100 yX9_attempt ∈ ab_tb := (ab_mem 1112 (by decide +kernel) rfl)
theorem ml_L_101 : Cond.methodLink RL 101 yX8_unattempt ∈ ab_tb := (ab_mem 695 (by decide +kernel) rfl)
theorem ml_L_104 : Cond.methodLink RL 104 yX9_unattempt ∈ ab_tb := (ab_mem 1118 (by decide +kernel) rfl)
theorem ml_L_105 : Cond.methodLink RL 105 yX8_paces ∈ ab_tb := (ab_mem 703 (by decide +kernel) rfl)
theorem ml_L_108 : Cond.methodLink RL 108 yX9_paces ∈ ab_tb := (ab_mem 1122 (by decide +kernel) rfl)
theorem ml_L_109 : Cond.methodLink RL 109 yX8_rests ∈ ab_tb := (ab_mem 720 (by decide +kernel) rfl)
theorem ml_L_112 : Cond.methodLink RL 112 yX9_rests ∈ ab_tb := (ab_mem 1126 (by decide +kernel) rfl)
theorem ml_L_113 : Cond.methodLink RL 113 yX8_thorny ∈ ab_tb := (ab_mem 748 (by decide +kernel) rfl)
theorem ml_L_117 : Cond.methodLink RL 117 yX9_thorny ∈ ab_tb := (ab_mem 1130 (by decide +kernel) rfl)
theorem ml_L_118 : Cond.methodLink RL 118 yX8_seed ∈ ab_tb := (ab_mem 765 (by decide +kernel) rfl)
theorem ml_L_122 : Cond.methodLink RL 122 yX9_seed ∈ ab_tb := (ab_mem 1135 (by decide +kernel) rfl)
theorem ml_L_123 : Cond.methodLink RL 123 yX8_campaigns ∈ ab_tb := (ab_mem 769 (by decide +kernel) rfl)
theorem ml_L_126 : Cond.methodLink RL 126 yX9_campaigns ∈ ab_tb := (ab_mem 1139 (by decide +kernel) rfl)
theorem ml_L_127 : Cond.methodLink RL 127 yX8_keep ∈ ab_tb := (ab_mem 787 (by decide +kernel) rfl)
theorem ml_L_130 : Cond.methodLink RL 130 yX9_keep ∈ ab_tb := (ab_mem 1146 (by decide +kernel) rfl)
theorem ml_L_131 : Cond.methodLink RL 131 yX8_again ∈ ab_tb := (ab_mem 791 (by decide +kernel) rfl)
theorem ml_L_134 : Cond.methodLink RL 134 yX9_again ∈ ab_tb := (ab_mem 1150 (by decide +kernel) rfl)
theorem kl_L_84 : Cond.constantLong RL 84 (4294967295) ∈ ab_tb := (ab_mem 1154 (by decide +kernel) rfl)
section ABL
variable {a : Option FieldType} {b : List (Nat × Nat × Nat)} {c : List (Nat × Nat × ab_Sem)} {d : List (Nat × Int64)} {g : List (Nat × Nat)} {r : ab_R} {P : ab_P} {pc : Nat} {lv : ab_L} {st : List Value} {M : ab_M} {k : ab_K}
def kl_X0 : List (Nat × Int64) := []
theorem ko_X0 : ∀ (idx : Nat) (v : Int64), ab_lk kl_X0 idx = some v → (idx < 100000 → Cond.constantLong RX0 idx v ∈ ab_tb) ∧ ∀ j, idx = j + 100000 → Cond.constant RX0 j v.toInt32 ∈ ab_tb := ab_kl_nil
def gs_X0 : List (Nat × Nat) := []
theorem so_X0 : ∀ (idx r : Nat), ab_lk gs_X0 idx = some r → ∃ t ∈ ab_sts, t.2.2.1 = r ∧ (Cond.fieldLink RX0 idx "LameLead" t.1 t.2.1 ∈ ab_tb ∨ Cond.fieldLinkNest RX0 idx "LameLead" t.1 t.2.1 "LameLead" ∈ ab_tb) := ab_gs_nil
def kl_X1 : List (Nat × Int64) := []
theorem ko_X1 : ∀ (idx : Nat) (v : Int64), ab_lk kl_X1 idx = some v → (idx < 100000 → Cond.constantLong RX1 idx v ∈ ab_tb) ∧ ∀ j, idx = j + 100000 → Cond.constant RX1 j v.toInt32 ∈ ab_tb := ab_kl_nil
def gs_X1 : List (Nat × Nat) := []
theorem so_X1 : ∀ (idx r : Nat), ab_lk gs_X1 idx = some r → ∃ t ∈ ab_sts, t.2.2.1 = r ∧ (Cond.fieldLink RX1 idx "LameLead" t.1 t.2.1 ∈ ab_tb ∨ Cond.fieldLinkNest RX1 idx "LameLead" t.1 t.2.1 "LameLead" ∈ ab_tb) := ab_gs_nil
def kl_X2 : List (Nat × Int64) := [(52, 15), (54, 255)]
theorem ko_X2 : ∀ (idx : Nat) (v : Int64), ab_lk kl_X2 idx = some v → (idx < 100000 → Cond.constantLong RX2 idx v ∈ ab_tb) ∧ ∀ j, idx = j + 100000 → Cond.constant RX2 j v.toInt32 ∈ ab_tb := (ab_kl_L (by decide) kl_X2_52 (ab_kl_L (by decide) kl_X2_54 ab_kl_nil))
def gs_X2 : List (Nat × Nat) := []
theorem so_X2 : ∀ (idx r : Nat), ab_lk gs_X2 idx = some r → ∃ t ∈ ab_sts, t.2.2.1 = r ∧ (Cond.fieldLink RX2 idx "LameLead" t.1 t.2.1 ∈ ab_tb ∨ Cond.fieldLinkNest RX2 idx "LameLead" t.1 t.2.1 "LameLead" ∈ ab_tb) := ab_gs_nil
theorem e_kl_X2_52 : ab_ds (a, b, c, kl_X2, g, r) P (.ok (.ldc2_w 52, 3)) pc lv st M k = k (pc + 3) lv (.long 15 :: st) M := by simp [ab_ds, ab_lo, ab_st, kl_X2, ab_lk]
theorem e_kl_X2_54 : ab_ds (a, b, c, kl_X2, g, r) P (.ok (.ldc2_w 54, 3)) pc lv st M k = k (pc + 3) lv (.long 255 :: st) M := by simp [ab_ds, ab_lo, ab_st, kl_X2, ab_lk]
def kl_X3 : List (Nat × Int64) := [(88, 1000)]
theorem ko_X3 : ∀ (idx : Nat) (v : Int64), ab_lk kl_X3 idx = some v → (idx < 100000 → Cond.constantLong RX3 idx v ∈ ab_tb) ∧ ∀ j, idx = j + 100000 → Cond.constant RX3 j v.toInt32 ∈ ab_tb := (ab_kl_L (by decide) kl_X3_88 ab_kl_nil)
def gs_X3 : List (Nat × Nat) := []
theorem so_X3 : ∀ (idx r : Nat), ab_lk gs_X3 idx = some r → ∃ t ∈ ab_sts, t.2.2.1 = r ∧ (Cond.fieldLink RX3 idx "LameLead" t.1 t.2.1 ∈ ab_tb ∨ Cond.fieldLinkNest RX3 idx "LameLead" t.1 t.2.1 "LameLead" ∈ ab_tb) := ab_gs_nil
theorem e_kl_X3_88 : ab_ds (a, b, c, kl_X3, g, r) P (.ok (.ldc2_w 88, 3)) pc lv st M k = k (pc + 3) lv (.long 1000 :: st) M := by simp [ab_ds, ab_lo, ab_st, kl_X3, ab_lk]
def kl_X4 : List (Nat × Int64) := []
theorem ko_X4 : ∀ (idx : Nat) (v : Int64), ab_lk kl_X4 idx = some v → (idx < 100000 → Cond.constantLong RX4 idx v ∈ ab_tb) ∧ ∀ j, idx = j + 100000 → Cond.constant RX4 j v.toInt32 ∈ ab_tb := ab_kl_nil
def gs_X4 : List (Nat × Nat) := []
theorem so_X4 : ∀ (idx r : Nat), ab_lk gs_X4 idx = some r → ∃ t ∈ ab_sts, t.2.2.1 = r ∧ (Cond.fieldLink RX4 idx "LameLead" t.1 t.2.1 ∈ ab_tb ∨ Cond.fieldLinkNest RX4 idx "LameLead" t.1 t.2.1 "LameLead" ∈ ab_tb) := ab_gs_nil
def kl_X5 : List (Nat × Int64) := []
theorem ko_X5 : ∀ (idx : Nat) (v : Int64), ab_lk kl_X5 idx = some v → (idx < 100000 → Cond.constantLong RX5 idx v ∈ ab_tb) ∧ ∀ j, idx = j + 100000 → Cond.constant RX5 j v.toInt32 ∈ ab_tb := ab_kl_nil
def gs_X5 : List (Nat × Nat) := [(23, 103), (26, 104), (33, 105), (36, 106)]
theorem so_X5 : ∀ (idx r : Nat), ab_lk gs_X5 idx = some r → ∃ t ∈ ab_sts, t.2.2.1 = r ∧ (Cond.fieldLink RX5 idx "LameLead" t.1 t.2.1 ∈ ab_tb ∨ Cond.fieldLinkNest RX5 idx "LameLead" t.1 t.2.1 "LameLead" ∈ ab_tb) := (ab_gs_cons sl_X5_23 (ab_gs_cons sl_X5_26 (ab_gs_cons sl_X5_33 (ab_gs_cons sl_X5_36 ab_gs_nil))))
theorem e_gs_X5_23 : ab_ds (a, b, c, d, gs_X5, r) P (.ok (.getstatic 23, 3)) pc lv st M k = k (pc + 3) lv (.ref 103 :: st) M := by simp [ab_ds, ab_lo, ab_st, gs_X5, ab_lk]
theorem e_gs_X5_26 : ab_ds (a, b, c, d, gs_X5, r) P (.ok (.getstatic 26, 3)) pc lv st M k = k (pc + 3) lv (.ref 104 :: st) M := by simp [ab_ds, ab_lo, ab_st, gs_X5, ab_lk]
theorem e_gs_X5_33 : ab_ds (a, b, c, d, gs_X5, r) P (.ok (.getstatic 33, 3)) pc lv st M k = k (pc + 3) lv (.ref 105 :: st) M := by simp [ab_ds, ab_lo, ab_st, gs_X5, ab_lk]
theorem e_gs_X5_36 : ab_ds (a, b, c, d, gs_X5, r) P (.ok (.getstatic 36, 3)) pc lv st M k = k (pc + 3) lv (.ref 106 :: st) M := by simp [ab_ds, ab_lo, ab_st, gs_X5, ab_lk]
def kl_X6 : List (Nat × Int64) := []
theorem ko_X6 : ∀ (idx : Nat) (v : Int64), ab_lk kl_X6 idx = some v → (idx < 100000 → Cond.constantLong RX6 idx v ∈ ab_tb) ∧ ∀ j, idx = j + 100000 → Cond.constant RX6 j v.toInt32 ∈ ab_tb := ab_kl_nil
def gs_X6 : List (Nat × Nat) := []
theorem so_X6 : ∀ (idx r : Nat), ab_lk gs_X6 idx = some r → ∃ t ∈ ab_sts, t.2.2.1 = r ∧ (Cond.fieldLink RX6 idx "LameLead" t.1 t.2.1 ∈ ab_tb ∨ Cond.fieldLinkNest RX6 idx "LameLead" t.1 t.2.1 "LameLead" ∈ ab_tb) := ab_gs_nil
def kl_X7 : List (Nat × Int64) := []
theorem ko_X7 : ∀ (idx : Nat) (v : Int64), ab_lk kl_X7 idx = some v → (idx < 100000 → Cond.constantLong RX7 idx v ∈ ab_tb) ∧ ∀ j, idx = j + 100000 → Cond.constant RX7 j v.toInt32 ∈ ab_tb := ab_kl_nil
def gs_X7 : List (Nat × Nat) := []
theorem so_X7 : ∀ (idx r : Nat), ab_lk gs_X7 idx = some r → ∃ t ∈ ab_sts, t.2.2.1 = r ∧ (Cond.fieldLink RX7 idx "LameLead" t.1 t.2.1 ∈ ab_tb ∨ Cond.fieldLinkNest RX7 idx "LameLead" t.1 t.2.1 "LameLead" ∈ ab_tb) := ab_gs_nil
def kl_X8 : List (Nat × Int64) := [(69, (-1)), (264, 6364136223846793005), (266, 1442695040888963407), (268, 20)]
theorem ko_X8 : ∀ (idx : Nat) (v : Int64), ab_lk kl_X8 idx = some v → (idx < 100000 → Cond.constantLong RX8 idx v ∈ ab_tb) ∧ ∀ j, idx = j + 100000 → Cond.constant RX8 j v.toInt32 ∈ ab_tb := (ab_kl_L (by decide) kl_X8_69 (ab_kl_L (by decide) kl_X8_264 (ab_kl_L (by decide) kl_X8_266 (ab_kl_L (by decide) kl_X8_268 ab_kl_nil))))
def gs_X8 : List (Nat × Nat) := [(216, 102), (273, 101), (277, 100)]
theorem so_X8 : ∀ (idx r : Nat), ab_lk gs_X8 idx = some r → ∃ t ∈ ab_sts, t.2.2.1 = r ∧ (Cond.fieldLink RX8 idx "LameLead" t.1 t.2.1 ∈ ab_tb ∨ Cond.fieldLinkNest RX8 idx "LameLead" t.1 t.2.1 "LameLead" ∈ ab_tb) := (ab_gs_cons sl_X8_216 (ab_gs_cons sl_X8_273 (ab_gs_cons sl_X8_277 ab_gs_nil)))
theorem e_kl_X8_69 : ab_ds (a, b, c, kl_X8, g, r) P (.ok (.ldc2_w 69, 3)) pc lv st M k = k (pc + 3) lv (.long (-1) :: st) M := by simp [ab_ds, ab_lo, ab_st, kl_X8, ab_lk]
theorem e_kl_X8_264 : ab_ds (a, b, c, kl_X8, g, r) P (.ok (.ldc2_w 264, 3)) pc lv st M k = k (pc + 3) lv (.long 6364136223846793005 :: st) M := by simp [ab_ds, ab_lo, ab_st, kl_X8, ab_lk]
theorem e_kl_X8_266 : ab_ds (a, b, c, kl_X8, g, r) P (.ok (.ldc2_w 266, 3)) pc lv st M k = k (pc + 3) lv (.long 1442695040888963407 :: st) M := by simp [ab_ds, ab_lo, ab_st, kl_X8, ab_lk]
theorem e_kl_X8_268 : ab_ds (a, b, c, kl_X8, g, r) P (.ok (.ldc2_w 268, 3)) pc lv st M k = k (pc + 3) lv (.long 20 :: st) M := by simp [ab_ds, ab_lo, ab_st, kl_X8, ab_lk]
theorem e_gs_X8_216 : ab_ds (a, b, c, d, gs_X8, r) P (.ok (.getstatic 216, 3)) pc lv st M k = k (pc + 3) lv (.ref 102 :: st) M := by simp [ab_ds, ab_lo, ab_st, gs_X8, ab_lk]
theorem e_gs_X8_273 : ab_ds (a, b, c, d, gs_X8, r) P (.ok (.getstatic 273, 3)) pc lv st M k = k (pc + 3) lv (.ref 101 :: st) M := by simp [ab_ds, ab_lo, ab_st, gs_X8, ab_lk]
theorem e_gs_X8_277 : ab_ds (a, b, c, d, gs_X8, r) P (.ok (.getstatic 277, 3)) pc lv st M k = k (pc + 3) lv (.ref 100 :: st) M := by simp [ab_ds, ab_lo, ab_st, gs_X8, ab_lk]
def kl_X9 : List (Nat × Int64) := [(76, 255), (167, 40), (194, 20), (206, 4), (208, 1000), (230, 3), (232, 9), (246, 10), (252, 30), (254, 6364136223846793005), (256, 1442695040888963407)]
theorem ko_X9 : ∀ (idx : Nat) (v : Int64), ab_lk kl_X9 idx = some v → (idx < 100000 → Cond.constantLong RX9 idx v ∈ ab_tb) ∧ ∀ j, idx = j + 100000 → Cond.constant RX9 j v.toInt32 ∈ ab_tb := (ab_kl_L (by decide) kl_X9_76 (ab_kl_L (by decide) kl_X9_167 (ab_kl_L (by decide) kl_X9_194 (ab_kl_L (by decide) kl_X9_206 (ab_kl_L (by decide) kl_X9_208 (ab_kl_L (by decide) kl_X9_230 (ab_kl_L (by decide) kl_X9_232 (ab_kl_L (by decide) kl_X9_246 (ab_kl_L (by decide) kl_X9_252 (ab_kl_L (by decide) kl_X9_254 (ab_kl_L (by decide) kl_X9_256 ab_kl_nil)))))))))))
def gs_X9 : List (Nat × Nat) := []
theorem so_X9 : ∀ (idx r : Nat), ab_lk gs_X9 idx = some r → ∃ t ∈ ab_sts, t.2.2.1 = r ∧ (Cond.fieldLink RX9 idx "LameLead" t.1 t.2.1 ∈ ab_tb ∨ Cond.fieldLinkNest RX9 idx "LameLead" t.1 t.2.1 "LameLead" ∈ ab_tb) := ab_gs_nil
theorem e_kl_X9_76 : ab_ds (a, b, c, kl_X9, g, r) P (.ok (.ldc2_w 76, 3)) pc lv st M k = k (pc + 3) lv (.long 255 :: st) M := by simp [ab_ds, ab_lo, ab_st, kl_X9, ab_lk]
theorem e_kl_X9_167 : ab_ds (a, b, c, kl_X9, g, r) P (.ok (.ldc2_w 167, 3)) pc lv st M k = k (pc + 3) lv (.long 40 :: st) M := by simp [ab_ds, ab_lo, ab_st, kl_X9, ab_lk]
theorem e_kl_X9_194 : ab_ds (a, b, c, kl_X9, g, r) P (.ok (.ldc2_w 194, 3)) pc lv st M k = k (pc + 3) lv (.long 20 :: st) M := by simp [ab_ds, ab_lo, ab_st, kl_X9, ab_lk]
theorem e_kl_X9_206 : ab_ds (a, b, c, kl_X9, g, r) P (.ok (.ldc2_w 206, 3)) pc lv st M k = k (pc + 3) lv (.long 4 :: st) M := by simp [ab_ds, ab_lo, ab_st, kl_X9, ab_lk]
theorem e_kl_X9_208 : ab_ds (a, b, c, kl_X9, g, r) P (.ok (.ldc2_w 208, 3)) pc lv st M k = k (pc + 3) lv (.long 1000 :: st) M := by simp [ab_ds, ab_lo, ab_st, kl_X9, ab_lk]
theorem e_kl_X9_230 : ab_ds (a, b, c, kl_X9, g, r) P (.ok (.ldc2_w 230, 3)) pc lv st M k = k (pc + 3) lv (.long 3 :: st) M := by simp [ab_ds, ab_lo, ab_st, kl_X9, ab_lk]
theorem e_kl_X9_232 : ab_ds (a, b, c, kl_X9, g, r) P (.ok (.ldc2_w 232, 3)) pc lv st M k = k (pc + 3) lv (.long 9 :: st) M := by simp [ab_ds, ab_lo, ab_st, kl_X9, ab_lk]
theorem e_kl_X9_246 : ab_ds (a, b, c, kl_X9, g, r) P (.ok (.ldc2_w 246, 3)) pc lv st M k = k (pc + 3) lv (.long 10 :: st) M := by simp [ab_ds, ab_lo, ab_st, kl_X9, ab_lk]
theorem e_kl_X9_252 : ab_ds (a, b, c, kl_X9, g, r) P (.ok (.ldc2_w 252, 3)) pc lv st M k = k (pc + 3) lv (.long 30 :: st) M := by simp [ab_ds, ab_lo, ab_st, kl_X9, ab_lk]
theorem e_kl_X9_254 : ab_ds (a, b, c, kl_X9, g, r) P (.ok (.ldc2_w 254, 3)) pc lv st M k = k (pc + 3) lv (.long 6364136223846793005 :: st) M := by simp [ab_ds, ab_lo, ab_st, kl_X9, ab_lk]
theorem e_kl_X9_256 : ab_ds (a, b, c, kl_X9, g, r) P (.ok (.ldc2_w 256, 3)) pc lv st M k = k (pc + 3) lv (.long 1442695040888963407 :: st) M := by simp [ab_ds, ab_lo, ab_st, kl_X9, ab_lk]
def kl_J6 : List (Nat × Int64) := [(100265, 1431655765), (100266, 858993459), (100267, 252645135)]
theorem ko_J6 : ∀ (idx : Nat) (v : Int64), ab_lk kl_J6 idx = some v → (idx < 100000 → Cond.constantLong RJ6 idx v ∈ ab_tb) ∧ ∀ j, idx = j + 100000 → Cond.constant RJ6 j v.toInt32 ∈ ab_tb := (ab_kl_I (j := 265) (by decide) kl_J6_100265 (ab_kl_I (j := 266) (by decide) kl_J6_100266 (ab_kl_I (j := 267) (by decide) kl_J6_100267 ab_kl_nil)))
def gs_J6 : List (Nat × Nat) := []
theorem so_J6 : ∀ (idx r : Nat), ab_lk gs_J6 idx = some r → ∃ t ∈ ab_sts, t.2.2.1 = r ∧ (Cond.fieldLink RJ6 idx "LameLead" t.1 t.2.1 ∈ ab_tb ∨ Cond.fieldLinkNest RJ6 idx "LameLead" t.1 t.2.1 "LameLead" ∈ ab_tb) := ab_gs_nil
theorem e_kl_J6_100265 : ab_ds (a, b, c, kl_J6, g, r) P (.ok (.ldc_w 265, 3)) pc lv st M k = k (pc + 3) lv (.int 1431655765 :: st) M := by simp [ab_ds, ab_lo, ab_st, kl_J6, ab_lk]
theorem e_kl_J6_100266 : ab_ds (a, b, c, kl_J6, g, r) P (.ok (.ldc_w 266, 3)) pc lv st M k = k (pc + 3) lv (.int 858993459 :: st) M := by simp [ab_ds, ab_lo, ab_st, kl_J6, ab_lk]
theorem e_kl_J6_100267 : ab_ds (a, b, c, kl_J6, g, r) P (.ok (.ldc_w 267, 3)) pc lv st M k = k (pc + 3) lv (.int 252645135 :: st) M := by simp [ab_ds, ab_lo, ab_st, kl_J6, ab_lk]
def kl_J9 : List (Nat × Int64) := []
theorem ko_J9 : ∀ (idx : Nat) (v : Int64), ab_lk kl_J9 idx = some v → (idx < 100000 → Cond.constantLong RJ9 idx v ∈ ab_tb) ∧ ∀ j, idx = j + 100000 → Cond.constant RJ9 j v.toInt32 ∈ ab_tb := ab_kl_nil
def gs_J9 : List (Nat × Nat) := []
theorem so_J9 : ∀ (idx r : Nat), ab_lk gs_J9 idx = some r → ∃ t ∈ ab_sts, t.2.2.1 = r ∧ (Cond.fieldLink RJ9 idx "LameLead" t.1 t.2.1 ∈ ab_tb ∨ Cond.fieldLinkNest RJ9 idx "LameLead" t.1 t.2.1 "LameLead" ∈ ab_tb) := ab_gs_nil
def kl_L : List (Nat × Int64) := [(84, 4294967295)]
theorem ko_L : ∀ (idx : Nat) (v : Int64), ab_lk kl_L idx = some v → (idx < 100000 → Cond.constantLong RL idx v ∈ ab_tb) ∧ ∀ j, idx = j + 100000 → Cond.constant RL j v.toInt32 ∈ ab_tb := (ab_kl_L (by decide) kl_L_84 ab_kl_nil)
def gs_L : List (Nat × Nat) := []
theorem so_L : ∀ (idx r : Nat), ab_lk gs_L idx = some r → ∃ t ∈ ab_sts, t.2.2.1 = r ∧ (Cond.fieldLink RL idx "LameLead" t.1 t.2.1 ∈ ab_tb ∨ Cond.fieldLinkNest RL idx "LameLead" t.1 t.2.1 "LameLead" ∈ ab_tb) := ab_gs_nil
theorem e_kl_L_84 : ab_ds (a, b, c, kl_L, g, r) P (.ok (.ldc2_w 84, 3)) pc lv st M k = k (pc + 3) lv (.long 4294967295 :: st) M := by simp [ab_ds, ab_lo, ab_st, kl_L, ab_lk]
end ABL
