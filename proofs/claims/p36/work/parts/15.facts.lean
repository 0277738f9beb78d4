theorem ml_RL_149 : Cond.methodLink RL 149 yL_low ∈ gtbl := gw 104 _ (by decide +kernel) (by decide +kernel)
theorem cn_RL_7 : Cond.constant RL 7 (Int32.ofInt 2147483647) ∈ gtbl := gw 107 _ (by decide +kernel) (by decide +kernel)
theorem wt_L_low : Cond.static yL_low ∈ gtbl := gw 105 _ (by decide +kernel) (by decide +kernel)
theorem mi_L_low : MI yL_low cL_low 2 (some .int) 2 := ⟨gw 106 _ (by decide +kernel) (by decide +kernel), ⟨by decide +kernel, by decide +kernel⟩, by decide +kernel, gw 36 _ (by decide +kernel) (by decide +kernel)⟩
theorem ml_RL_155 : Cond.methodLink RL 155 yL_does ∈ gtbl := gw 108 _ (by decide +kernel) (by decide +kernel)
theorem ml_RL_8 : Cond.methodLink RL 8 yL_early ∈ gtbl := gw 114 _ (by decide +kernel) (by decide +kernel)
theorem ml_RL_59 : Cond.methodLink RL 59 yX7_pass ∈ gtbl := gw 372 _ (by decide +kernel) (by decide +kernel)
theorem wi_X7_pass : Cond.instanceMethod yX7_pass ∈ gtbl := gw 373 _ (by decide +kernel) (by decide +kernel)
theorem ws_X7_pass : Cond.selects (yX7_pass).cls yX7_pass yX7_pass ∈ gtbl := gw 374 _ (by decide +kernel) (by decide +kernel)
theorem mi_X7_pass : MI yX7_pass cX7_pass 2 (some .int) 1 := ⟨gw 375 _ (by decide +kernel) (by decide +kernel), ⟨by decide +kernel, by decide +kernel⟩, by decide +kernel, gw 37 _ (by decide +kernel) (by decide +kernel)⟩
theorem cn_RL_45 : Cond.constant RL 45 (Int32.ofInt (-2100000000)) ∈ gtbl := gw 772 _ (by decide +kernel) (by decide +kernel)
theorem wt_L_early : Cond.static yL_early ∈ gtbl := gw 115 _ (by decide +kernel) (by decide +kernel)
theorem mi_L_early : MI yL_early cL_early 5 (some .int) 5 := ⟨gw 116 _ (by decide +kernel) (by decide +kernel), ⟨by decide +kernel, by decide +kernel⟩, by decide +kernel, gw 36 _ (by decide +kernel) (by decide +kernel)⟩
theorem wt_L_does : Cond.static yL_does ∈ gtbl := gw 109 _ (by decide +kernel) (by decide +kernel)
theorem mw_L_does : MW yL_does cL_does 7 (some .int) [(0, 136, 137, 43), (0, 136, 142, 46), (0, 136, 147, 48)] 6 := ⟨gw 110 _ (by decide +kernel) (by decide +kernel), ⟨by decide +kernel, by decide +kernel⟩, by decide +kernel, gw 36 _ (by decide +kernel) (by decide +kernel)⟩
theorem ml_RL_14 : Cond.methodLink RL 14 yL_middle ∈ gtbl := gw 454 _ (by decide +kernel) (by decide +kernel)
theorem ml_RL_128 : Cond.methodLink RL 128 yX7_assign ∈ gtbl := gw 690 _ (by decide +kernel) (by decide +kernel)
theorem wi_X7_assign : Cond.instanceMethod yX7_assign ∈ gtbl := gw 691 _ (by decide +kernel) (by decide +kernel)
theorem ws_X7_assign : Cond.selects (yX7_assign).cls yX7_assign yX7_assign ∈ gtbl := gw 692 _ (by decide +kernel) (by decide +kernel)
theorem mi_X7_assign : MI yX7_assign cX7_assign 7 (some .int) 3 := ⟨gw 693 _ (by decide +kernel) (by decide +kernel), ⟨by decide +kernel, by decide +kernel⟩, by decide +kernel, gw 37 _ (by decide +kernel) (by decide +kernel)⟩
theorem wt_L_middle : Cond.static yL_middle ∈ gtbl := gw 455 _ (by decide +kernel) (by decide +kernel)
theorem mi_L_middle : MI yL_middle cL_middle 6 (some .int) 6 := ⟨gw 456 _ (by decide +kernel) (by decide +kernel), ⟨by decide +kernel, by decide +kernel⟩, by decide +kernel, gw 36 _ (by decide +kernel) (by decide +kernel)⟩
theorem ml_RL_125 : Cond.methodLink RL 125 yX7_seize ∈ gtbl := gw 676 _ (by decide +kernel) (by decide +kernel)
theorem wi_X7_seize : Cond.instanceMethod yX7_seize ∈ gtbl := gw 677 _ (by decide +kernel) (by decide +kernel)
theorem ws_X7_seize : Cond.selects (yX7_seize).cls yX7_seize yX7_seize ∈ gtbl := gw 678 _ (by decide +kernel) (by decide +kernel)
theorem mi_X7_seize : MI yX7_seize cX7_seize 4 (some .int) 1 := ⟨gw 679 _ (by decide +kernel) (by decide +kernel), ⟨by decide +kernel, by decide +kernel⟩, by decide +kernel, gw 37 _ (by decide +kernel) (by decide +kernel)⟩
theorem ml_RL_122 : Cond.methodLink RL 122 yX7_repay ∈ gtbl := gw 658 _ (by decide +kernel) (by decide +kernel)
theorem wi_X7_repay : Cond.instanceMethod yX7_repay ∈ gtbl := gw 659 _ (by decide +kernel) (by decide +kernel)
theorem ws_X7_repay : Cond.selects (yX7_repay).cls yX7_repay yX7_repay ∈ gtbl := gw 660 _ (by decide +kernel) (by decide +kernel)
theorem mi_X7_repay : MI yX7_repay cX7_repay 4 (some .int) 1 := ⟨gw 661 _ (by decide +kernel) (by decide +kernel), ⟨by decide +kernel, by decide +kernel⟩, by decide +kernel, gw 37 _ (by decide +kernel) (by decide +kernel)⟩
theorem cn_RL_158 : Cond.constant RL 158 (Int32.ofInt 200000) ∈ gtbl := gw 779 _ (by decide +kernel) (by decide +kernel)
theorem ml_RL_118 : Cond.methodLink RL 118 yX7_lend ∈ gtbl := gw 607 _ (by decide +kernel) (by decide +kernel)
theorem wi_X7_lend : Cond.instanceMethod yX7_lend ∈ gtbl := gw 608 _ (by decide +kernel) (by decide +kernel)
theorem ws_X7_lend : Cond.selects (yX7_lend).cls yX7_lend yX7_lend ∈ gtbl := gw 609 _ (by decide +kernel) (by decide +kernel)
theorem mi_X7_lend : MI yX7_lend cX7_lend 10 (some .int) 5 := ⟨gw 610 _ (by decide +kernel) (by decide +kernel), ⟨by decide +kernel, by decide +kernel⟩, by decide +kernel, gw 37 _ (by decide +kernel) (by decide +kernel)⟩
theorem ml_RL_115 : Cond.methodLink RL 115 yX7_restore ∈ gtbl := gw 596 _ (by decide +kernel) (by decide +kernel)
theorem wi_X7_restore : Cond.instanceMethod yX7_restore ∈ gtbl := gw 597 _ (by decide +kernel) (by decide +kernel)
theorem ws_X7_restore : Cond.selects (yX7_restore).cls yX7_restore yX7_restore ∈ gtbl := gw 598 _ (by decide +kernel) (by decide +kernel)
theorem mi_X7_restore : MI yX7_restore cX7_restore 6 (some .int) 2 := ⟨gw 599 _ (by decide +kernel) (by decide +kernel), ⟨by decide +kernel, by decide +kernel⟩, by decide +kernel, gw 37 _ (by decide +kernel) (by decide +kernel)⟩
theorem ml_RL_111 : Cond.methodLink RL 111 yX7_tell ∈ gtbl := gw 587 _ (by decide +kernel) (by decide +kernel)
theorem wi_X7_tell : Cond.instanceMethod yX7_tell ∈ gtbl := gw 588 _ (by decide +kernel) (by decide +kernel)
theorem ws_X7_tell : Cond.selects (yX7_tell).cls yX7_tell yX7_tell ∈ gtbl := gw 589 _ (by decide +kernel) (by decide +kernel)
theorem mi_X7_tell : MI yX7_tell cX7_tell 8 (some .boolean) 3 := ⟨gw 590 _ (by decide +kernel) (by decide +kernel), ⟨by decide +kernel, by decide +kernel⟩, by decide +kernel, gw 37 _ (by decide +kernel) (by decide +kernel)⟩
theorem ml_RL_84 : Cond.methodLink RL 84 yL_bit ∈ gtbl := gw 432 _ (by decide +kernel) (by decide +kernel)
theorem wt_L_bit : Cond.static yL_bit ∈ gtbl := gw 433 _ (by decide +kernel) (by decide +kernel)
theorem mi_L_bit : MI yL_bit cL_bit 1 (some .int) 1 := ⟨gw 434 _ (by decide +kernel) (by decide +kernel), ⟨by decide +kernel, by decide +kernel⟩, by decide +kernel, gw 36 _ (by decide +kernel) (by decide +kernel)⟩
theorem ml_RL_108 : Cond.methodLink RL 108 yX7_deal ∈ gtbl := gw 579 _ (by decide +kernel) (by decide +kernel)
theorem wi_X7_deal : Cond.instanceMethod yX7_deal ∈ gtbl := gw 580 _ (by decide +kernel) (by decide +kernel)
theorem ws_X7_deal : Cond.selects (yX7_deal).cls yX7_deal yX7_deal ∈ gtbl := gw 581 _ (by decide +kernel) (by decide +kernel)
theorem mi_X7_deal : MI yX7_deal cX7_deal 8 (some .int) 3 := ⟨gw 582 _ (by decide +kernel) (by decide +kernel), ⟨by decide +kernel, by decide +kernel⟩, by decide +kernel, gw 37 _ (by decide +kernel) (by decide +kernel)⟩
theorem ml_RL_105 : Cond.methodLink RL 105 yX7_back ∈ gtbl := gw 574 _ (by decide +kernel) (by decide +kernel)
theorem wi_X7_back : Cond.instanceMethod yX7_back ∈ gtbl := gw 575 _ (by decide +kernel) (by decide +kernel)
theorem ws_X7_back : Cond.selects (yX7_back).cls yX7_back yX7_back ∈ gtbl := gw 576 _ (by decide +kernel) (by decide +kernel)
theorem mi_X7_back : MI yX7_back cX7_back 4 (some .int) 1 := ⟨gw 577 _ (by decide +kernel) (by decide +kernel), ⟨by decide +kernel, by decide +kernel⟩, by decide +kernel, gw 37 _ (by decide +kernel) (by decide +kernel)⟩
theorem ml_RL_102 : Cond.methodLink RL 102 yL_consigns ∈ gtbl := gw 543 _ (by decide +kernel) (by decide +kernel)
theorem ml_RL_145 : Cond.methodLink RL 145 yX7_consign ∈ gtbl := gw 546 _ (by decide +kernel) (by decide +kernel)
theorem wi_X7_consign : Cond.instanceMethod yX7_consign ∈ gtbl := gw 547 _ (by decide +kernel) (by decide +kernel)
theorem ws_X7_consign : Cond.selects (yX7_consign).cls yX7_consign yX7_consign ∈ gtbl := gw 548 _ (by decide +kernel) (by decide +kernel)
theorem mi_X7_consign : MI yX7_consign cX7_consign 8 none 5 := ⟨gw 549 _ (by decide +kernel) (by decide +kernel), ⟨by decide +kernel, by decide +kernel⟩, by decide +kernel, gw 37 _ (by decide +kernel) (by decide +kernel)⟩
theorem wt_L_consigns : Cond.static yL_consigns ∈ gtbl := gw 544 _ (by decide +kernel) (by decide +kernel)
theorem mi_L_consigns : MI yL_consigns cL_consigns 6 (some .int) 6 := ⟨gw 545 _ (by decide +kernel) (by decide +kernel), ⟨by decide +kernel, by decide +kernel⟩, by decide +kernel, gw 36 _ (by decide +kernel) (by decide +kernel)⟩
theorem ml_RL_98 : Cond.methodLink RL 98 yX7_sell ∈ gtbl := gw 457 _ (by decide +kernel) (by decide +kernel)
theorem wi_X7_sell : Cond.instanceMethod yX7_sell ∈ gtbl := gw 458 _ (by decide +kernel) (by decide +kernel)
theorem ws_X7_sell : Cond.selects (yX7_sell).cls yX7_sell yX7_sell ∈ gtbl := gw 459 _ (by decide +kernel) (by decide +kernel)
theorem mi_X7_sell : MI yX7_sell cX7_sell 7 (some .int) 4 := ⟨gw 460 _ (by decide +kernel) (by decide +kernel), ⟨by decide +kernel, by decide +kernel⟩, by decide +kernel, gw 37 _ (by decide +kernel) (by decide +kernel)⟩
theorem ml_RL_95 : Cond.methodLink RL 95 yX7_fail ∈ gtbl := gw 446 _ (by decide +kernel) (by decide +kernel)
theorem wi_X7_fail : Cond.instanceMethod yX7_fail ∈ gtbl := gw 447 _ (by decide +kernel) (by decide +kernel)
theorem ws_X7_fail : Cond.selects (yX7_fail).cls yX7_fail yX7_fail ∈ gtbl := gw 448 _ (by decide +kernel) (by decide +kernel)
theorem mi_X7_fail : MI yX7_fail cX7_fail 5 (some .int) 1 := ⟨gw 449 _ (by decide +kernel) (by decide +kernel), ⟨by decide +kernel, by decide +kernel⟩, by decide +kernel, gw 37 _ (by decide +kernel) (by decide +kernel)⟩
theorem ml_RL_91 : Cond.methodLink RL 91 yL_lists ∈ gtbl := gw 439 _ (by decide +kernel) (by decide +kernel)
theorem ml_RL_141 : Cond.methodLink RL 141 yX7_list ∈ gtbl := gw 442 _ (by decide +kernel) (by decide +kernel)
theorem wi_X7_list : Cond.instanceMethod yX7_list ∈ gtbl := gw 443 _ (by decide +kernel) (by decide +kernel)
theorem ws_X7_list : Cond.selects (yX7_list).cls yX7_list yX7_list ∈ gtbl := gw 444 _ (by decide +kernel) (by decide +kernel)
theorem mi_X7_list : MI yX7_list cX7_list 3 none 1 := ⟨gw 445 _ (by decide +kernel) (by decide +kernel), ⟨by decide +kernel, by decide +kernel⟩, by decide +kernel, gw 37 _ (by decide +kernel) (by decide +kernel)⟩
theorem wt_L_lists : Cond.static yL_lists ∈ gtbl := gw 440 _ (by decide +kernel) (by decide +kernel)
theorem mi_L_lists : MI yL_lists cL_lists 2 (some .int) 2 := ⟨gw 441 _ (by decide +kernel) (by decide +kernel), ⟨by decide +kernel, by decide +kernel⟩, by decide +kernel, gw 36 _ (by decide +kernel) (by decide +kernel)⟩
theorem ml_RL_88 : Cond.methodLink RL 88 yX7_bring ∈ gtbl := gw 435 _ (by decide +kernel) (by decide +kernel)
theorem wi_X7_bring : Cond.instanceMethod yX7_bring ∈ gtbl := gw 436 _ (by decide +kernel) (by decide +kernel)
theorem ws_X7_bring : Cond.selects (yX7_bring).cls yX7_bring yX7_bring ∈ gtbl := gw 437 _ (by decide +kernel) (by decide +kernel)
theorem mi_X7_bring : MI yX7_bring cX7_bring 6 (some .int) 2 := ⟨gw 438 _ (by decide +kernel) (by decide +kernel), ⟨by decide +kernel, by decide +kernel⟩, by decide +kernel, gw 37 _ (by decide +kernel) (by decide +kernel)⟩
theorem ml_RL_80 : Cond.methodLink RL 80 yX7_seal ∈ gtbl := gw 428 _ (by decide +kernel) (by decide +kernel)
theorem wi_X7_seal : Cond.instanceMethod yX7_seal ∈ gtbl := gw 429 _ (by decide +kernel) (by decide +kernel)
theorem ws_X7_seal : Cond.selects (yX7_seal).cls yX7_seal yX7_seal ∈ gtbl := gw 430 _ (by decide +kernel) (by decide +kernel)
theorem mi_X7_seal : MI yX7_seal cX7_seal 5 (some .boolean) 2 := ⟨gw 431 _ (by decide +kernel) (by decide +kernel), ⟨by decide +kernel, by decide +kernel⟩, by decide +kernel, gw 37 _ (by decide +kernel) (by decide +kernel)⟩
theorem ml_RL_77 : Cond.methodLink RL 77 yX7_bar ∈ gtbl := gw 417 _ (by decide +kernel) (by decide +kernel)
theorem wi_X7_bar : Cond.instanceMethod yX7_bar ∈ gtbl := gw 418 _ (by decide +kernel) (by decide +kernel)
theorem ws_X7_bar : Cond.selects (yX7_bar).cls yX7_bar yX7_bar ∈ gtbl := gw 419 _ (by decide +kernel) (by decide +kernel)
theorem mi_X7_bar : MI yX7_bar cX7_bar 5 (some .int) 2 := ⟨gw 420 _ (by decide +kernel) (by decide +kernel), ⟨by decide +kernel, by decide +kernel⟩, by decide +kernel, gw 37 _ (by decide +kernel) (by decide +kernel)⟩
theorem ml_RL_74 : Cond.methodLink RL 74 yX7_right ∈ gtbl := gw 413 _ (by decide +kernel) (by decide +kernel)
theorem wi_X7_right : Cond.instanceMethod yX7_right ∈ gtbl := gw 414 _ (by decide +kernel) (by decide +kernel)
theorem ws_X7_right : Cond.selects (yX7_right).cls yX7_right yX7_right ∈ gtbl := gw 415 _ (by decide +kernel) (by decide +kernel)
theorem mi_X7_right : MI yX7_right cX7_right 4 (some .int) 2 := ⟨gw 416 _ (by decide +kernel) (by decide +kernel), ⟨by decide +kernel, by decide +kernel⟩, by decide +kernel, gw 37 _ (by decide +kernel) (by decide +kernel)⟩
theorem ml_RL_70 : Cond.methodLink RL 70 yL_papers ∈ gtbl := gw 403 _ (by decide +kernel) (by decide +kernel)
theorem ml_RL_137 : Cond.methodLink RL 137 yX7_paper ∈ gtbl := gw 406 _ (by decide +kernel) (by decide +kernel)
theorem wi_X7_paper : Cond.instanceMethod yX7_paper ∈ gtbl := gw 407 _ (by decide +kernel) (by decide +kernel)
theorem ws_X7_paper : Cond.selects (yX7_paper).cls yX7_paper yX7_paper ∈ gtbl := gw 408 _ (by decide +kernel) (by decide +kernel)
theorem mi_X7_paper : MI yX7_paper cX7_paper 6 none 3 := ⟨gw 409 _ (by decide +kernel) (by decide +kernel), ⟨by decide +kernel, by decide +kernel⟩, by decide +kernel, gw 37 _ (by decide +kernel) (by decide +kernel)⟩
theorem wt_L_papers : Cond.static yL_papers ∈ gtbl := gw 404 _ (by decide +kernel) (by decide +kernel)
theorem mi_L_papers : MI yL_papers cL_papers 4 (some .int) 4 := ⟨gw 405 _ (by decide +kernel) (by decide +kernel), ⟨by decide +kernel, by decide +kernel⟩, by decide +kernel, gw 36 _ (by decide +kernel) (by decide +kernel)⟩
theorem ml_RL_66 : Cond.methodLink RL 66 yX7_word ∈ gtbl := gw 380 _ (by decide +kernel) (by decide +kernel)
theorem wi_X7_word : Cond.instanceMethod yX7_word ∈ gtbl := gw 381 _ (by decide +kernel) (by decide +kernel)
theorem ws_X7_word : Cond.selects (yX7_word).cls yX7_word yX7_word ∈ gtbl := gw 382 _ (by decide +kernel) (by decide +kernel)
theorem mi_X7_word : MI yX7_word cX7_word 6 (some .int) 3 := ⟨gw 383 _ (by decide +kernel) (by decide +kernel), ⟨by decide +kernel, by decide +kernel⟩, by decide +kernel, gw 37 _ (by decide +kernel) (by decide +kernel)⟩
theorem ml_RL_63 : Cond.methodLink RL 63 yX7_weight ∈ gtbl := gw 376 _ (by decide +kernel) (by decide +kernel)
theorem wi_X7_weight : Cond.instanceMethod yX7_weight ∈ gtbl := gw 377 _ (by decide +kernel) (by decide +kernel)
theorem ws_X7_weight : Cond.selects (yX7_weight).cls yX7_weight yX7_weight ∈ gtbl := gw 378 _ (by decide +kernel) (by decide +kernel)
theorem mi_X7_weight : MI yX7_weight cX7_weight 5 (some .int) 2 := ⟨gw 379 _ (by decide +kernel) (by decide +kernel), ⟨by decide +kernel, by decide +kernel⟩, by decide +kernel, gw 37 _ (by decide +kernel) (by decide +kernel)⟩
theorem cn_RL_154 : Cond.constant RL 154 (Int32.ofInt 1000001) ∈ gtbl := gw 778 _ (by decide +kernel) (by decide +kernel)
theorem ml_RL_56 : Cond.methodLink RL 56 yX7_value ∈ gtbl := gw 363 _ (by decide +kernel) (by decide +kernel)
theorem wi_X7_value : Cond.instanceMethod yX7_value ∈ gtbl := gw 364 _ (by decide +kernel) (by decide +kernel)
theorem ws_X7_value : Cond.selects (yX7_value).cls yX7_value yX7_value ∈ gtbl := gw 365 _ (by decide +kernel) (by decide +kernel)
theorem mi_X7_value : MI yX7_value cX7_value 5 (some .int) 2 := ⟨gw 366 _ (by decide +kernel) (by decide +kernel), ⟨by decide +kernel, by decide +kernel⟩, by decide +kernel, gw 37 _ (by decide +kernel) (by decide +kernel)⟩
theorem cn_RL_152 : Cond.constant RL 152 (Int32.ofInt 1100000) ∈ gtbl := gw 776 _ (by decide +kernel) (by decide +kernel)
theorem cn_RL_153 : Cond.constant RL 153 (Int32.ofInt 40000) ∈ gtbl := gw 777 _ (by decide +kernel) (by decide +kernel)
theorem ml_RL_50 : Cond.methodLink RL 50 yX7_party ∈ gtbl := gw 117 _ (by decide +kernel) (by decide +kernel)
theorem wi_X7_party : Cond.instanceMethod yX7_party ∈ gtbl := gw 118 _ (by decide +kernel) (by decide +kernel)
theorem ws_X7_party : Cond.selects (yX7_party).cls yX7_party yX7_party ∈ gtbl := gw 119 _ (by decide +kernel) (by decide +kernel)
theorem mi_X7_party : MI yX7_party cX7_party 4 (some .int) 2 := ⟨gw 120 _ (by decide +kernel) (by decide +kernel), ⟨by decide +kernel, by decide +kernel⟩, by decide +kernel, gw 37 _ (by decide +kernel) (by decide +kernel)⟩
theorem ml_RL_53 : Cond.methodLink RL 53 yX7_work ∈ gtbl := gw 263 _ (by decide +kernel) (by decide +kernel)
theorem wi_X7_work : Cond.instanceMethod yX7_work ∈ gtbl := gw 264 _ (by decide +kernel) (by decide +kernel)
theorem ws_X7_work : Cond.selects (yX7_work).cls yX7_work yX7_work ∈ gtbl := gw 265 _ (by decide +kernel) (by decide +kernel)
theorem mi_X7_work : MI yX7_work cX7_work 5 (some .int) 2 := ⟨gw 266 _ (by decide +kernel) (by decide +kernel), ⟨by decide +kernel, by decide +kernel⟩, by decide +kernel, gw 37 _ (by decide +kernel) (by decide +kernel)⟩
theorem ml_RL_131 : Cond.methodLink RL 131 yX7_bars ∈ gtbl := gw 694 _ (by decide +kernel) (by decide +kernel)
theorem wi_X7_bars : Cond.instanceMethod yX7_bars ∈ gtbl := gw 695 _ (by decide +kernel) (by decide +kernel)
theorem ws_X7_bars : Cond.selects (yX7_bars).cls yX7_bars yX7_bars ∈ gtbl := gw 696 _ (by decide +kernel) (by decide +kernel)
theorem mi_X7_bars : MI yX7_bars cX7_bars 7 (some .int) 4 := ⟨gw 697 _ (by decide +kernel) (by decide +kernel), ⟨by decide +kernel, by decide +kernel⟩, by decide +kernel, gw 37 _ (by decide +kernel) (by decide +kernel)⟩
theorem ml_RL_134 : Cond.methodLink RL 134 yX7_barredBy ∈ gtbl := gw 698 _ (by decide +kernel) (by decide +kernel)
theorem wi_X7_barredBy : Cond.instanceMethod yX7_barredBy ∈ gtbl := gw 699 _ (by decide +kernel) (by decide +kernel)
theorem ws_X7_barredBy : Cond.selects (yX7_barredBy).cls yX7_barredBy yX7_barredBy ∈ gtbl := gw 700 _ (by decide +kernel) (by decide +kernel)
theorem mi_X7_barredBy : MI yX7_barredBy cX7_barredBy 7 (some .int) 4 := ⟨gw 701 _ (by decide +kernel) (by decide +kernel), ⟨by decide +kernel, by decide +kernel⟩, by decide +kernel, gw 37 _ (by decide +kernel) (by decide +kernel)⟩
theorem ml_RL_18 : Cond.methodLink RL 18 yX7_price ∈ gtbl := gw 705 _ (by decide +kernel) (by decide +kernel)
theorem wi_X7_price : Cond.instanceMethod yX7_price ∈ gtbl := gw 706 _ (by decide +kernel) (by decide +kernel)
theorem ws_X7_price : Cond.selects (yX7_price).cls yX7_price yX7_price ∈ gtbl := gw 707 _ (by decide +kernel) (by decide +kernel)
theorem mi_X7_price : MI yX7_price cX7_price 5 (some .int) 2 := ⟨gw 708 _ (by decide +kernel) (by decide +kernel), ⟨by decide +kernel, by decide +kernel⟩, by decide +kernel, gw 37 _ (by decide +kernel) (by decide +kernel)⟩
theorem ml_RL_24 : Cond.methodLink RL 24 yX7_ofParty ∈ gtbl := gw 709 _ (by decide +kernel) (by decide +kernel)
theorem wi_X7_ofParty : Cond.instanceMethod yX7_ofParty ∈ gtbl := gw 710 _ (by decide +kernel) (by decide +kernel)
theorem ws_X7_ofParty : Cond.selects (yX7_ofParty).cls yX7_ofParty yX7_ofParty ∈ gtbl := gw 711 _ (by decide +kernel) (by decide +kernel)
theorem mi_X7_ofParty : MI yX7_ofParty cX7_ofParty 4 (some .int) 2 := ⟨gw 712 _ (by decide +kernel) (by decide +kernel), ⟨by decide +kernel, by decide +kernel⟩, by decide +kernel, gw 37 _ (by decide +kernel) (by decide +kernel)⟩
theorem ml_RL_27 : Cond.methodLink RL 27 yX7_ofWork ∈ gtbl := gw 738 _ (by decide +kernel) (by decide +kernel)
theorem wi_X7_ofWork : Cond.instanceMethod yX7_ofWork ∈ gtbl := gw 739 _ (by decide +kernel) (by decide +kernel)
theorem ws_X7_ofWork : Cond.selects (yX7_ofWork).cls yX7_ofWork yX7_ofWork ∈ gtbl := gw 740 _ (by decide +kernel) (by decide +kernel)
theorem mi_X7_ofWork : MI yX7_ofWork cX7_ofWork 4 (some .int) 2 := ⟨gw 741 _ (by decide +kernel) (by decide +kernel), ⟨by decide +kernel, by decide +kernel⟩, by decide +kernel, gw 37 _ (by decide +kernel) (by decide +kernel)⟩
theorem ml_RL_30 : Cond.methodLink RL 30 yX7_ofLot ∈ gtbl := gw 747 _ (by decide +kernel) (by decide +kernel)
theorem wi_X7_ofLot : Cond.instanceMethod yX7_ofLot ∈ gtbl := gw 748 _ (by decide +kernel) (by decide +kernel)
theorem ws_X7_ofLot : Cond.selects (yX7_ofLot).cls yX7_ofLot yX7_ofLot ∈ gtbl := gw 749 _ (by decide +kernel) (by decide +kernel)
theorem mi_X7_ofLot : MI yX7_ofLot cX7_ofLot 4 (some .int) 2 := ⟨gw 750 _ (by decide +kernel) (by decide +kernel), ⟨by decide +kernel, by decide +kernel⟩, by decide +kernel, gw 37 _ (by decide +kernel) (by decide +kernel)⟩
theorem ml_RL_33 : Cond.methodLink RL 33 yX7_ofLoan ∈ gtbl := gw 759 _ (by decide +kernel) (by decide +kernel)
theorem wi_X7_ofLoan : Cond.instanceMethod yX7_ofLoan ∈ gtbl := gw 760 _ (by decide +kernel) (by decide +kernel)
theorem ws_X7_ofLoan : Cond.selects (yX7_ofLoan).cls yX7_ofLoan yX7_ofLoan ∈ gtbl := gw 761 _ (by decide +kernel) (by decide +kernel)
theorem mi_X7_ofLoan : MI yX7_ofLoan cX7_ofLoan 4 (some .int) 2 := ⟨gw 762 _ (by decide +kernel) (by decide +kernel), ⟨by decide +kernel, by decide +kernel⟩, by decide +kernel, gw 37 _ (by decide +kernel) (by decide +kernel)⟩
theorem ak_17 : AK 17 0 .int 12 := ak_of rfl rfl rfl rfl
theorem ak_18 : AK 18 0 .int 12 := ak_of rfl rfl rfl rfl
theorem ml_RL_159 : Cond.methodLink RL 159 yX7_index ∈ gtbl := gw 783 _ (by decide +kernel) (by decide +kernel)
theorem wi_X7_index : Cond.instanceMethod yX7_index ∈ gtbl := gw 784 _ (by decide +kernel) (by decide +kernel)
theorem ws_X7_index : Cond.selects (yX7_index).cls yX7_index yX7_index ∈ gtbl := gw 785 _ (by decide +kernel) (by decide +kernel)
theorem mi_X7_index : MI yX7_index cX7_index 7 (some .long) 0 := ⟨gw 786 _ (by decide +kernel) (by decide +kernel), ⟨by decide +kernel, by decide +kernel⟩, by decide +kernel, gw 37 _ (by decide +kernel) (by decide +kernel)⟩
theorem cn_RL_163 : Cond.constant RL 163 (Int32.ofInt 100000) ∈ gtbl := gw 800 _ (by decide +kernel) (by decide +kernel)
theorem hx_L_does_12 : HX RL cL_does 7 12 (-2100000000) [(0, 136, 137, 43), (0, 136, 142, 46), (0, 136, 147, 48)] [1, 2, 3] := fun j e h => match j, h with
  | 0, h => by cases h; exact ⟨_, rfl, rfl, by decide, gw 111 _ (by decide +kernel) (by decide +kernel), gw 126 _ (by decide +kernel) (by decide +kernel), (fun z hz => by cases hz), ⟨by decide, 6, 45, (Nat.le_of_ble_eq_true rfl), dL_does_137, dL_does_139, dL_does_141, cn_RL_45⟩⟩
  | 1, h => by cases h; exact ⟨_, rfl, rfl, by decide, gw 112 _ (by decide +kernel) (by decide +kernel), gw 198 _ (by decide +kernel) (by decide +kernel), (List.forall_mem_cons.mpr ⟨⟨by decide, "java/lang/IndexOutOfBoundsException", gw 111 _ (by decide +kernel) (by decide +kernel), by decide +kernel⟩, (fun z hz => by cases hz)⟩), ⟨by decide, 6, 45, (Nat.le_of_ble_eq_true rfl), dL_does_142, dL_does_144, dL_does_146, cn_RL_45⟩⟩
  | 2, h => by cases h; exact ⟨_, rfl, rfl, by decide, gw 113 _ (by decide +kernel) (by decide +kernel), gw 217 _ (by decide +kernel) (by decide +kernel), (List.forall_mem_cons.mpr ⟨⟨by decide, "java/lang/IndexOutOfBoundsException", gw 111 _ (by decide +kernel) (by decide +kernel), by decide +kernel⟩, (List.forall_mem_cons.mpr ⟨⟨by decide, "java/lang/IllegalArgumentException", gw 112 _ (by decide +kernel) (by decide +kernel), by decide +kernel⟩, (fun z hz => by cases hz)⟩)⟩), ⟨by decide, 6, 45, (Nat.le_of_ble_eq_true rfl), dL_does_147, dL_does_149, dL_does_151, cn_RL_45⟩⟩
  | n + 3, h => by cases h
theorem hx_L_does_32 : HX RL cL_does 7 32 (-2100000000) [(0, 136, 137, 43), (0, 136, 142, 46), (0, 136, 147, 48)] [1, 2, 3] := fun j e h => match j, h with
  | 0, h => by cases h; exact ⟨_, rfl, rfl, by decide, gw 111 _ (by decide +kernel) (by decide +kernel), gw 126 _ (by decide +kernel) (by decide +kernel), (fun z hz => by cases hz), ⟨by decide, 6, 45, (Nat.le_of_ble_eq_true rfl), dL_does_137, dL_does_139, dL_does_141, cn_RL_45⟩⟩
  | 1, h => by cases h; exact ⟨_, rfl, rfl, by decide, gw 112 _ (by decide +kernel) (by decide +kernel), gw 198 _ (by decide +kernel) (by decide +kernel), (List.forall_mem_cons.mpr ⟨⟨by decide, "java/lang/IndexOutOfBoundsException", gw 111 _ (by decide +kernel) (by decide +kernel), by decide +kernel⟩, (fun z hz => by cases hz)⟩), ⟨by decide, 6, 45, (Nat.le_of_ble_eq_true rfl), dL_does_142, dL_does_144, dL_does_146, cn_RL_45⟩⟩
  | 2, h => by cases h; exact ⟨_, rfl, rfl, by decide, gw 113 _ (by decide +kernel) (by decide +kernel), gw 217 _ (by decide +kernel) (by decide +kernel), (List.forall_mem_cons.mpr ⟨⟨by decide, "java/lang/IndexOutOfBoundsException", gw 111 _ (by decide +kernel) (by decide +kernel), by decide +kernel⟩, (List.forall_mem_cons.mpr ⟨⟨by decide, "java/lang/IllegalArgumentException", gw 112 _ (by decide +kernel) (by decide +kernel), by decide +kernel⟩, (fun z hz => by cases hz)⟩)⟩), ⟨by decide, 6, 45, (Nat.le_of_ble_eq_true rfl), dL_does_147, dL_does_149, dL_does_151, cn_RL_45⟩⟩
  | n + 3, h => by cases h
theorem hx_L_does_47 : HX RL cL_does 7 47 (-2100000000) [(0, 136, 137, 43), (0, 136, 142, 46), (0, 136, 147, 48)] [1, 2, 3] := fun j e h => match j, h with
  | 0, h => by cases h; exact ⟨_, rfl, rfl, by decide, gw 111 _ (by decide +kernel) (by decide +kernel), gw 126 _ (by decide +kernel) (by decide +kernel), (fun z hz => by cases hz), ⟨by decide, 6, 45, (Nat.le_of_ble_eq_true rfl), dL_does_137, dL_does_139, dL_does_141, cn_RL_45⟩⟩
  | 1, h => by cases h; exact ⟨_, rfl, rfl, by decide, gw 112 _ (by decide +kernel) (by decide +kernel), gw 198 _ (by decide +kernel) (by decide +kernel), (List.forall_mem_cons.mpr ⟨⟨by decide, "java/lang/IndexOutOfBoundsException", gw 111 _ (by decide +kernel) (by decide +kernel), by decide +kernel⟩, (fun z hz => by cases hz)⟩), ⟨by decide, 6, 45, (Nat.le_of_ble_eq_true rfl), dL_does_142, dL_does_144, dL_does_146, cn_RL_45⟩⟩
  | 2, h => by cases h; exact ⟨_, rfl, rfl, by decide, gw 113 _ (by decide +kernel) (by decide +kernel), gw 217 _ (by decide +kernel) (by decide +kernel), (List.forall_mem_cons.mpr ⟨⟨by decide, "java/lang/IndexOutOfBoundsException", gw 111 _ (by decide +kernel) (by decide +kernel), by decide +kernel⟩, (List.forall_mem_cons.mpr ⟨⟨by decide, "java/lang/IllegalArgumentException", gw 112 _ (by decide +kernel) (by decide +kernel), by decide +kernel⟩, (fun z hz => by cases hz)⟩)⟩), ⟨by decide, 6, 45, (Nat.le_of_ble_eq_true rfl), dL_does_147, dL_does_149, dL_does_151, cn_RL_45⟩⟩
  | n + 3, h => by cases h
theorem hx_L_does_62 : HX RL cL_does 7 62 (-2100000000) [(0, 136, 137, 43), (0, 136, 142, 46), (0, 136, 147, 48)] [1, 2, 3] := fun j e h => match j, h with
  | 0, h => by cases h; exact ⟨_, rfl, rfl, by decide, gw 111 _ (by decide +kernel) (by decide +kernel), gw 126 _ (by decide +kernel) (by decide +kernel), (fun z hz => by cases hz), ⟨by decide, 6, 45, (Nat.le_of_ble_eq_true rfl), dL_does_137, dL_does_139, dL_does_141, cn_RL_45⟩⟩
  | 1, h => by cases h; exact ⟨_, rfl, rfl, by decide, gw 112 _ (by decide +kernel) (by decide +kernel), gw 198 _ (by decide +kernel) (by decide +kernel), (List.forall_mem_cons.mpr ⟨⟨by decide, "java/lang/IndexOutOfBoundsException", gw 111 _ (by decide +kernel) (by decide +kernel), by decide +kernel⟩, (fun z hz => by cases hz)⟩), ⟨by decide, 6, 45, (Nat.le_of_ble_eq_true rfl), dL_does_142, dL_does_144, dL_does_146, cn_RL_45⟩⟩
  | 2, h => by cases h; exact ⟨_, rfl, rfl, by decide, gw 113 _ (by decide +kernel) (by decide +kernel), gw 217 _ (by decide +kernel) (by decide +kernel), (List.forall_mem_cons.mpr ⟨⟨by decide, "java/lang/IndexOutOfBoundsException", gw 111 _ (by decide +kernel) (by decide +kernel), by decide +kernel⟩, (List.forall_mem_cons.mpr ⟨⟨by decide, "java/lang/IllegalArgumentException", gw 112 _ (by decide +kernel) (by decide +kernel), by decide +kernel⟩, (fun z hz => by cases hz)⟩)⟩), ⟨by decide, 6, 45, (Nat.le_of_ble_eq_true rfl), dL_does_147, dL_does_149, dL_does_151, cn_RL_45⟩⟩
  | n + 3, h => by cases h
theorem hx_L_does_77 : HX RL cL_does 7 77 (-2100000000) [(0, 136, 137, 43), (0, 136, 142, 46), (0, 136, 147, 48)] [1, 2, 3] := fun j e h => match j, h with
  | 0, h => by cases h; exact ⟨_, rfl, rfl, by decide, gw 111 _ (by decide +kernel) (by decide +kernel), gw 126 _ (by decide +kernel) (by decide +kernel), (fun z hz => by cases hz), ⟨by decide, 6, 45, (Nat.le_of_ble_eq_true rfl), dL_does_137, dL_does_139, dL_does_141, cn_RL_45⟩⟩
  | 1, h => by cases h; exact ⟨_, rfl, rfl, by decide, gw 112 _ (by decide +kernel) (by decide +kernel), gw 198 _ (by decide +kernel) (by decide +kernel), (List.forall_mem_cons.mpr ⟨⟨by decide, "java/lang/IndexOutOfBoundsException", gw 111 _ (by decide +kernel) (by decide +kernel), by decide +kernel⟩, (fun z hz => by cases hz)⟩), ⟨by decide, 6, 45, (Nat.le_of_ble_eq_true rfl), dL_does_142, dL_does_144, dL_does_146, cn_RL_45⟩⟩
  | 2, h => by cases h; exact ⟨_, rfl, rfl, by decide, gw 113 _ (by decide +kernel) (by decide +kernel), gw 217 _ (by decide +kernel) (by decide +kernel), (List.forall_mem_cons.mpr ⟨⟨by decide, "java/lang/IndexOutOfBoundsException", gw 111 _ (by decide +kernel) (by decide +kernel), by decide +kernel⟩, (List.forall_mem_cons.mpr ⟨⟨by decide, "java/lang/IllegalArgumentException", gw 112 _ (by decide +kernel) (by decide +kernel), by decide +kernel⟩, (fun z hz => by cases hz)⟩)⟩), ⟨by decide, 6, 45, (Nat.le_of_ble_eq_true rfl), dL_does_147, dL_does_149, dL_does_151, cn_RL_45⟩⟩
  | n + 3, h => by cases h
theorem hx_L_does_92 : HX RL cL_does 7 92 (-2100000000) [(0, 136, 137, 43), (0, 136, 142, 46), (0, 136, 147, 48)] [1, 2, 3] := fun j e h => match j, h with
  | 0, h => by cases h; exact ⟨_, rfl, rfl, by decide, gw 111 _ (by decide +kernel) (by decide +kernel), gw 126 _ (by decide +kernel) (by decide +kernel), (fun z hz => by cases hz), ⟨by decide, 6, 45, (Nat.le_of_ble_eq_true rfl), dL_does_137, dL_does_139, dL_does_141, cn_RL_45⟩⟩
  | 1, h => by cases h; exact ⟨_, rfl, rfl, by decide, gw 112 _ (by decide +kernel) (by decide +kernel), gw 198 _ (by decide +kernel) (by decide +kernel), (List.forall_mem_cons.mpr ⟨⟨by decide, "java/lang/IndexOutOfBoundsException", gw 111 _ (by decide +kernel) (by decide +kernel), by decide +kernel⟩, (fun z hz => by cases hz)⟩), ⟨by decide, 6, 45, (Nat.le_of_ble_eq_true rfl), dL_does_142, dL_does_144, dL_does_146, cn_RL_45⟩⟩
  | 2, h => by cases h; exact ⟨_, rfl, rfl, by decide, gw 113 _ (by decide +kernel) (by decide +kernel), gw 217 _ (by decide +kernel) (by decide +kernel), (List.forall_mem_cons.mpr ⟨⟨by decide, "java/lang/IndexOutOfBoundsException", gw 111 _ (by decide +kernel) (by decide +kernel), by decide +kernel⟩, (List.forall_mem_cons.mpr ⟨⟨by decide, "java/lang/IllegalArgumentException", gw 112 _ (by decide +kernel) (by decide +kernel), by decide +kernel⟩, (fun z hz => by cases hz)⟩)⟩), ⟨by decide, 6, 45, (Nat.le_of_ble_eq_true rfl), dL_does_147, dL_does_149, dL_does_151, cn_RL_45⟩⟩
  | n + 3, h => by cases h
theorem hx_L_does_107 : HX RL cL_does 7 107 (-2100000000) [(0, 136, 137, 43), (0, 136, 142, 46), (0, 136, 147, 48)] [1, 2, 3] := fun j e h => match j, h with
  | 0, h => by cases h; exact ⟨_, rfl, rfl, by decide, gw 111 _ (by decide +kernel) (by decide +kernel), gw 126 _ (by decide +kernel) (by decide +kernel), (fun z hz => by cases hz), ⟨by decide, 6, 45, (Nat.le_of_ble_eq_true rfl), dL_does_137, dL_does_139, dL_does_141, cn_RL_45⟩⟩
  | 1, h => by cases h; exact ⟨_, rfl, rfl, by decide, gw 112 _ (by decide +kernel) (by decide +kernel), gw 198 _ (by decide +kernel) (by decide +kernel), (List.forall_mem_cons.mpr ⟨⟨by decide, "java/lang/IndexOutOfBoundsException", gw 111 _ (by decide +kernel) (by decide +kernel), by decide +kernel⟩, (fun z hz => by cases hz)⟩), ⟨by decide, 6, 45, (Nat.le_of_ble_eq_true rfl), dL_does_142, dL_does_144, dL_does_146, cn_RL_45⟩⟩
  | 2, h => by cases h; exact ⟨_, rfl, rfl, by decide, gw 113 _ (by decide +kernel) (by decide +kernel), gw 217 _ (by decide +kernel) (by decide +kernel), (List.forall_mem_cons.mpr ⟨⟨by decide, "java/lang/IndexOutOfBoundsException", gw 111 _ (by decide +kernel) (by decide +kernel), by decide +kernel⟩, (List.forall_mem_cons.mpr ⟨⟨by decide, "java/lang/IllegalArgumentException", gw 112 _ (by decide +kernel) (by decide +kernel), by decide +kernel⟩, (fun z hz => by cases hz)⟩)⟩), ⟨by decide, 6, 45, (Nat.le_of_ble_eq_true rfl), dL_does_147, dL_does_149, dL_does_151, cn_RL_45⟩⟩
  | n + 3, h => by cases h
