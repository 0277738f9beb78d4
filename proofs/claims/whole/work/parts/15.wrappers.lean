/-! the law's wrappers, by the walker -/
theorem ml_RL_7 : Cond.methodLink RL 7 yX7_party ∈ gtbl := gw 148 _ (by decide +kernel) (by decide +kernel)
theorem wi_X7_party : Cond.instanceMethod yX7_party ∈ gtbl := gw 149 _ (by decide +kernel) (by decide +kernel)
theorem ws_X7_party : Cond.selects (yX7_party).cls yX7_party yX7_party ∈ gtbl := gw 150 _ (by decide +kernel) (by decide +kernel)
theorem mi_X7_party : MI yX7_party cX7_party 4 (some .int) 2 := ⟨gw 151 _ (by decide +kernel) (by decide +kernel), ⟨by decide +kernel, by decide +kernel⟩, by decide +kernel, gw 61 _ (by decide +kernel) (by decide +kernel)⟩
theorem ak_9 : AK 9 1 .long 1 := ak_of rfl rfl rfl rfl
theorem ml_RL_19 : Cond.methodLink RL 19 yX7_work ∈ gtbl := gw 297 _ (by decide +kernel) (by decide +kernel)
theorem wi_X7_work : Cond.instanceMethod yX7_work ∈ gtbl := gw 298 _ (by decide +kernel) (by decide +kernel)
theorem ws_X7_work : Cond.selects (yX7_work).cls yX7_work yX7_work ∈ gtbl := gw 299 _ (by decide +kernel) (by decide +kernel)
theorem mi_X7_work : MI yX7_work cX7_work 5 (some .int) 2 := ⟨gw 300 _ (by decide +kernel) (by decide +kernel), ⟨by decide +kernel, by decide +kernel⟩, by decide +kernel, gw 61 _ (by decide +kernel) (by decide +kernel)⟩
theorem ml_RL_22 : Cond.methodLink RL 22 yX7_value ∈ gtbl := gw 399 _ (by decide +kernel) (by decide +kernel)
theorem wi_X7_value : Cond.instanceMethod yX7_value ∈ gtbl := gw 400 _ (by decide +kernel) (by decide +kernel)
theorem ws_X7_value : Cond.selects (yX7_value).cls yX7_value yX7_value ∈ gtbl := gw 401 _ (by decide +kernel) (by decide +kernel)
theorem mi_X7_value : MI yX7_value cX7_value 5 (some .int) 2 := ⟨gw 402 _ (by decide +kernel) (by decide +kernel), ⟨by decide +kernel, by decide +kernel⟩, by decide +kernel, gw 61 _ (by decide +kernel) (by decide +kernel)⟩
theorem ml_RL_25 : Cond.methodLink RL 25 yX7_pass ∈ gtbl := gw 411 _ (by decide +kernel) (by decide +kernel)
theorem wi_X7_pass : Cond.instanceMethod yX7_pass ∈ gtbl := gw 412 _ (by decide +kernel) (by decide +kernel)
theorem ws_X7_pass : Cond.selects (yX7_pass).cls yX7_pass yX7_pass ∈ gtbl := gw 413 _ (by decide +kernel) (by decide +kernel)
theorem mi_X7_pass : MI yX7_pass cX7_pass 2 (some .int) 1 := ⟨gw 414 _ (by decide +kernel) (by decide +kernel), ⟨by decide +kernel, by decide +kernel⟩, by decide +kernel, gw 61 _ (by decide +kernel) (by decide +kernel)⟩
theorem ml_RL_29 : Cond.methodLink RL 29 yX7_weight ∈ gtbl := gw 418 _ (by decide +kernel) (by decide +kernel)
theorem wi_X7_weight : Cond.instanceMethod yX7_weight ∈ gtbl := gw 419 _ (by decide +kernel) (by decide +kernel)
theorem ws_X7_weight : Cond.selects (yX7_weight).cls yX7_weight yX7_weight ∈ gtbl := gw 420 _ (by decide +kernel) (by decide +kernel)
theorem mi_X7_weight : MI yX7_weight cX7_weight 5 (some .int) 2 := ⟨gw 421 _ (by decide +kernel) (by decide +kernel), ⟨by decide +kernel, by decide +kernel⟩, by decide +kernel, gw 61 _ (by decide +kernel) (by decide +kernel)⟩
theorem ml_RL_32 : Cond.methodLink RL 32 yX7_word ∈ gtbl := gw 425 _ (by decide +kernel) (by decide +kernel)
theorem wi_X7_word : Cond.instanceMethod yX7_word ∈ gtbl := gw 426 _ (by decide +kernel) (by decide +kernel)
theorem ws_X7_word : Cond.selects (yX7_word).cls yX7_word yX7_word ∈ gtbl := gw 427 _ (by decide +kernel) (by decide +kernel)
theorem mi_X7_word : MI yX7_word cX7_word 6 (some .int) 3 := ⟨gw 428 _ (by decide +kernel) (by decide +kernel), ⟨by decide +kernel, by decide +kernel⟩, by decide +kernel, gw 61 _ (by decide +kernel) (by decide +kernel)⟩
theorem ml_RL_36 : Cond.methodLink RL 36 yX7_paper ∈ gtbl := gw 451 _ (by decide +kernel) (by decide +kernel)
theorem wi_X7_paper : Cond.instanceMethod yX7_paper ∈ gtbl := gw 452 _ (by decide +kernel) (by decide +kernel)
theorem ws_X7_paper : Cond.selects (yX7_paper).cls yX7_paper yX7_paper ∈ gtbl := gw 453 _ (by decide +kernel) (by decide +kernel)
theorem mi_X7_paper : MI yX7_paper cX7_paper 6 none 3 := ⟨gw 454 _ (by decide +kernel) (by decide +kernel), ⟨by decide +kernel, by decide +kernel⟩, by decide +kernel, gw 61 _ (by decide +kernel) (by decide +kernel)⟩
theorem ml_RL_40 : Cond.methodLink RL 40 yX7_right ∈ gtbl := gw 461 _ (by decide +kernel) (by decide +kernel)
theorem wi_X7_right : Cond.instanceMethod yX7_right ∈ gtbl := gw 462 _ (by decide +kernel) (by decide +kernel)
theorem ws_X7_right : Cond.selects (yX7_right).cls yX7_right yX7_right ∈ gtbl := gw 463 _ (by decide +kernel) (by decide +kernel)
theorem mi_X7_right : MI yX7_right cX7_right 4 (some .int) 2 := ⟨gw 464 _ (by decide +kernel) (by decide +kernel), ⟨by decide +kernel, by decide +kernel⟩, by decide +kernel, gw 61 _ (by decide +kernel) (by decide +kernel)⟩
theorem ml_RL_43 : Cond.methodLink RL 43 yX7_bar ∈ gtbl := gw 468 _ (by decide +kernel) (by decide +kernel)
theorem wi_X7_bar : Cond.instanceMethod yX7_bar ∈ gtbl := gw 469 _ (by decide +kernel) (by decide +kernel)
theorem ws_X7_bar : Cond.selects (yX7_bar).cls yX7_bar yX7_bar ∈ gtbl := gw 470 _ (by decide +kernel) (by decide +kernel)
theorem mi_X7_bar : MI yX7_bar cX7_bar 5 (some .int) 2 := ⟨gw 471 _ (by decide +kernel) (by decide +kernel), ⟨by decide +kernel, by decide +kernel⟩, by decide +kernel, gw 61 _ (by decide +kernel) (by decide +kernel)⟩
theorem ml_RL_46 : Cond.methodLink RL 46 yX7_seal ∈ gtbl := gw 482 _ (by decide +kernel) (by decide +kernel)
theorem wi_X7_seal : Cond.instanceMethod yX7_seal ∈ gtbl := gw 483 _ (by decide +kernel) (by decide +kernel)
theorem ws_X7_seal : Cond.selects (yX7_seal).cls yX7_seal yX7_seal ∈ gtbl := gw 484 _ (by decide +kernel) (by decide +kernel)
theorem mi_X7_seal : MI yX7_seal cX7_seal 5 (some .boolean) 2 := ⟨gw 485 _ (by decide +kernel) (by decide +kernel), ⟨by decide +kernel, by decide +kernel⟩, by decide +kernel, gw 61 _ (by decide +kernel) (by decide +kernel)⟩
theorem ml_RL_50 : Cond.methodLink RL 50 yX7_bring ∈ gtbl := gw 489 _ (by decide +kernel) (by decide +kernel)
theorem wi_X7_bring : Cond.instanceMethod yX7_bring ∈ gtbl := gw 490 _ (by decide +kernel) (by decide +kernel)
theorem ws_X7_bring : Cond.selects (yX7_bring).cls yX7_bring yX7_bring ∈ gtbl := gw 491 _ (by decide +kernel) (by decide +kernel)
theorem mi_X7_bring : MI yX7_bring cX7_bring 6 (some .int) 2 := ⟨gw 492 _ (by decide +kernel) (by decide +kernel), ⟨by decide +kernel, by decide +kernel⟩, by decide +kernel, gw 61 _ (by decide +kernel) (by decide +kernel)⟩
theorem ml_RL_53 : Cond.methodLink RL 53 yX7_list ∈ gtbl := gw 496 _ (by decide +kernel) (by decide +kernel)
theorem wi_X7_list : Cond.instanceMethod yX7_list ∈ gtbl := gw 497 _ (by decide +kernel) (by decide +kernel)
theorem ws_X7_list : Cond.selects (yX7_list).cls yX7_list yX7_list ∈ gtbl := gw 498 _ (by decide +kernel) (by decide +kernel)
theorem mi_X7_list : MI yX7_list cX7_list 3 none 1 := ⟨gw 499 _ (by decide +kernel) (by decide +kernel), ⟨by decide +kernel, by decide +kernel⟩, by decide +kernel, gw 61 _ (by decide +kernel) (by decide +kernel)⟩
theorem ml_RL_57 : Cond.methodLink RL 57 yX7_fail ∈ gtbl := gw 503 _ (by decide +kernel) (by decide +kernel)
theorem wi_X7_fail : Cond.instanceMethod yX7_fail ∈ gtbl := gw 504 _ (by decide +kernel) (by decide +kernel)
theorem ws_X7_fail : Cond.selects (yX7_fail).cls yX7_fail yX7_fail ∈ gtbl := gw 505 _ (by decide +kernel) (by decide +kernel)
theorem mi_X7_fail : MI yX7_fail cX7_fail 5 (some .int) 1 := ⟨gw 506 _ (by decide +kernel) (by decide +kernel), ⟨by decide +kernel, by decide +kernel⟩, by decide +kernel, gw 61 _ (by decide +kernel) (by decide +kernel)⟩
theorem ml_RL_60 : Cond.methodLink RL 60 yX7_sell ∈ gtbl := gw 514 _ (by decide +kernel) (by decide +kernel)
theorem wi_X7_sell : Cond.instanceMethod yX7_sell ∈ gtbl := gw 515 _ (by decide +kernel) (by decide +kernel)
theorem ws_X7_sell : Cond.selects (yX7_sell).cls yX7_sell yX7_sell ∈ gtbl := gw 516 _ (by decide +kernel) (by decide +kernel)
theorem mi_X7_sell : MI yX7_sell cX7_sell 7 (some .int) 4 := ⟨gw 517 _ (by decide +kernel) (by decide +kernel), ⟨by decide +kernel, by decide +kernel⟩, by decide +kernel, gw 61 _ (by decide +kernel) (by decide +kernel)⟩
theorem ml_RL_64 : Cond.methodLink RL 64 yX7_consign ∈ gtbl := gw 602 _ (by decide +kernel) (by decide +kernel)
theorem wi_X7_consign : Cond.instanceMethod yX7_consign ∈ gtbl := gw 603 _ (by decide +kernel) (by decide +kernel)
theorem ws_X7_consign : Cond.selects (yX7_consign).cls yX7_consign yX7_consign ∈ gtbl := gw 604 _ (by decide +kernel) (by decide +kernel)
theorem mi_X7_consign : MI yX7_consign cX7_consign 8 none 5 := ⟨gw 605 _ (by decide +kernel) (by decide +kernel), ⟨by decide +kernel, by decide +kernel⟩, by decide +kernel, gw 61 _ (by decide +kernel) (by decide +kernel)⟩
theorem ml_RL_68 : Cond.methodLink RL 68 yX7_back ∈ gtbl := gw 633 _ (by decide +kernel) (by decide +kernel)
theorem wi_X7_back : Cond.instanceMethod yX7_back ∈ gtbl := gw 634 _ (by decide +kernel) (by decide +kernel)
theorem ws_X7_back : Cond.selects (yX7_back).cls yX7_back yX7_back ∈ gtbl := gw 635 _ (by decide +kernel) (by decide +kernel)
theorem mi_X7_back : MI yX7_back cX7_back 4 (some .int) 1 := ⟨gw 636 _ (by decide +kernel) (by decide +kernel), ⟨by decide +kernel, by decide +kernel⟩, by decide +kernel, gw 61 _ (by decide +kernel) (by decide +kernel)⟩
theorem ml_RL_71 : Cond.methodLink RL 71 yX7_deal ∈ gtbl := gw 641 _ (by decide +kernel) (by decide +kernel)
theorem wi_X7_deal : Cond.instanceMethod yX7_deal ∈ gtbl := gw 642 _ (by decide +kernel) (by decide +kernel)
theorem ws_X7_deal : Cond.selects (yX7_deal).cls yX7_deal yX7_deal ∈ gtbl := gw 643 _ (by decide +kernel) (by decide +kernel)
theorem mi_X7_deal : MI yX7_deal cX7_deal 8 (some .int) 3 := ⟨gw 644 _ (by decide +kernel) (by decide +kernel), ⟨by decide +kernel, by decide +kernel⟩, by decide +kernel, gw 61 _ (by decide +kernel) (by decide +kernel)⟩
theorem ml_RL_75 : Cond.methodLink RL 75 yX7_tell ∈ gtbl := gw 652 _ (by decide +kernel) (by decide +kernel)
theorem wi_X7_tell : Cond.instanceMethod yX7_tell ∈ gtbl := gw 653 _ (by decide +kernel) (by decide +kernel)
theorem ws_X7_tell : Cond.selects (yX7_tell).cls yX7_tell yX7_tell ∈ gtbl := gw 654 _ (by decide +kernel) (by decide +kernel)
theorem mi_X7_tell : MI yX7_tell cX7_tell 8 (some .boolean) 3 := ⟨gw 655 _ (by decide +kernel) (by decide +kernel), ⟨by decide +kernel, by decide +kernel⟩, by decide +kernel, gw 61 _ (by decide +kernel) (by decide +kernel)⟩
theorem ml_RL_79 : Cond.methodLink RL 79 yX7_restore ∈ gtbl := gw 664 _ (by decide +kernel) (by decide +kernel)
theorem wi_X7_restore : Cond.instanceMethod yX7_restore ∈ gtbl := gw 665 _ (by decide +kernel) (by decide +kernel)
theorem ws_X7_restore : Cond.selects (yX7_restore).cls yX7_restore yX7_restore ∈ gtbl := gw 666 _ (by decide +kernel) (by decide +kernel)
theorem mi_X7_restore : MI yX7_restore cX7_restore 6 (some .int) 2 := ⟨gw 667 _ (by decide +kernel) (by decide +kernel), ⟨by decide +kernel, by decide +kernel⟩, by decide +kernel, gw 61 _ (by decide +kernel) (by decide +kernel)⟩
theorem ml_RL_82 : Cond.methodLink RL 82 yX7_lend ∈ gtbl := gw 678 _ (by decide +kernel) (by decide +kernel)
theorem wi_X7_lend : Cond.instanceMethod yX7_lend ∈ gtbl := gw 679 _ (by decide +kernel) (by decide +kernel)
theorem ws_X7_lend : Cond.selects (yX7_lend).cls yX7_lend yX7_lend ∈ gtbl := gw 680 _ (by decide +kernel) (by decide +kernel)
theorem mi_X7_lend : MI yX7_lend cX7_lend 10 (some .int) 5 := ⟨gw 681 _ (by decide +kernel) (by decide +kernel), ⟨by decide +kernel, by decide +kernel⟩, by decide +kernel, gw 61 _ (by decide +kernel) (by decide +kernel)⟩
theorem ml_RL_86 : Cond.methodLink RL 86 yX7_repay ∈ gtbl := gw 732 _ (by decide +kernel) (by decide +kernel)
theorem wi_X7_repay : Cond.instanceMethod yX7_repay ∈ gtbl := gw 733 _ (by decide +kernel) (by decide +kernel)
theorem ws_X7_repay : Cond.selects (yX7_repay).cls yX7_repay yX7_repay ∈ gtbl := gw 734 _ (by decide +kernel) (by decide +kernel)
theorem mi_X7_repay : MI yX7_repay cX7_repay 4 (some .int) 1 := ⟨gw 735 _ (by decide +kernel) (by decide +kernel), ⟨by decide +kernel, by decide +kernel⟩, by decide +kernel, gw 61 _ (by decide +kernel) (by decide +kernel)⟩
theorem ml_RL_89 : Cond.methodLink RL 89 yX7_seize ∈ gtbl := gw 753 _ (by decide +kernel) (by decide +kernel)
theorem wi_X7_seize : Cond.instanceMethod yX7_seize ∈ gtbl := gw 754 _ (by decide +kernel) (by decide +kernel)
theorem ws_X7_seize : Cond.selects (yX7_seize).cls yX7_seize yX7_seize ∈ gtbl := gw 755 _ (by decide +kernel) (by decide +kernel)
theorem mi_X7_seize : MI yX7_seize cX7_seize 4 (some .int) 1 := ⟨gw 756 _ (by decide +kernel) (by decide +kernel), ⟨by decide +kernel, by decide +kernel⟩, by decide +kernel, gw 61 _ (by decide +kernel) (by decide +kernel)⟩
theorem ml_RL_92 : Cond.methodLink RL 92 yX7_assign ∈ gtbl := gw 770 _ (by decide +kernel) (by decide +kernel)
theorem wi_X7_assign : Cond.instanceMethod yX7_assign ∈ gtbl := gw 771 _ (by decide +kernel) (by decide +kernel)
theorem ws_X7_assign : Cond.selects (yX7_assign).cls yX7_assign yX7_assign ∈ gtbl := gw 772 _ (by decide +kernel) (by decide +kernel)
theorem mi_X7_assign : MI yX7_assign cX7_assign 7 (some .int) 3 := ⟨gw 773 _ (by decide +kernel) (by decide +kernel), ⟨by decide +kernel, by decide +kernel⟩, by decide +kernel, gw 61 _ (by decide +kernel) (by decide +kernel)⟩
theorem ml_RL_95 : Cond.methodLink RL 95 yX7_bars ∈ gtbl := gw 777 _ (by decide +kernel) (by decide +kernel)
theorem wi_X7_bars : Cond.instanceMethod yX7_bars ∈ gtbl := gw 778 _ (by decide +kernel) (by decide +kernel)
theorem ws_X7_bars : Cond.selects (yX7_bars).cls yX7_bars yX7_bars ∈ gtbl := gw 779 _ (by decide +kernel) (by decide +kernel)
theorem mi_X7_bars : MI yX7_bars cX7_bars 7 (some .int) 4 := ⟨gw 780 _ (by decide +kernel) (by decide +kernel), ⟨by decide +kernel, by decide +kernel⟩, by decide +kernel, gw 61 _ (by decide +kernel) (by decide +kernel)⟩
theorem ml_RL_98 : Cond.methodLink RL 98 yX7_barredBy ∈ gtbl := gw 784 _ (by decide +kernel) (by decide +kernel)
theorem wi_X7_barredBy : Cond.instanceMethod yX7_barredBy ∈ gtbl := gw 785 _ (by decide +kernel) (by decide +kernel)
theorem ws_X7_barredBy : Cond.selects (yX7_barredBy).cls yX7_barredBy yX7_barredBy ∈ gtbl := gw 786 _ (by decide +kernel) (by decide +kernel)
theorem mi_X7_barredBy : MI yX7_barredBy cX7_barredBy 7 (some .int) 4 := ⟨gw 787 _ (by decide +kernel) (by decide +kernel), ⟨by decide +kernel, by decide +kernel⟩, by decide +kernel, gw 61 _ (by decide +kernel) (by decide +kernel)⟩
theorem ml_RL_101 : Cond.methodLink RL 101 yX7_price ∈ gtbl := gw 794 _ (by decide +kernel) (by decide +kernel)
theorem wi_X7_price : Cond.instanceMethod yX7_price ∈ gtbl := gw 795 _ (by decide +kernel) (by decide +kernel)
theorem ws_X7_price : Cond.selects (yX7_price).cls yX7_price yX7_price ∈ gtbl := gw 796 _ (by decide +kernel) (by decide +kernel)
theorem mi_X7_price : MI yX7_price cX7_price 5 (some .int) 2 := ⟨gw 797 _ (by decide +kernel) (by decide +kernel), ⟨by decide +kernel, by decide +kernel⟩, by decide +kernel, gw 61 _ (by decide +kernel) (by decide +kernel)⟩
theorem ml_RL_104 : Cond.methodLink RL 104 yX7_ofParty ∈ gtbl := gw 801 _ (by decide +kernel) (by decide +kernel)
theorem wi_X7_ofParty : Cond.instanceMethod yX7_ofParty ∈ gtbl := gw 802 _ (by decide +kernel) (by decide +kernel)
theorem ws_X7_ofParty : Cond.selects (yX7_ofParty).cls yX7_ofParty yX7_ofParty ∈ gtbl := gw 803 _ (by decide +kernel) (by decide +kernel)
theorem mi_X7_ofParty : MI yX7_ofParty cX7_ofParty 4 (some .int) 2 := ⟨gw 804 _ (by decide +kernel) (by decide +kernel), ⟨by decide +kernel, by decide +kernel⟩, by decide +kernel, gw 61 _ (by decide +kernel) (by decide +kernel)⟩
theorem ml_RL_107 : Cond.methodLink RL 107 yX7_ofWork ∈ gtbl := gw 833 _ (by decide +kernel) (by decide +kernel)
theorem wi_X7_ofWork : Cond.instanceMethod yX7_ofWork ∈ gtbl := gw 834 _ (by decide +kernel) (by decide +kernel)
theorem ws_X7_ofWork : Cond.selects (yX7_ofWork).cls yX7_ofWork yX7_ofWork ∈ gtbl := gw 835 _ (by decide +kernel) (by decide +kernel)
theorem mi_X7_ofWork : MI yX7_ofWork cX7_ofWork 4 (some .int) 2 := ⟨gw 836 _ (by decide +kernel) (by decide +kernel), ⟨by decide +kernel, by decide +kernel⟩, by decide +kernel, gw 61 _ (by decide +kernel) (by decide +kernel)⟩
theorem ml_RL_110 : Cond.methodLink RL 110 yX7_ofLot ∈ gtbl := gw 845 _ (by decide +kernel) (by decide +kernel)
theorem wi_X7_ofLot : Cond.instanceMethod yX7_ofLot ∈ gtbl := gw 846 _ (by decide +kernel) (by decide +kernel)
theorem ws_X7_ofLot : Cond.selects (yX7_ofLot).cls yX7_ofLot yX7_ofLot ∈ gtbl := gw 847 _ (by decide +kernel) (by decide +kernel)
theorem mi_X7_ofLot : MI yX7_ofLot cX7_ofLot 4 (some .int) 2 := ⟨gw 848 _ (by decide +kernel) (by decide +kernel), ⟨by decide +kernel, by decide +kernel⟩, by decide +kernel, gw 61 _ (by decide +kernel) (by decide +kernel)⟩
theorem ml_RL_113 : Cond.methodLink RL 113 yX7_ofLoan ∈ gtbl := gw 857 _ (by decide +kernel) (by decide +kernel)
theorem wi_X7_ofLoan : Cond.instanceMethod yX7_ofLoan ∈ gtbl := gw 858 _ (by decide +kernel) (by decide +kernel)
theorem ws_X7_ofLoan : Cond.selects (yX7_ofLoan).cls yX7_ofLoan yX7_ofLoan ∈ gtbl := gw 859 _ (by decide +kernel) (by decide +kernel)
theorem mi_X7_ofLoan : MI yX7_ofLoan cX7_ofLoan 4 (some .int) 2 := ⟨gw 860 _ (by decide +kernel) (by decide +kernel), ⟨by decide +kernel, by decide +kernel⟩, by decide +kernel, gw 61 _ (by decide +kernel) (by decide +kernel)⟩
theorem ml_RL_116 : Cond.methodLink RL 116 yX7_doubt ∈ gtbl := gw 864 _ (by decide +kernel) (by decide +kernel)
theorem wi_X7_doubt : Cond.instanceMethod yX7_doubt ∈ gtbl := gw 865 _ (by decide +kernel) (by decide +kernel)
theorem ws_X7_doubt : Cond.selects (yX7_doubt).cls yX7_doubt yX7_doubt ∈ gtbl := gw 866 _ (by decide +kernel) (by decide +kernel)
theorem mi_X7_doubt : MI yX7_doubt cX7_doubt 4 (some .int) 2 := ⟨gw 867 _ (by decide +kernel) (by decide +kernel), ⟨by decide +kernel, by decide +kernel⟩, by decide +kernel, gw 61 _ (by decide +kernel) (by decide +kernel)⟩
theorem ml_RL_119 : Cond.methodLink RL 119 yX7_gaps ∈ gtbl := gw 872 _ (by decide +kernel) (by decide +kernel)
theorem wi_X7_gaps : Cond.instanceMethod yX7_gaps ∈ gtbl := gw 873 _ (by decide +kernel) (by decide +kernel)
theorem ws_X7_gaps : Cond.selects (yX7_gaps).cls yX7_gaps yX7_gaps ∈ gtbl := gw 874 _ (by decide +kernel) (by decide +kernel)
theorem mi_X7_gaps : MI yX7_gaps cX7_gaps 7 (some .int) 3 := ⟨gw 875 _ (by decide +kernel) (by decide +kernel), ⟨by decide +kernel, by decide +kernel⟩, by decide +kernel, gw 61 _ (by decide +kernel) (by decide +kernel)⟩
theorem ml_RL_126 : Cond.methodLink RL 126 yL_party ∈ gtbl := gw 142 _ (by decide +kernel) (by decide +kernel)
theorem wt_L_party : Cond.static yL_party ∈ gtbl := gw 143 _ (by decide +kernel) (by decide +kernel)
theorem mw_L_party : MW yL_party cL_party 5 (some .int) [(0, 10, 13, 13), (0, 10, 17, 15), (0, 10, 21, 17)] 4 := ⟨gw 144 _ (by decide +kernel) (by decide +kernel), ⟨by decide +kernel, by decide +kernel⟩, by decide +kernel, gw 60 _ (by decide +kernel) (by decide +kernel)⟩
theorem ml_RL_131 : Cond.methodLink RL 131 yX8_party ∈ gtbl := gw 1026 _ (by decide +kernel) (by decide +kernel)
theorem wi_X8_party : Cond.instanceMethod yX8_party ∈ gtbl := gw 1027 _ (by decide +kernel) (by decide +kernel)
theorem ws_X8_party : Cond.selects (yX8_party).cls yX8_party yX8_party ∈ gtbl := gw 1028 _ (by decide +kernel) (by decide +kernel)
theorem mi_X8_party : MI yX8_party cX8_party 3 (some .int) 2 := ⟨gw 1029 _ (by decide +kernel) (by decide +kernel), ⟨by decide +kernel, by decide +kernel⟩, by decide +kernel, gw 62 _ (by decide +kernel) (by decide +kernel)⟩
theorem ml_RL_132 : Cond.methodLink RL 132 yX8_thrown ∈ gtbl := gw 1022 _ (by decide +kernel) (by decide +kernel)
theorem wi_X8_thrown : Cond.instanceMethod yX8_thrown ∈ gtbl := gw 1023 _ (by decide +kernel) (by decide +kernel)
theorem ws_X8_thrown : Cond.selects (yX8_thrown).cls yX8_thrown yX8_thrown ∈ gtbl := gw 1024 _ (by decide +kernel) (by decide +kernel)
theorem mi_X8_thrown : MI yX8_thrown cX8_thrown 1 (some .int) 0 := ⟨gw 1025 _ (by decide +kernel) (by decide +kernel), ⟨by decide +kernel, by decide +kernel⟩, by decide +kernel, gw 62 _ (by decide +kernel) (by decide +kernel)⟩
theorem ml_RL_136 : Cond.methodLink RL 136 yL_work ∈ gtbl := gw 294 _ (by decide +kernel) (by decide +kernel)
theorem wt_L_work : Cond.static yL_work ∈ gtbl := gw 295 _ (by decide +kernel) (by decide +kernel)
theorem mw_L_work : MW yL_work cL_work 5 (some .int) [(0, 10, 13, 13), (0, 10, 17, 15), (0, 10, 21, 17)] 4 := ⟨gw 296 _ (by decide +kernel) (by decide +kernel), ⟨by decide +kernel, by decide +kernel⟩, by decide +kernel, gw 60 _ (by decide +kernel) (by decide +kernel)⟩
theorem ml_RL_138 : Cond.methodLink RL 138 yX8_work ∈ gtbl := gw 1041 _ (by decide +kernel) (by decide +kernel)
theorem wi_X8_work : Cond.instanceMethod yX8_work ∈ gtbl := gw 1042 _ (by decide +kernel) (by decide +kernel)
theorem ws_X8_work : Cond.selects (yX8_work).cls yX8_work yX8_work ∈ gtbl := gw 1043 _ (by decide +kernel) (by decide +kernel)
theorem mi_X8_work : MI yX8_work cX8_work 4 (some .int) 2 := ⟨gw 1044 _ (by decide +kernel) (by decide +kernel), ⟨by decide +kernel, by decide +kernel⟩, by decide +kernel, gw 62 _ (by decide +kernel) (by decide +kernel)⟩
theorem ml_RL_139 : Cond.methodLink RL 139 yL_value ∈ gtbl := gw 396 _ (by decide +kernel) (by decide +kernel)
theorem wt_L_value : Cond.static yL_value ∈ gtbl := gw 397 _ (by decide +kernel) (by decide +kernel)
theorem mw_L_value : MW yL_value cL_value 5 (some .int) [(0, 10, 13, 13), (0, 10, 17, 15)] 4 := ⟨gw 398 _ (by decide +kernel) (by decide +kernel), ⟨by decide +kernel, by decide +kernel⟩, by decide +kernel, gw 60 _ (by decide +kernel) (by decide +kernel)⟩
theorem ml_RL_141 : Cond.methodLink RL 141 yX8_value ∈ gtbl := gw 1053 _ (by decide +kernel) (by decide +kernel)
theorem wi_X8_value : Cond.instanceMethod yX8_value ∈ gtbl := gw 1054 _ (by decide +kernel) (by decide +kernel)
theorem ws_X8_value : Cond.selects (yX8_value).cls yX8_value yX8_value ∈ gtbl := gw 1055 _ (by decide +kernel) (by decide +kernel)
theorem mi_X8_value : MI yX8_value cX8_value 4 (some .int) 2 := ⟨gw 1056 _ (by decide +kernel) (by decide +kernel), ⟨by decide +kernel, by decide +kernel⟩, by decide +kernel, gw 62 _ (by decide +kernel) (by decide +kernel)⟩
theorem ml_RL_142 : Cond.methodLink RL 142 yL_pass ∈ gtbl := gw 408 _ (by decide +kernel) (by decide +kernel)
theorem wt_L_pass : Cond.static yL_pass ∈ gtbl := gw 409 _ (by decide +kernel) (by decide +kernel)
theorem mw_L_pass : MW yL_pass cL_pass 4 (some .int) [(0, 9, 12, 15), (0, 9, 15, 17)] 3 := ⟨gw 410 _ (by decide +kernel) (by decide +kernel), ⟨by decide +kernel, by decide +kernel⟩, by decide +kernel, gw 60 _ (by decide +kernel) (by decide +kernel)⟩
theorem ml_RL_145 : Cond.methodLink RL 145 yX8_pass ∈ gtbl := gw 1061 _ (by decide +kernel) (by decide +kernel)
theorem wi_X8_pass : Cond.instanceMethod yX8_pass ∈ gtbl := gw 1062 _ (by decide +kernel) (by decide +kernel)
theorem ws_X8_pass : Cond.selects (yX8_pass).cls yX8_pass yX8_pass ∈ gtbl := gw 1063 _ (by decide +kernel) (by decide +kernel)
theorem mi_X8_pass : MI yX8_pass cX8_pass 2 (some .int) 1 := ⟨gw 1064 _ (by decide +kernel) (by decide +kernel), ⟨by decide +kernel, by decide +kernel⟩, by decide +kernel, gw 62 _ (by decide +kernel) (by decide +kernel)⟩
theorem ml_RL_146 : Cond.methodLink RL 146 yL_weight ∈ gtbl := gw 415 _ (by decide +kernel) (by decide +kernel)
theorem wt_L_weight : Cond.static yL_weight ∈ gtbl := gw 416 _ (by decide +kernel) (by decide +kernel)
theorem mw_L_weight : MW yL_weight cL_weight 5 (some .int) [(0, 10, 13, 13), (0, 10, 17, 15)] 4 := ⟨gw 417 _ (by decide +kernel) (by decide +kernel), ⟨by decide +kernel, by decide +kernel⟩, by decide +kernel, gw 60 _ (by decide +kernel) (by decide +kernel)⟩
theorem ml_RL_148 : Cond.methodLink RL 148 yX8_weight ∈ gtbl := gw 1065 _ (by decide +kernel) (by decide +kernel)
theorem wi_X8_weight : Cond.instanceMethod yX8_weight ∈ gtbl := gw 1066 _ (by decide +kernel) (by decide +kernel)
theorem ws_X8_weight : Cond.selects (yX8_weight).cls yX8_weight yX8_weight ∈ gtbl := gw 1067 _ (by decide +kernel) (by decide +kernel)
theorem mi_X8_weight : MI yX8_weight cX8_weight 4 (some .int) 2 := ⟨gw 1068 _ (by decide +kernel) (by decide +kernel), ⟨by decide +kernel, by decide +kernel⟩, by decide +kernel, gw 62 _ (by decide +kernel) (by decide +kernel)⟩
theorem ml_RL_149 : Cond.methodLink RL 149 yL_word ∈ gtbl := gw 422 _ (by decide +kernel) (by decide +kernel)
theorem wt_L_word : Cond.static yL_word ∈ gtbl := gw 423 _ (by decide +kernel) (by decide +kernel)
theorem mw_L_word : MW yL_word cL_word 6 (some .int) [(0, 12, 15, 13), (0, 12, 19, 17)] 5 := ⟨gw 424 _ (by decide +kernel) (by decide +kernel), ⟨by decide +kernel, by decide +kernel⟩, by decide +kernel, gw 60 _ (by decide +kernel) (by decide +kernel)⟩
theorem ml_RL_152 : Cond.methodLink RL 152 yX8_word ∈ gtbl := gw 1069 _ (by decide +kernel) (by decide +kernel)
theorem wi_X8_word : Cond.instanceMethod yX8_word ∈ gtbl := gw 1070 _ (by decide +kernel) (by decide +kernel)
theorem ws_X8_word : Cond.selects (yX8_word).cls yX8_word yX8_word ∈ gtbl := gw 1071 _ (by decide +kernel) (by decide +kernel)
theorem mi_X8_word : MI yX8_word cX8_word 6 (some .int) 3 := ⟨gw 1072 _ (by decide +kernel) (by decide +kernel), ⟨by decide +kernel, by decide +kernel⟩, by decide +kernel, gw 62 _ (by decide +kernel) (by decide +kernel)⟩
theorem ml_RL_153 : Cond.methodLink RL 153 yL_paper ∈ gtbl := gw 448 _ (by decide +kernel) (by decide +kernel)
theorem wt_L_paper : Cond.static yL_paper ∈ gtbl := gw 449 _ (by decide +kernel) (by decide +kernel)
theorem mw_L_paper : MW yL_paper cL_paper 5 (some .int) [(0, 7, 10, 13), (0, 7, 14, 15)] 4 := ⟨gw 450 _ (by decide +kernel) (by decide +kernel), ⟨by decide +kernel, by decide +kernel⟩, by decide +kernel, gw 60 _ (by decide +kernel) (by decide +kernel)⟩
theorem ml_RL_156 : Cond.methodLink RL 156 yX8_paper ∈ gtbl := gw 1073 _ (by decide +kernel) (by decide +kernel)
theorem wi_X8_paper : Cond.instanceMethod yX8_paper ∈ gtbl := gw 1074 _ (by decide +kernel) (by decide +kernel)
theorem ws_X8_paper : Cond.selects (yX8_paper).cls yX8_paper yX8_paper ∈ gtbl := gw 1075 _ (by decide +kernel) (by decide +kernel)
theorem mi_X8_paper : MI yX8_paper cX8_paper 7 none 3 := ⟨gw 1076 _ (by decide +kernel) (by decide +kernel), ⟨by decide +kernel, by decide +kernel⟩, by decide +kernel, gw 62 _ (by decide +kernel) (by decide +kernel)⟩
theorem ml_RL_157 : Cond.methodLink RL 157 yL_right ∈ gtbl := gw 458 _ (by decide +kernel) (by decide +kernel)
theorem wt_L_right : Cond.static yL_right ∈ gtbl := gw 459 _ (by decide +kernel) (by decide +kernel)
theorem mw_L_right : MW yL_right cL_right 5 (some .int) [(0, 10, 13, 13), (0, 10, 17, 15)] 4 := ⟨gw 460 _ (by decide +kernel) (by decide +kernel), ⟨by decide +kernel, by decide +kernel⟩, by decide +kernel, gw 60 _ (by decide +kernel) (by decide +kernel)⟩
theorem ml_RL_159 : Cond.methodLink RL 159 yX8_right ∈ gtbl := gw 1077 _ (by decide +kernel) (by decide +kernel)
theorem wi_X8_right : Cond.instanceMethod yX8_right ∈ gtbl := gw 1078 _ (by decide +kernel) (by decide +kernel)
theorem ws_X8_right : Cond.selects (yX8_right).cls yX8_right yX8_right ∈ gtbl := gw 1079 _ (by decide +kernel) (by decide +kernel)
theorem mi_X8_right : MI yX8_right cX8_right 4 (some .int) 2 := ⟨gw 1080 _ (by decide +kernel) (by decide +kernel), ⟨by decide +kernel, by decide +kernel⟩, by decide +kernel, gw 62 _ (by decide +kernel) (by decide +kernel)⟩
theorem ml_RL_160 : Cond.methodLink RL 160 yL_bar ∈ gtbl := gw 465 _ (by decide +kernel) (by decide +kernel)
theorem wt_L_bar : Cond.static yL_bar ∈ gtbl := gw 466 _ (by decide +kernel) (by decide +kernel)
theorem mw_L_bar : MW yL_bar cL_bar 5 (some .int) [(0, 10, 13, 13), (0, 10, 17, 15)] 4 := ⟨gw 467 _ (by decide +kernel) (by decide +kernel), ⟨by decide +kernel, by decide +kernel⟩, by decide +kernel, gw 60 _ (by decide +kernel) (by decide +kernel)⟩
theorem ml_RL_162 : Cond.methodLink RL 162 yX8_bar ∈ gtbl := gw 1081 _ (by decide +kernel) (by decide +kernel)
theorem wi_X8_bar : Cond.instanceMethod yX8_bar ∈ gtbl := gw 1082 _ (by decide +kernel) (by decide +kernel)
theorem ws_X8_bar : Cond.selects (yX8_bar).cls yX8_bar yX8_bar ∈ gtbl := gw 1083 _ (by decide +kernel) (by decide +kernel)
theorem mi_X8_bar : MI yX8_bar cX8_bar 4 (some .int) 2 := ⟨gw 1084 _ (by decide +kernel) (by decide +kernel), ⟨by decide +kernel, by decide +kernel⟩, by decide +kernel, gw 62 _ (by decide +kernel) (by decide +kernel)⟩
theorem ml_RL_163 : Cond.methodLink RL 163 yL_seal ∈ gtbl := gw 479 _ (by decide +kernel) (by decide +kernel)
theorem wt_L_seal : Cond.static yL_seal ∈ gtbl := gw 480 _ (by decide +kernel) (by decide +kernel)
theorem mw_L_seal : MW yL_seal cL_seal 5 (some .int) [(0, 17, 20, 13), (0, 17, 24, 17)] 4 := ⟨gw 481 _ (by decide +kernel) (by decide +kernel), ⟨by decide +kernel, by decide +kernel⟩, by decide +kernel, gw 60 _ (by decide +kernel) (by decide +kernel)⟩
theorem ml_RL_166 : Cond.methodLink RL 166 yX8_seal ∈ gtbl := gw 1089 _ (by decide +kernel) (by decide +kernel)
theorem wi_X8_seal : Cond.instanceMethod yX8_seal ∈ gtbl := gw 1090 _ (by decide +kernel) (by decide +kernel)
theorem ws_X8_seal : Cond.selects (yX8_seal).cls yX8_seal yX8_seal ∈ gtbl := gw 1091 _ (by decide +kernel) (by decide +kernel)
theorem mi_X8_seal : MI yX8_seal cX8_seal 5 (some .boolean) 2 := ⟨gw 1092 _ (by decide +kernel) (by decide +kernel), ⟨by decide +kernel, by decide +kernel⟩, by decide +kernel, gw 62 _ (by decide +kernel) (by decide +kernel)⟩
theorem ml_RL_167 : Cond.methodLink RL 167 yL_bring ∈ gtbl := gw 486 _ (by decide +kernel) (by decide +kernel)
theorem wt_L_bring : Cond.static yL_bring ∈ gtbl := gw 487 _ (by decide +kernel) (by decide +kernel)
theorem mw_L_bring : MW yL_bring cL_bring 5 (some .int) [(0, 10, 13, 13), (0, 10, 17, 17)] 4 := ⟨gw 488 _ (by decide +kernel) (by decide +kernel), ⟨by decide +kernel, by decide +kernel⟩, by decide +kernel, gw 60 _ (by decide +kernel) (by decide +kernel)⟩
theorem ml_RL_169 : Cond.methodLink RL 169 yX8_bring ∈ gtbl := gw 1093 _ (by decide +kernel) (by decide +kernel)
theorem wi_X8_bring : Cond.instanceMethod yX8_bring ∈ gtbl := gw 1094 _ (by decide +kernel) (by decide +kernel)
theorem ws_X8_bring : Cond.selects (yX8_bring).cls yX8_bring yX8_bring ∈ gtbl := gw 1095 _ (by decide +kernel) (by decide +kernel)
theorem mi_X8_bring : MI yX8_bring cX8_bring 5 (some .int) 2 := ⟨gw 1096 _ (by decide +kernel) (by decide +kernel), ⟨by decide +kernel, by decide +kernel⟩, by decide +kernel, gw 62 _ (by decide +kernel) (by decide +kernel)⟩
theorem ml_RL_170 : Cond.methodLink RL 170 yL_list ∈ gtbl := gw 493 _ (by decide +kernel) (by decide +kernel)
theorem wt_L_list : Cond.static yL_list ∈ gtbl := gw 494 _ (by decide +kernel) (by decide +kernel)
theorem mw_L_list : MW yL_list cL_list 3 (some .int) [(0, 5, 8, 13), (0, 5, 11, 17)] 2 := ⟨gw 495 _ (by decide +kernel) (by decide +kernel), ⟨by decide +kernel, by decide +kernel⟩, by decide +kernel, gw 60 _ (by decide +kernel) (by decide +kernel)⟩
theorem ml_RL_173 : Cond.methodLink RL 173 yX8_list ∈ gtbl := gw 1097 _ (by decide +kernel) (by decide +kernel)
theorem wi_X8_list : Cond.instanceMethod yX8_list ∈ gtbl := gw 1098 _ (by decide +kernel) (by decide +kernel)
theorem ws_X8_list : Cond.selects (yX8_list).cls yX8_list yX8_list ∈ gtbl := gw 1099 _ (by decide +kernel) (by decide +kernel)
theorem mi_X8_list : MI yX8_list cX8_list 3 none 1 := ⟨gw 1100 _ (by decide +kernel) (by decide +kernel), ⟨by decide +kernel, by decide +kernel⟩, by decide +kernel, gw 62 _ (by decide +kernel) (by decide +kernel)⟩
theorem ml_RL_174 : Cond.methodLink RL 174 yL_fail ∈ gtbl := gw 500 _ (by decide +kernel) (by decide +kernel)
theorem wt_L_fail : Cond.static yL_fail ∈ gtbl := gw 501 _ (by decide +kernel) (by decide +kernel)
theorem mw_L_fail : MW yL_fail cL_fail 4 (some .int) [(0, 9, 12, 13), (0, 9, 15, 17)] 3 := ⟨gw 502 _ (by decide +kernel) (by decide +kernel), ⟨by decide +kernel, by decide +kernel⟩, by decide +kernel, gw 60 _ (by decide +kernel) (by decide +kernel)⟩
theorem ml_RL_176 : Cond.methodLink RL 176 yX8_fail ∈ gtbl := gw 1101 _ (by decide +kernel) (by decide +kernel)
theorem wi_X8_fail : Cond.instanceMethod yX8_fail ∈ gtbl := gw 1102 _ (by decide +kernel) (by decide +kernel)
theorem ws_X8_fail : Cond.selects (yX8_fail).cls yX8_fail yX8_fail ∈ gtbl := gw 1103 _ (by decide +kernel) (by decide +kernel)
theorem mi_X8_fail : MI yX8_fail cX8_fail 5 (some .int) 1 := ⟨gw 1104 _ (by decide +kernel) (by decide +kernel), ⟨by decide +kernel, by decide +kernel⟩, by decide +kernel, gw 62 _ (by decide +kernel) (by decide +kernel)⟩
theorem ml_RL_177 : Cond.methodLink RL 177 yL_sell ∈ gtbl := gw 511 _ (by decide +kernel) (by decide +kernel)
theorem wt_L_sell : Cond.static yL_sell ∈ gtbl := gw 512 _ (by decide +kernel) (by decide +kernel)
theorem mw_L_sell : MW yL_sell cL_sell 7 (some .int) [(0, 14, 17, 13), (0, 14, 21, 15), (0, 14, 25, 17)] 6 := ⟨gw 513 _ (by decide +kernel) (by decide +kernel), ⟨by decide +kernel, by decide +kernel⟩, by decide +kernel, gw 60 _ (by decide +kernel) (by decide +kernel)⟩
theorem ml_RL_180 : Cond.methodLink RL 180 yX8_sell ∈ gtbl := gw 1105 _ (by decide +kernel) (by decide +kernel)
theorem wi_X8_sell : Cond.instanceMethod yX8_sell ∈ gtbl := gw 1106 _ (by decide +kernel) (by decide +kernel)
theorem ws_X8_sell : Cond.selects (yX8_sell).cls yX8_sell yX8_sell ∈ gtbl := gw 1107 _ (by decide +kernel) (by decide +kernel)
theorem mi_X8_sell : MI yX8_sell cX8_sell 6 (some .int) 4 := ⟨gw 1108 _ (by decide +kernel) (by decide +kernel), ⟨by decide +kernel, by decide +kernel⟩, by decide +kernel, gw 62 _ (by decide +kernel) (by decide +kernel)⟩
theorem ml_RL_181 : Cond.methodLink RL 181 yL_consign ∈ gtbl := gw 599 _ (by decide +kernel) (by decide +kernel)
theorem wt_L_consign : Cond.static yL_consign ∈ gtbl := gw 600 _ (by decide +kernel) (by decide +kernel)
theorem mw_L_consign : MW yL_consign cL_consign 7 (some .int) [(0, 11, 14, 13), (0, 11, 18, 15), (0, 11, 22, 17)] 6 := ⟨gw 601 _ (by decide +kernel) (by decide +kernel), ⟨by decide +kernel, by decide +kernel⟩, by decide +kernel, gw 60 _ (by decide +kernel) (by decide +kernel)⟩
theorem ml_RL_184 : Cond.methodLink RL 184 yX8_consign ∈ gtbl := gw 1141 _ (by decide +kernel) (by decide +kernel)
theorem wi_X8_consign : Cond.instanceMethod yX8_consign ∈ gtbl := gw 1142 _ (by decide +kernel) (by decide +kernel)
theorem ws_X8_consign : Cond.selects (yX8_consign).cls yX8_consign yX8_consign ∈ gtbl := gw 1143 _ (by decide +kernel) (by decide +kernel)
theorem mi_X8_consign : MI yX8_consign cX8_consign 9 none 5 := ⟨gw 1144 _ (by decide +kernel) (by decide +kernel), ⟨by decide +kernel, by decide +kernel⟩, by decide +kernel, gw 62 _ (by decide +kernel) (by decide +kernel)⟩
theorem ml_RL_185 : Cond.methodLink RL 185 yL_back ∈ gtbl := gw 630 _ (by decide +kernel) (by decide +kernel)
theorem wt_L_back : Cond.static yL_back ∈ gtbl := gw 631 _ (by decide +kernel) (by decide +kernel)
theorem mw_L_back : MW yL_back cL_back 4 (some .int) [(0, 9, 12, 13), (0, 9, 15, 17)] 3 := ⟨gw 632 _ (by decide +kernel) (by decide +kernel), ⟨by decide +kernel, by decide +kernel⟩, by decide +kernel, gw 60 _ (by decide +kernel) (by decide +kernel)⟩
theorem ml_RL_187 : Cond.methodLink RL 187 yX8_back ∈ gtbl := gw 1145 _ (by decide +kernel) (by decide +kernel)
theorem wi_X8_back : Cond.instanceMethod yX8_back ∈ gtbl := gw 1146 _ (by decide +kernel) (by decide +kernel)
theorem ws_X8_back : Cond.selects (yX8_back).cls yX8_back yX8_back ∈ gtbl := gw 1147 _ (by decide +kernel) (by decide +kernel)
theorem mi_X8_back : MI yX8_back cX8_back 4 (some .int) 1 := ⟨gw 1148 _ (by decide +kernel) (by decide +kernel), ⟨by decide +kernel, by decide +kernel⟩, by decide +kernel, gw 62 _ (by decide +kernel) (by decide +kernel)⟩
theorem ml_RL_188 : Cond.methodLink RL 188 yL_deal ∈ gtbl := gw 638 _ (by decide +kernel) (by decide +kernel)
theorem wt_L_deal : Cond.static yL_deal ∈ gtbl := gw 639 _ (by decide +kernel) (by decide +kernel)
theorem mw_L_deal : MW yL_deal cL_deal 6 (some .int) [(0, 12, 15, 13), (0, 12, 19, 15), (0, 12, 23, 17)] 5 := ⟨gw 640 _ (by decide +kernel) (by decide +kernel), ⟨by decide +kernel, by decide +kernel⟩, by decide +kernel, gw 60 _ (by decide +kernel) (by decide +kernel)⟩
theorem ml_RL_191 : Cond.methodLink RL 191 yX8_deal ∈ gtbl := gw 1149 _ (by decide +kernel) (by decide +kernel)
theorem wi_X8_deal : Cond.instanceMethod yX8_deal ∈ gtbl := gw 1150 _ (by decide +kernel) (by decide +kernel)
theorem ws_X8_deal : Cond.selects (yX8_deal).cls yX8_deal yX8_deal ∈ gtbl := gw 1151 _ (by decide +kernel) (by decide +kernel)
theorem mi_X8_deal : MI yX8_deal cX8_deal 7 (some .int) 3 := ⟨gw 1152 _ (by decide +kernel) (by decide +kernel), ⟨by decide +kernel, by decide +kernel⟩, by decide +kernel, gw 62 _ (by decide +kernel) (by decide +kernel)⟩
theorem ml_RL_192 : Cond.methodLink RL 192 yL_tell ∈ gtbl := gw 649 _ (by decide +kernel) (by decide +kernel)
theorem wt_L_tell : Cond.static yL_tell ∈ gtbl := gw 650 _ (by decide +kernel) (by decide +kernel)
theorem mw_L_tell : MW yL_tell cL_tell 6 (some .int) [(0, 19, 22, 13), (0, 19, 26, 17)] 5 := ⟨gw 651 _ (by decide +kernel) (by decide +kernel), ⟨by decide +kernel, by decide +kernel⟩, by decide +kernel, gw 60 _ (by decide +kernel) (by decide +kernel)⟩
theorem ml_RL_194 : Cond.methodLink RL 194 yX8_tell ∈ gtbl := gw 1153 _ (by decide +kernel) (by decide +kernel)
theorem wi_X8_tell : Cond.instanceMethod yX8_tell ∈ gtbl := gw 1154 _ (by decide +kernel) (by decide +kernel)
theorem ws_X8_tell : Cond.selects (yX8_tell).cls yX8_tell yX8_tell ∈ gtbl := gw 1155 _ (by decide +kernel) (by decide +kernel)
theorem mi_X8_tell : MI yX8_tell cX8_tell 6 (some .boolean) 3 := ⟨gw 1156 _ (by decide +kernel) (by decide +kernel), ⟨by decide +kernel, by decide +kernel⟩, by decide +kernel, gw 62 _ (by decide +kernel) (by decide +kernel)⟩
theorem ml_RL_195 : Cond.methodLink RL 195 yL_restore ∈ gtbl := gw 661 _ (by decide +kernel) (by decide +kernel)
theorem wt_L_restore : Cond.static yL_restore ∈ gtbl := gw 662 _ (by decide +kernel) (by decide +kernel)
theorem mw_L_restore : MW yL_restore cL_restore 5 (some .int) [(0, 10, 13, 13), (0, 10, 17, 17)] 4 := ⟨gw 663 _ (by decide +kernel) (by decide +kernel), ⟨by decide +kernel, by decide +kernel⟩, by decide +kernel, gw 60 _ (by decide +kernel) (by decide +kernel)⟩
theorem ml_RL_197 : Cond.methodLink RL 197 yX8_restore ∈ gtbl := gw 1161 _ (by decide +kernel) (by decide +kernel)
theorem wi_X8_restore : Cond.instanceMethod yX8_restore ∈ gtbl := gw 1162 _ (by decide +kernel) (by decide +kernel)
theorem ws_X8_restore : Cond.selects (yX8_restore).cls yX8_restore yX8_restore ∈ gtbl := gw 1163 _ (by decide +kernel) (by decide +kernel)
theorem mi_X8_restore : MI yX8_restore cX8_restore 6 (some .int) 2 := ⟨gw 1164 _ (by decide +kernel) (by decide +kernel), ⟨by decide +kernel, by decide +kernel⟩, by decide +kernel, gw 62 _ (by decide +kernel) (by decide +kernel)⟩
theorem ml_RL_198 : Cond.methodLink RL 198 yL_lend ∈ gtbl := gw 675 _ (by decide +kernel) (by decide +kernel)
theorem wt_L_lend : Cond.static yL_lend ∈ gtbl := gw 676 _ (by decide +kernel) (by decide +kernel)
theorem mw_L_lend : MW yL_lend cL_lend 8 (some .int) [(0, 16, 19, 13), (0, 16, 23, 15), (0, 16, 27, 17)] 7 := ⟨gw 677 _ (by decide +kernel) (by decide +kernel), ⟨by decide +kernel, by decide +kernel⟩, by decide +kernel, gw 60 _ (by decide +kernel) (by decide +kernel)⟩
theorem ml_RL_201 : Cond.methodLink RL 201 yX8_lend ∈ gtbl := gw 1169 _ (by decide +kernel) (by decide +kernel)
theorem wi_X8_lend : Cond.instanceMethod yX8_lend ∈ gtbl := gw 1170 _ (by decide +kernel) (by decide +kernel)
theorem ws_X8_lend : Cond.selects (yX8_lend).cls yX8_lend yX8_lend ∈ gtbl := gw 1171 _ (by decide +kernel) (by decide +kernel)
theorem mi_X8_lend : MI yX8_lend cX8_lend 8 (some .int) 5 := ⟨gw 1172 _ (by decide +kernel) (by decide +kernel), ⟨by decide +kernel, by decide +kernel⟩, by decide +kernel, gw 62 _ (by decide +kernel) (by decide +kernel)⟩
theorem ml_RL_202 : Cond.methodLink RL 202 yL_repay ∈ gtbl := gw 729 _ (by decide +kernel) (by decide +kernel)
theorem wt_L_repay : Cond.static yL_repay ∈ gtbl := gw 730 _ (by decide +kernel) (by decide +kernel)
theorem mw_L_repay : MW yL_repay cL_repay 4 (some .int) [(0, 9, 12, 13), (0, 9, 15, 17)] 3 := ⟨gw 731 _ (by decide +kernel) (by decide +kernel), ⟨by decide +kernel, by decide +kernel⟩, by decide +kernel, gw 60 _ (by decide +kernel) (by decide +kernel)⟩
theorem ml_RL_204 : Cond.methodLink RL 204 yX8_repay ∈ gtbl := gw 1189 _ (by decide +kernel) (by decide +kernel)
theorem wi_X8_repay : Cond.instanceMethod yX8_repay ∈ gtbl := gw 1190 _ (by decide +kernel) (by decide +kernel)
theorem ws_X8_repay : Cond.selects (yX8_repay).cls yX8_repay yX8_repay ∈ gtbl := gw 1191 _ (by decide +kernel) (by decide +kernel)
theorem mi_X8_repay : MI yX8_repay cX8_repay 6 (some .int) 1 := ⟨gw 1192 _ (by decide +kernel) (by decide +kernel), ⟨by decide +kernel, by decide +kernel⟩, by decide +kernel, gw 62 _ (by decide +kernel) (by decide +kernel)⟩
theorem ml_RL_205 : Cond.methodLink RL 205 yL_seize ∈ gtbl := gw 750 _ (by decide +kernel) (by decide +kernel)
theorem wt_L_seize : Cond.static yL_seize ∈ gtbl := gw 751 _ (by decide +kernel) (by decide +kernel)
theorem mw_L_seize : MW yL_seize cL_seize 4 (some .int) [(0, 9, 12, 13), (0, 9, 15, 17)] 3 := ⟨gw 752 _ (by decide +kernel) (by decide +kernel), ⟨by decide +kernel, by decide +kernel⟩, by decide +kernel, gw 60 _ (by decide +kernel) (by decide +kernel)⟩
theorem ml_RL_207 : Cond.methodLink RL 207 yX8_seize ∈ gtbl := gw 1206 _ (by decide +kernel) (by decide +kernel)
theorem wi_X8_seize : Cond.instanceMethod yX8_seize ∈ gtbl := gw 1207 _ (by decide +kernel) (by decide +kernel)
theorem ws_X8_seize : Cond.selects (yX8_seize).cls yX8_seize yX8_seize ∈ gtbl := gw 1208 _ (by decide +kernel) (by decide +kernel)
theorem mi_X8_seize : MI yX8_seize cX8_seize 5 (some .int) 1 := ⟨gw 1209 _ (by decide +kernel) (by decide +kernel), ⟨by decide +kernel, by decide +kernel⟩, by decide +kernel, gw 62 _ (by decide +kernel) (by decide +kernel)⟩
theorem ml_RL_208 : Cond.methodLink RL 208 yL_assign ∈ gtbl := gw 767 _ (by decide +kernel) (by decide +kernel)
theorem wt_L_assign : Cond.static yL_assign ∈ gtbl := gw 768 _ (by decide +kernel) (by decide +kernel)
theorem mw_L_assign : MW yL_assign cL_assign 6 (some .int) [(0, 12, 15, 13), (0, 12, 19, 15), (0, 12, 23, 17)] 5 := ⟨gw 769 _ (by decide +kernel) (by decide +kernel), ⟨by decide +kernel, by decide +kernel⟩, by decide +kernel, gw 60 _ (by decide +kernel) (by decide +kernel)⟩
theorem ml_RL_210 : Cond.methodLink RL 210 yX8_assign ∈ gtbl := gw 1216 _ (by decide +kernel) (by decide +kernel)
theorem wi_X8_assign : Cond.instanceMethod yX8_assign ∈ gtbl := gw 1217 _ (by decide +kernel) (by decide +kernel)
theorem ws_X8_assign : Cond.selects (yX8_assign).cls yX8_assign yX8_assign ∈ gtbl := gw 1218 _ (by decide +kernel) (by decide +kernel)
theorem mi_X8_assign : MI yX8_assign cX8_assign 8 (some .int) 3 := ⟨gw 1219 _ (by decide +kernel) (by decide +kernel), ⟨by decide +kernel, by decide +kernel⟩, by decide +kernel, gw 62 _ (by decide +kernel) (by decide +kernel)⟩
theorem ml_RL_211 : Cond.methodLink RL 211 yL_bars ∈ gtbl := gw 774 _ (by decide +kernel) (by decide +kernel)
theorem wt_L_bars : Cond.static yL_bars ∈ gtbl := gw 775 _ (by decide +kernel) (by decide +kernel)
theorem mw_L_bars : MW yL_bars cL_bars 7 (some .int) [(0, 14, 17, 13), (0, 14, 21, 15)] 6 := ⟨gw 776 _ (by decide +kernel) (by decide +kernel), ⟨by decide +kernel, by decide +kernel⟩, by decide +kernel, gw 60 _ (by decide +kernel) (by decide +kernel)⟩
theorem ml_RL_213 : Cond.methodLink RL 213 yX8_bars ∈ gtbl := gw 1133 _ (by decide +kernel) (by decide +kernel)
theorem wi_X8_bars : Cond.instanceMethod yX8_bars ∈ gtbl := gw 1134 _ (by decide +kernel) (by decide +kernel)
theorem ws_X8_bars : Cond.selects (yX8_bars).cls yX8_bars yX8_bars ∈ gtbl := gw 1135 _ (by decide +kernel) (by decide +kernel)
theorem mi_X8_bars : MI yX8_bars cX8_bars 5 (some .int) 4 := ⟨gw 1136 _ (by decide +kernel) (by decide +kernel), ⟨by decide +kernel, by decide +kernel⟩, by decide +kernel, gw 62 _ (by decide +kernel) (by decide +kernel)⟩
theorem ml_RL_214 : Cond.methodLink RL 214 yL_barredBy ∈ gtbl := gw 781 _ (by decide +kernel) (by decide +kernel)
theorem wt_L_barredBy : Cond.static yL_barredBy ∈ gtbl := gw 782 _ (by decide +kernel) (by decide +kernel)
theorem mw_L_barredBy : MW yL_barredBy cL_barredBy 7 (some .int) [(0, 14, 17, 13), (0, 14, 21, 15)] 6 := ⟨gw 783 _ (by decide +kernel) (by decide +kernel), ⟨by decide +kernel, by decide +kernel⟩, by decide +kernel, gw 60 _ (by decide +kernel) (by decide +kernel)⟩
theorem ml_RL_216 : Cond.methodLink RL 216 yX8_barredBy ∈ gtbl := gw 1137 _ (by decide +kernel) (by decide +kernel)
theorem wi_X8_barredBy : Cond.instanceMethod yX8_barredBy ∈ gtbl := gw 1138 _ (by decide +kernel) (by decide +kernel)
theorem ws_X8_barredBy : Cond.selects (yX8_barredBy).cls yX8_barredBy yX8_barredBy ∈ gtbl := gw 1139 _ (by decide +kernel) (by decide +kernel)
theorem mi_X8_barredBy : MI yX8_barredBy cX8_barredBy 5 (some .int) 4 := ⟨gw 1140 _ (by decide +kernel) (by decide +kernel), ⟨by decide +kernel, by decide +kernel⟩, by decide +kernel, gw 62 _ (by decide +kernel) (by decide +kernel)⟩
theorem ml_RL_217 : Cond.methodLink RL 217 yL_price ∈ gtbl := gw 791 _ (by decide +kernel) (by decide +kernel)
theorem wt_L_price : Cond.static yL_price ∈ gtbl := gw 792 _ (by decide +kernel) (by decide +kernel)
theorem mw_L_price : MW yL_price cL_price 5 (some .int) [(0, 10, 13, 13)] 4 := ⟨gw 793 _ (by decide +kernel) (by decide +kernel), ⟨by decide +kernel, by decide +kernel⟩, by decide +kernel, gw 60 _ (by decide +kernel) (by decide +kernel)⟩
theorem ml_RL_219 : Cond.methodLink RL 219 yX8_price ∈ gtbl := gw 1220 _ (by decide +kernel) (by decide +kernel)
theorem wi_X8_price : Cond.instanceMethod yX8_price ∈ gtbl := gw 1221 _ (by decide +kernel) (by decide +kernel)
theorem ws_X8_price : Cond.selects (yX8_price).cls yX8_price yX8_price ∈ gtbl := gw 1222 _ (by decide +kernel) (by decide +kernel)
theorem mi_X8_price : MI yX8_price cX8_price 4 (some .int) 2 := ⟨gw 1223 _ (by decide +kernel) (by decide +kernel), ⟨by decide +kernel, by decide +kernel⟩, by decide +kernel, gw 62 _ (by decide +kernel) (by decide +kernel)⟩
theorem ml_RL_220 : Cond.methodLink RL 220 yL_ofParty ∈ gtbl := gw 798 _ (by decide +kernel) (by decide +kernel)
theorem wt_L_ofParty : Cond.static yL_ofParty ∈ gtbl := gw 799 _ (by decide +kernel) (by decide +kernel)
theorem mw_L_ofParty : MW yL_ofParty cL_ofParty 5 (some .int) [(0, 10, 13, 13), (0, 10, 17, 15)] 4 := ⟨gw 800 _ (by decide +kernel) (by decide +kernel), ⟨by decide +kernel, by decide +kernel⟩, by decide +kernel, gw 60 _ (by decide +kernel) (by decide +kernel)⟩
theorem ml_RL_222 : Cond.methodLink RL 222 yX8_ofParty ∈ gtbl := gw 1224 _ (by decide +kernel) (by decide +kernel)
theorem wi_X8_ofParty : Cond.instanceMethod yX8_ofParty ∈ gtbl := gw 1225 _ (by decide +kernel) (by decide +kernel)
theorem ws_X8_ofParty : Cond.selects (yX8_ofParty).cls yX8_ofParty yX8_ofParty ∈ gtbl := gw 1226 _ (by decide +kernel) (by decide +kernel)
theorem mi_X8_ofParty : MI yX8_ofParty cX8_ofParty 5 (some .int) 2 := ⟨gw 1227 _ (by decide +kernel) (by decide +kernel), ⟨by decide +kernel, by decide +kernel⟩, by decide +kernel, gw 62 _ (by decide +kernel) (by decide +kernel)⟩
theorem ml_RL_223 : Cond.methodLink RL 223 yL_ofWork ∈ gtbl := gw 830 _ (by decide +kernel) (by decide +kernel)
theorem wt_L_ofWork : Cond.static yL_ofWork ∈ gtbl := gw 831 _ (by decide +kernel) (by decide +kernel)
theorem mw_L_ofWork : MW yL_ofWork cL_ofWork 5 (some .int) [(0, 10, 13, 13), (0, 10, 17, 15)] 4 := ⟨gw 832 _ (by decide +kernel) (by decide +kernel), ⟨by decide +kernel, by decide +kernel⟩, by decide +kernel, gw 60 _ (by decide +kernel) (by decide +kernel)⟩
theorem ml_RL_225 : Cond.methodLink RL 225 yX8_ofWork ∈ gtbl := gw 1236 _ (by decide +kernel) (by decide +kernel)
theorem wi_X8_ofWork : Cond.instanceMethod yX8_ofWork ∈ gtbl := gw 1237 _ (by decide +kernel) (by decide +kernel)
theorem ws_X8_ofWork : Cond.selects (yX8_ofWork).cls yX8_ofWork yX8_ofWork ∈ gtbl := gw 1238 _ (by decide +kernel) (by decide +kernel)
theorem mi_X8_ofWork : MI yX8_ofWork cX8_ofWork 5 (some .int) 2 := ⟨gw 1239 _ (by decide +kernel) (by decide +kernel), ⟨by decide +kernel, by decide +kernel⟩, by decide +kernel, gw 62 _ (by decide +kernel) (by decide +kernel)⟩
theorem ml_RL_226 : Cond.methodLink RL 226 yL_ofLot ∈ gtbl := gw 842 _ (by decide +kernel) (by decide +kernel)
theorem wt_L_ofLot : Cond.static yL_ofLot ∈ gtbl := gw 843 _ (by decide +kernel) (by decide +kernel)
theorem mw_L_ofLot : MW yL_ofLot cL_ofLot 5 (some .int) [(0, 10, 13, 13), (0, 10, 17, 15)] 4 := ⟨gw 844 _ (by decide +kernel) (by decide +kernel), ⟨by decide +kernel, by decide +kernel⟩, by decide +kernel, gw 60 _ (by decide +kernel) (by decide +kernel)⟩
theorem ml_RL_228 : Cond.methodLink RL 228 yX8_ofLot ∈ gtbl := gw 1240 _ (by decide +kernel) (by decide +kernel)
theorem wi_X8_ofLot : Cond.instanceMethod yX8_ofLot ∈ gtbl := gw 1241 _ (by decide +kernel) (by decide +kernel)
theorem ws_X8_ofLot : Cond.selects (yX8_ofLot).cls yX8_ofLot yX8_ofLot ∈ gtbl := gw 1242 _ (by decide +kernel) (by decide +kernel)
theorem mi_X8_ofLot : MI yX8_ofLot cX8_ofLot 3 (some .int) 2 := ⟨gw 1243 _ (by decide +kernel) (by decide +kernel), ⟨by decide +kernel, by decide +kernel⟩, by decide +kernel, gw 62 _ (by decide +kernel) (by decide +kernel)⟩
theorem ml_RL_229 : Cond.methodLink RL 229 yL_ofLoan ∈ gtbl := gw 854 _ (by decide +kernel) (by decide +kernel)
theorem wt_L_ofLoan : Cond.static yL_ofLoan ∈ gtbl := gw 855 _ (by decide +kernel) (by decide +kernel)
theorem mw_L_ofLoan : MW yL_ofLoan cL_ofLoan 5 (some .int) [(0, 10, 13, 13), (0, 10, 17, 15)] 4 := ⟨gw 856 _ (by decide +kernel) (by decide +kernel), ⟨by decide +kernel, by decide +kernel⟩, by decide +kernel, gw 60 _ (by decide +kernel) (by decide +kernel)⟩
theorem ml_RL_231 : Cond.methodLink RL 231 yX8_ofLoan ∈ gtbl := gw 1248 _ (by decide +kernel) (by decide +kernel)
theorem wi_X8_ofLoan : Cond.instanceMethod yX8_ofLoan ∈ gtbl := gw 1249 _ (by decide +kernel) (by decide +kernel)
theorem ws_X8_ofLoan : Cond.selects (yX8_ofLoan).cls yX8_ofLoan yX8_ofLoan ∈ gtbl := gw 1250 _ (by decide +kernel) (by decide +kernel)
theorem mi_X8_ofLoan : MI yX8_ofLoan cX8_ofLoan 3 (some .int) 2 := ⟨gw 1251 _ (by decide +kernel) (by decide +kernel), ⟨by decide +kernel, by decide +kernel⟩, by decide +kernel, gw 62 _ (by decide +kernel) (by decide +kernel)⟩
theorem ml_RL_232 : Cond.methodLink RL 232 yL_doubt ∈ gtbl := gw 861 _ (by decide +kernel) (by decide +kernel)
theorem wt_L_doubt : Cond.static yL_doubt ∈ gtbl := gw 862 _ (by decide +kernel) (by decide +kernel)
theorem mw_L_doubt : MW yL_doubt cL_doubt 5 (some .int) [(0, 10, 13, 13), (0, 10, 17, 15)] 4 := ⟨gw 863 _ (by decide +kernel) (by decide +kernel), ⟨by decide +kernel, by decide +kernel⟩, by decide +kernel, gw 60 _ (by decide +kernel) (by decide +kernel)⟩
theorem ml_RL_234 : Cond.methodLink RL 234 yX8_doubt ∈ gtbl := gw 1252 _ (by decide +kernel) (by decide +kernel)
theorem wi_X8_doubt : Cond.instanceMethod yX8_doubt ∈ gtbl := gw 1253 _ (by decide +kernel) (by decide +kernel)
theorem ws_X8_doubt : Cond.selects (yX8_doubt).cls yX8_doubt yX8_doubt ∈ gtbl := gw 1254 _ (by decide +kernel) (by decide +kernel)
theorem mi_X8_doubt : MI yX8_doubt cX8_doubt 3 (some .int) 2 := ⟨gw 1255 _ (by decide +kernel) (by decide +kernel), ⟨by decide +kernel, by decide +kernel⟩, by decide +kernel, gw 62 _ (by decide +kernel) (by decide +kernel)⟩
theorem ml_RL_235 : Cond.methodLink RL 235 yL_gaps ∈ gtbl := gw 869 _ (by decide +kernel) (by decide +kernel)
theorem wt_L_gaps : Cond.static yL_gaps ∈ gtbl := gw 870 _ (by decide +kernel) (by decide +kernel)
theorem mw_L_gaps : MW yL_gaps cL_gaps 6 (some .int) [(0, 12, 15, 13), (0, 12, 19, 15)] 5 := ⟨gw 871 _ (by decide +kernel) (by decide +kernel), ⟨by decide +kernel, by decide +kernel⟩, by decide +kernel, gw 60 _ (by decide +kernel) (by decide +kernel)⟩
theorem ml_RL_237 : Cond.methodLink RL 237 yX8_gaps ∈ gtbl := gw 1256 _ (by decide +kernel) (by decide +kernel)
theorem wi_X8_gaps : Cond.instanceMethod yX8_gaps ∈ gtbl := gw 1257 _ (by decide +kernel) (by decide +kernel)
theorem ws_X8_gaps : Cond.selects (yX8_gaps).cls yX8_gaps yX8_gaps ∈ gtbl := gw 1258 _ (by decide +kernel) (by decide +kernel)
theorem mi_X8_gaps : MI yX8_gaps cX8_gaps 8 (some .int) 3 := ⟨gw 1259 _ (by decide +kernel) (by decide +kernel), ⟨by decide +kernel, by decide +kernel⟩, by decide +kernel, gw 62 _ (by decide +kernel) (by decide +kernel)⟩
theorem ml_RL_238 : Cond.methodLink RL 238 yX7_index ∈ gtbl := gw 126 _ (by decide +kernel) (by decide +kernel)
theorem wi_X7_index : Cond.instanceMethod yX7_index ∈ gtbl := gw 127 _ (by decide +kernel) (by decide +kernel)
theorem ws_X7_index : Cond.selects (yX7_index).cls yX7_index yX7_index ∈ gtbl := gw 128 _ (by decide +kernel) (by decide +kernel)
theorem mi_X7_index : MI yX7_index cX7_index 7 (some .long) 0 := ⟨gw 129 _ (by decide +kernel) (by decide +kernel), ⟨by decide +kernel, by decide +kernel⟩, by decide +kernel, gw 61 _ (by decide +kernel) (by decide +kernel)⟩
theorem ml_RL_242 : Cond.methodLink RL 242 yX8_index ∈ gtbl := gw 1260 _ (by decide +kernel) (by decide +kernel)
theorem wi_X8_index : Cond.instanceMethod yX8_index ∈ gtbl := gw 1261 _ (by decide +kernel) (by decide +kernel)
theorem ws_X8_index : Cond.selects (yX8_index).cls yX8_index yX8_index ∈ gtbl := gw 1262 _ (by decide +kernel) (by decide +kernel)
theorem mi_X8_index : MI yX8_index cX8_index 6 (some .long) 0 := ⟨gw 1263 _ (by decide +kernel) (by decide +kernel), ⟨by decide +kernel, by decide +kernel⟩, by decide +kernel, gw 62 _ (by decide +kernel) (by decide +kernel)⟩
theorem fn_RL_8 : FN RL 8 7 := ⟨by decide, _, rfl, gw 78 _ (by decide +kernel) (by decide +kernel), gw 79 _ (by decide +kernel) (by decide +kernel), gw 61 _ (by decide +kernel) (by decide +kernel)⟩
theorem ml_RL_122 : Cond.methodLink RL 122 yX7_init ∈ gtbl := gw 80 _ (by decide +kernel) (by decide +kernel)
theorem wi_X7_init : Cond.instanceMethod yX7_init ∈ gtbl := gw 81 _ (by decide +kernel) (by decide +kernel)
theorem mi_X7_init : MI yX7_init cX7_init 1 none 0 := ⟨gw 82 _ (by decide +kernel) (by decide +kernel), ⟨by decide +kernel, by decide +kernel⟩, by decide +kernel, gw 61 _ (by decide +kernel) (by decide +kernel)⟩
theorem fn_RL_123 : FN RL 123 8 := ⟨by decide, _, rfl, gw 876 _ (by decide +kernel) (by decide +kernel), gw 877 _ (by decide +kernel) (by decide +kernel), gw 62 _ (by decide +kernel) (by decide +kernel)⟩
theorem ml_RL_125 : Cond.methodLink RL 125 yX8_init ∈ gtbl := gw 878 _ (by decide +kernel) (by decide +kernel)
theorem wi_X8_init : Cond.instanceMethod yX8_init ∈ gtbl := gw 879 _ (by decide +kernel) (by decide +kernel)
theorem mi_X8_init : MI yX8_init cX8_init 1 none 0 := ⟨gw 880 _ (by decide +kernel) (by decide +kernel), ⟨by decide +kernel, by decide +kernel⟩, by decide +kernel, gw 62 _ (by decide +kernel) (by decide +kernel)⟩
theorem hx_L_party : HX RL cL_party 5 5 [(0, 10, 13, 13), (0, 10, 17, 15), (0, 10, 21, 17)] [1, 2, 3] := fun j e h => match j, h with
  | 0, h => by cases h; exact ⟨_, rfl, rfl, by decide, gw 145 _ (by decide +kernel) (by decide +kernel), gw 157 _ (by decide +kernel) (by decide +kernel), (fun z hz => by cases hz), ⟨rfl, Or.inl ⟨4, (Nat.le_of_ble_eq_true rfl), dL_party_13, dL_party_15, dL_party_16⟩⟩⟩
  | 1, h => by cases h; exact ⟨_, rfl, rfl, by decide, gw 146 _ (by decide +kernel) (by decide +kernel), gw 229 _ (by decide +kernel) (by decide +kernel), (List.forall_mem_cons.mpr ⟨⟨by decide, "java/lang/IndexOutOfBoundsException", gw 145 _ (by decide +kernel) (by decide +kernel), by decide +kernel⟩, (fun z hz => by cases hz)⟩), ⟨rfl, Or.inl ⟨4, (Nat.le_of_ble_eq_true rfl), dL_party_17, dL_party_19, dL_party_20⟩⟩⟩
  | 2, h => by cases h; exact ⟨_, rfl, rfl, by decide, gw 147 _ (by decide +kernel) (by decide +kernel), gw 248 _ (by decide +kernel) (by decide +kernel), (List.forall_mem_cons.mpr ⟨⟨by decide, "java/lang/IndexOutOfBoundsException", gw 145 _ (by decide +kernel) (by decide +kernel), by decide +kernel⟩, (List.forall_mem_cons.mpr ⟨⟨by decide, "java/lang/IllegalArgumentException", gw 146 _ (by decide +kernel) (by decide +kernel), by decide +kernel⟩, (fun z hz => by cases hz)⟩)⟩), ⟨rfl, Or.inl ⟨4, (Nat.le_of_ble_eq_true rfl), dL_party_21, dL_party_23, dL_party_24⟩⟩⟩
  | n + 3, h => by cases h
def sp_L_party (a0 a1 a2 a3 : Int) (v : V) : Res := (chk (0 ≤ a0) (rBx (sp_X7_party a0 a1 a2 v) (fun z1 v1 => (chk (0 ≤ a3) (rLet (up v1 9 a3 0 z1) (fun v4 => (rOk 0 v4))))) (kxAt 1 [1, 2, 3])))
set_option maxRecDepth 100000 in
set_option maxHeartbeats 4000000 in
theorem k_L_party (a0 a1 a2 a3 : Int) (x : Cx) (v : V) (F : Fx x cL_party RL "party" ({ frames := 8, cells := 4, slots := 24, locals := 127 }) 5 (some 0) (some .int) 2) (hTb : Tb x [(0, 10, 13, 13), (0, 10, 17, 15), (0, 10, 21, 17)]) (ho : ∀ a ∈ [(17, a0), (0, a1), (0, a2), (19, a3)], okv v a) : Gs x (sp_L_party a0 a1 a2 a3 v) v 0 0 0 (avArgs 0 [(17, a0), (0, a1), (0, a2), (19, a3)]) [] := by
  show Gs x _ v 0 0 0 [(0, (17, a0)), (1, (0, a1)), (2, (0, a2)), (3, (19, a3))] []
  unfold sp_L_party
  refine g_aload_n F rfl 3 rfl dL_party_0 ?_
  refine g_iconst F 2 rfl dL_party_1 ?_
  refine g_aload_n F rfl 0 rfl dL_party_2 ?_
  refine g_iload_n F rfl 1 rfl rfl dL_party_3 ?_
  refine g_iload_n F rfl 2 rfl rfl dL_party_4 ?_
  refine g_chk (fun n2 => ?_)
  refine g_callX F hTb hx_L_party (K := 7) (b := a0) [(0, a1), (0, a2)] [0, 0] ml_RL_7 wi_X7_party ws_X7_party (c_X7_party a0 a1 a2 (Int.not_lt.mp (Int.not_lt.mpr n2))) mi_X7_party (by decide) ⟨_, rfl, rfl⟩ (Int.not_lt.mp (Int.not_lt.mpr n2)) rfl rfl rfl (Nat.le_of_ble_eq_true rfl) (Nat.le_of_ble_eq_true rfl) (Nat.le_of_ble_eq_true rfl) (Nat.le_of_ble_eq_true rfl) (Nat.le_of_ble_eq_true rfl) dL_party_5 (fun z1 v1 hz1 => ?_)
  refine g_i2l F rfl dL_party_8 ?_
  refine g_chk (fun n3 => ?_)
  refine h_last F (n := 1) ak_9 rfl (Int.not_lt.mp (Int.not_lt.mpr n3)) (by decide) rfl dL_party_9 (fun v4 => ?_)
  refine g_goto F (tgt := 25) rfl dL_party_10 ?_
  refine g_iconst F 2 rfl dL_party_25 ?_
  exact g_ireturn F rfl rfl rfl rfl (Nat.le_of_ble_eq_true rfl) (Nat.le_of_ble_eq_true rfl) dL_party_26
theorem c_L_party (a0 a1 a2 a3 : Int) : ∀ l, CtW l yL_party cL_party 5 (some .int) [(0, 10, 13, 13), (0, 10, 17, 15), (0, 10, 21, 17)] ({ frames := 8, cells := 4, slots := 24, locals := 127 }) (some 0) [(17, a0), (0, a1), (0, a2), (19, a3)] (sp_L_party a0 a1 a2 a3) := g_methodW (by decide +kernel) (Nat.le_of_ble_eq_true rfl) (fun x v F hT ho => k_L_party a0 a1 a2 a3 x v F hT ho)
theorem hx_L_work : HX RL cL_work 5 5 [(0, 10, 13, 13), (0, 10, 17, 15), (0, 10, 21, 17)] [1, 2, 3] := fun j e h => match j, h with
  | 0, h => by cases h; exact ⟨_, rfl, rfl, by decide, gw 145 _ (by decide +kernel) (by decide +kernel), gw 157 _ (by decide +kernel) (by decide +kernel), (fun z hz => by cases hz), ⟨rfl, Or.inl ⟨4, (Nat.le_of_ble_eq_true rfl), dL_work_13, dL_work_15, dL_work_16⟩⟩⟩
  | 1, h => by cases h; exact ⟨_, rfl, rfl, by decide, gw 146 _ (by decide +kernel) (by decide +kernel), gw 229 _ (by decide +kernel) (by decide +kernel), (List.forall_mem_cons.mpr ⟨⟨by decide, "java/lang/IndexOutOfBoundsException", gw 145 _ (by decide +kernel) (by decide +kernel), by decide +kernel⟩, (fun z hz => by cases hz)⟩), ⟨rfl, Or.inl ⟨4, (Nat.le_of_ble_eq_true rfl), dL_work_17, dL_work_19, dL_work_20⟩⟩⟩
  | 2, h => by cases h; exact ⟨_, rfl, rfl, by decide, gw 147 _ (by decide +kernel) (by decide +kernel), gw 248 _ (by decide +kernel) (by decide +kernel), (List.forall_mem_cons.mpr ⟨⟨by decide, "java/lang/IndexOutOfBoundsException", gw 145 _ (by decide +kernel) (by decide +kernel), by decide +kernel⟩, (List.forall_mem_cons.mpr ⟨⟨by decide, "java/lang/IllegalArgumentException", gw 146 _ (by decide +kernel) (by decide +kernel), by decide +kernel⟩, (fun z hz => by cases hz)⟩)⟩), ⟨rfl, Or.inl ⟨4, (Nat.le_of_ble_eq_true rfl), dL_work_21, dL_work_23, dL_work_24⟩⟩⟩
  | n + 3, h => by cases h
def sp_L_work (a0 a1 a2 a3 : Int) (v : V) : Res := (chk (0 ≤ a0) (rBx (sp_X7_work a0 a1 a2 v) (fun z1 v1 => (chk (0 ≤ a3) (rLet (up v1 9 a3 0 z1) (fun v4 => (rOk 0 v4))))) (kxAt 1 [1, 2, 3])))
set_option maxRecDepth 100000 in
set_option maxHeartbeats 4000000 in
theorem k_L_work (a0 a1 a2 a3 : Int) (x : Cx) (v : V) (F : Fx x cL_work RL "work" ({ frames := 8, cells := 7, slots := 187, locals := 128 }) 5 (some 0) (some .int) 2) (hTb : Tb x [(0, 10, 13, 13), (0, 10, 17, 15), (0, 10, 21, 17)]) (ho : ∀ a ∈ [(17, a0), (0, a1), (0, a2), (19, a3)], okv v a) : Gs x (sp_L_work a0 a1 a2 a3 v) v 0 0 0 (avArgs 0 [(17, a0), (0, a1), (0, a2), (19, a3)]) [] := by
  show Gs x _ v 0 0 0 [(0, (17, a0)), (1, (0, a1)), (2, (0, a2)), (3, (19, a3))] []
  unfold sp_L_work
  refine g_aload_n F rfl 3 rfl dL_work_0 ?_
  refine g_iconst F 2 rfl dL_work_1 ?_
  refine g_aload_n F rfl 0 rfl dL_work_2 ?_
  refine g_iload_n F rfl 1 rfl rfl dL_work_3 ?_
  refine g_iload_n F rfl 2 rfl rfl dL_work_4 ?_
  refine g_chk (fun n2 => ?_)
  refine g_callX F hTb hx_L_work (K := 7) (b := a0) [(0, a1), (0, a2)] [0, 0] ml_RL_19 wi_X7_work ws_X7_work (c_X7_work a0 a1 a2 (Int.not_lt.mp (Int.not_lt.mpr n2))) mi_X7_work (by decide) ⟨_, rfl, rfl⟩ (Int.not_lt.mp (Int.not_lt.mpr n2)) rfl rfl rfl (Nat.le_of_ble_eq_true rfl) (Nat.le_of_ble_eq_true rfl) (Nat.le_of_ble_eq_true rfl) (Nat.le_of_ble_eq_true rfl) (Nat.le_of_ble_eq_true rfl) dL_work_5 (fun z1 v1 hz1 => ?_)
  refine g_i2l F rfl dL_work_8 ?_
  refine g_chk (fun n3 => ?_)
  refine h_last F (n := 1) ak_9 rfl (Int.not_lt.mp (Int.not_lt.mpr n3)) (by decide) rfl dL_work_9 (fun v4 => ?_)
  refine g_goto F (tgt := 25) rfl dL_work_10 ?_
  refine g_iconst F 2 rfl dL_work_25 ?_
  exact g_ireturn F rfl rfl rfl rfl (Nat.le_of_ble_eq_true rfl) (Nat.le_of_ble_eq_true rfl) dL_work_26
theorem c_L_work (a0 a1 a2 a3 : Int) : ∀ l, CtW l yL_work cL_work 5 (some .int) [(0, 10, 13, 13), (0, 10, 17, 15), (0, 10, 21, 17)] ({ frames := 8, cells := 7, slots := 187, locals := 128 }) (some 0) [(17, a0), (0, a1), (0, a2), (19, a3)] (sp_L_work a0 a1 a2 a3) := g_methodW (by decide +kernel) (Nat.le_of_ble_eq_true rfl) (fun x v F hT ho => k_L_work a0 a1 a2 a3 x v F hT ho)
theorem hx_L_value : HX RL cL_value 5 5 [(0, 10, 13, 13), (0, 10, 17, 15)] [1, 2] := fun j e h => match j, h with
  | 0, h => by cases h; exact ⟨_, rfl, rfl, by decide, gw 145 _ (by decide +kernel) (by decide +kernel), gw 157 _ (by decide +kernel) (by decide +kernel), (fun z hz => by cases hz), ⟨rfl, Or.inl ⟨4, (Nat.le_of_ble_eq_true rfl), dL_value_13, dL_value_15, dL_value_16⟩⟩⟩
  | 1, h => by cases h; exact ⟨_, rfl, rfl, by decide, gw 146 _ (by decide +kernel) (by decide +kernel), gw 229 _ (by decide +kernel) (by decide +kernel), (List.forall_mem_cons.mpr ⟨⟨by decide, "java/lang/IndexOutOfBoundsException", gw 145 _ (by decide +kernel) (by decide +kernel), by decide +kernel⟩, (fun z hz => by cases hz)⟩), ⟨rfl, Or.inl ⟨4, (Nat.le_of_ble_eq_true rfl), dL_value_17, dL_value_19, dL_value_20⟩⟩⟩
  | n + 2, h => by cases h
def sp_L_value (a0 a1 a2 a3 : Int) (v : V) : Res := (chk (0 ≤ a0) (rBx (sp_X7_value a0 a1 a2 v) (fun z1 v1 => (chk (0 ≤ a3) (rLet (up v1 9 a3 0 z1) (fun v4 => (rOk 0 v4))))) (kxAt 1 [1, 2])))
set_option maxRecDepth 100000 in
set_option maxHeartbeats 4000000 in
theorem k_L_value (a0 a1 a2 a3 : Int) (x : Cx) (v : V) (F : Fx x cL_value RL "value" ({ frames := 8, cells := 2, slots := 12, locals := 128 }) 5 (some 0) (some .int) 2) (hTb : Tb x [(0, 10, 13, 13), (0, 10, 17, 15)]) (ho : ∀ a ∈ [(17, a0), (0, a1), (0, a2), (19, a3)], okv v a) : Gs x (sp_L_value a0 a1 a2 a3 v) v 0 0 0 (avArgs 0 [(17, a0), (0, a1), (0, a2), (19, a3)]) [] := by
  show Gs x _ v 0 0 0 [(0, (17, a0)), (1, (0, a1)), (2, (0, a2)), (3, (19, a3))] []
  unfold sp_L_value
  refine g_aload_n F rfl 3 rfl dL_value_0 ?_
  refine g_iconst F 2 rfl dL_value_1 ?_
  refine g_aload_n F rfl 0 rfl dL_value_2 ?_
  refine g_iload_n F rfl 1 rfl rfl dL_value_3 ?_
  refine g_iload_n F rfl 2 rfl rfl dL_value_4 ?_
  refine g_chk (fun n2 => ?_)
  refine g_callX F hTb hx_L_value (K := 7) (b := a0) [(0, a1), (0, a2)] [0, 0] ml_RL_22 wi_X7_value ws_X7_value (c_X7_value a0 a1 a2 (Int.not_lt.mp (Int.not_lt.mpr n2))) mi_X7_value (by decide) ⟨_, rfl, rfl⟩ (Int.not_lt.mp (Int.not_lt.mpr n2)) rfl rfl rfl (Nat.le_of_ble_eq_true rfl) (Nat.le_of_ble_eq_true rfl) (Nat.le_of_ble_eq_true rfl) (Nat.le_of_ble_eq_true rfl) (Nat.le_of_ble_eq_true rfl) dL_value_5 (fun z1 v1 hz1 => ?_)
  refine g_i2l F rfl dL_value_8 ?_
  refine g_chk (fun n3 => ?_)
  refine h_last F (n := 1) ak_9 rfl (Int.not_lt.mp (Int.not_lt.mpr n3)) (by decide) rfl dL_value_9 (fun v4 => ?_)
  refine g_goto F (tgt := 21) rfl dL_value_10 ?_
  refine g_iconst F 2 rfl dL_value_21 ?_
  exact g_ireturn F rfl rfl rfl rfl (Nat.le_of_ble_eq_true rfl) (Nat.le_of_ble_eq_true rfl) dL_value_22
theorem c_L_value (a0 a1 a2 a3 : Int) : ∀ l, CtW l yL_value cL_value 5 (some .int) [(0, 10, 13, 13), (0, 10, 17, 15)] ({ frames := 8, cells := 2, slots := 12, locals := 128 }) (some 0) [(17, a0), (0, a1), (0, a2), (19, a3)] (sp_L_value a0 a1 a2 a3) := g_methodW (by decide +kernel) (Nat.le_of_ble_eq_true rfl) (fun x v F hT ho => k_L_value a0 a1 a2 a3 x v F hT ho)
theorem hx_L_pass : HX RL cL_pass 4 4 [(0, 9, 12, 15), (0, 9, 15, 17)] [2, 3] := fun j e h => match j, h with
  | 0, h => by cases h; exact ⟨_, rfl, rfl, by decide, gw 146 _ (by decide +kernel) (by decide +kernel), gw 229 _ (by decide +kernel) (by decide +kernel), (fun z hz => by cases hz), ⟨rfl, Or.inr ⟨3, (Nat.le_of_ble_eq_true rfl), dL_pass_12, dL_pass_13, dL_pass_14⟩⟩⟩
  | 1, h => by cases h; exact ⟨_, rfl, rfl, by decide, gw 147 _ (by decide +kernel) (by decide +kernel), gw 248 _ (by decide +kernel) (by decide +kernel), (List.forall_mem_cons.mpr ⟨⟨by decide, "java/lang/IllegalArgumentException", gw 146 _ (by decide +kernel) (by decide +kernel), by decide +kernel⟩, (fun z hz => by cases hz)⟩), ⟨rfl, Or.inr ⟨3, (Nat.le_of_ble_eq_true rfl), dL_pass_15, dL_pass_16, dL_pass_17⟩⟩⟩
  | n + 2, h => by cases h
def sp_L_pass (a0 a1 a2 : Int) (v : V) : Res := (chk (0 ≤ a0) (rBx (sp_X7_pass a0 a1 v) (fun z1 v1 => (chk (0 ≤ a2) (rLet (up v1 9 a2 0 z1) (fun v4 => (rOk 0 v4))))) (kxAt 1 [2, 3])))
set_option maxRecDepth 100000 in
set_option maxHeartbeats 4000000 in
theorem k_L_pass (a0 a1 a2 : Int) (x : Cx) (v : V) (F : Fx x cL_pass RL "pass" ({ frames := 8, cells := 2, slots := 12, locals := 125 }) 4 (some 0) (some .int) 2) (hTb : Tb x [(0, 9, 12, 15), (0, 9, 15, 17)]) (ho : ∀ a ∈ [(17, a0), (0, a1), (19, a2)], okv v a) : Gs x (sp_L_pass a0 a1 a2 v) v 0 0 0 (avArgs 0 [(17, a0), (0, a1), (19, a2)]) [] := by
  show Gs x _ v 0 0 0 [(0, (17, a0)), (1, (0, a1)), (2, (19, a2))] []
  unfold sp_L_pass
  refine g_aload_n F rfl 2 rfl dL_pass_0 ?_
  refine g_iconst F 2 rfl dL_pass_1 ?_
  refine g_aload_n F rfl 0 rfl dL_pass_2 ?_
  refine g_iload_n F rfl 1 rfl rfl dL_pass_3 ?_
  refine g_chk (fun n2 => ?_)
  refine g_callX F hTb hx_L_pass (K := 7) (b := a0) [(0, a1)] [0] ml_RL_25 wi_X7_pass ws_X7_pass (c_X7_pass a0 a1 (Int.not_lt.mp (Int.not_lt.mpr n2))) mi_X7_pass (by decide) ⟨_, rfl, rfl⟩ (Int.not_lt.mp (Int.not_lt.mpr n2)) rfl rfl rfl (Nat.le_of_ble_eq_true rfl) (Nat.le_of_ble_eq_true rfl) (Nat.le_of_ble_eq_true rfl) (Nat.le_of_ble_eq_true rfl) (Nat.le_of_ble_eq_true rfl) dL_pass_4 (fun z1 v1 hz1 => ?_)
  refine g_i2l F rfl dL_pass_7 ?_
  refine g_chk (fun n3 => ?_)
  refine h_last F (n := 1) ak_9 rfl (Int.not_lt.mp (Int.not_lt.mpr n3)) (by decide) rfl dL_pass_8 (fun v4 => ?_)
  refine g_goto F (tgt := 18) rfl dL_pass_9 ?_
  refine g_iconst F 2 rfl dL_pass_18 ?_
  exact g_ireturn F rfl rfl rfl rfl (Nat.le_of_ble_eq_true rfl) (Nat.le_of_ble_eq_true rfl) dL_pass_19
theorem c_L_pass (a0 a1 a2 : Int) : ∀ l, CtW l yL_pass cL_pass 4 (some .int) [(0, 9, 12, 15), (0, 9, 15, 17)] ({ frames := 8, cells := 2, slots := 12, locals := 125 }) (some 0) [(17, a0), (0, a1), (19, a2)] (sp_L_pass a0 a1 a2) := g_methodW (by decide +kernel) (Nat.le_of_ble_eq_true rfl) (fun x v F hT ho => k_L_pass a0 a1 a2 x v F hT ho)
theorem hx_L_weight : HX RL cL_weight 5 5 [(0, 10, 13, 13), (0, 10, 17, 15)] [1, 2] := fun j e h => match j, h with
  | 0, h => by cases h; exact ⟨_, rfl, rfl, by decide, gw 145 _ (by decide +kernel) (by decide +kernel), gw 157 _ (by decide +kernel) (by decide +kernel), (fun z hz => by cases hz), ⟨rfl, Or.inl ⟨4, (Nat.le_of_ble_eq_true rfl), dL_weight_13, dL_weight_15, dL_weight_16⟩⟩⟩
  | 1, h => by cases h; exact ⟨_, rfl, rfl, by decide, gw 146 _ (by decide +kernel) (by decide +kernel), gw 229 _ (by decide +kernel) (by decide +kernel), (List.forall_mem_cons.mpr ⟨⟨by decide, "java/lang/IndexOutOfBoundsException", gw 145 _ (by decide +kernel) (by decide +kernel), by decide +kernel⟩, (fun z hz => by cases hz)⟩), ⟨rfl, Or.inl ⟨4, (Nat.le_of_ble_eq_true rfl), dL_weight_17, dL_weight_19, dL_weight_20⟩⟩⟩
  | n + 2, h => by cases h
def sp_L_weight (a0 a1 a2 a3 : Int) (v : V) : Res := (chk (0 ≤ a0) (rBx (sp_X7_weight a0 a1 a2 v) (fun z1 v1 => (chk (0 ≤ a3) (rLet (up v1 9 a3 0 z1) (fun v4 => (rOk 0 v4))))) (kxAt 1 [1, 2])))
set_option maxRecDepth 100000 in
set_option maxHeartbeats 4000000 in
theorem k_L_weight (a0 a1 a2 a3 : Int) (x : Cx) (v : V) (F : Fx x cL_weight RL "weight" ({ frames := 8, cells := 2, slots := 12, locals := 128 }) 5 (some 0) (some .int) 2) (hTb : Tb x [(0, 10, 13, 13), (0, 10, 17, 15)]) (ho : ∀ a ∈ [(17, a0), (0, a1), (0, a2), (19, a3)], okv v a) : Gs x (sp_L_weight a0 a1 a2 a3 v) v 0 0 0 (avArgs 0 [(17, a0), (0, a1), (0, a2), (19, a3)]) [] := by
  show Gs x _ v 0 0 0 [(0, (17, a0)), (1, (0, a1)), (2, (0, a2)), (3, (19, a3))] []
  unfold sp_L_weight
  refine g_aload_n F rfl 3 rfl dL_weight_0 ?_
  refine g_iconst F 2 rfl dL_weight_1 ?_
  refine g_aload_n F rfl 0 rfl dL_weight_2 ?_
  refine g_iload_n F rfl 1 rfl rfl dL_weight_3 ?_
  refine g_iload_n F rfl 2 rfl rfl dL_weight_4 ?_
  refine g_chk (fun n2 => ?_)
  refine g_callX F hTb hx_L_weight (K := 7) (b := a0) [(0, a1), (0, a2)] [0, 0] ml_RL_29 wi_X7_weight ws_X7_weight (c_X7_weight a0 a1 a2 (Int.not_lt.mp (Int.not_lt.mpr n2))) mi_X7_weight (by decide) ⟨_, rfl, rfl⟩ (Int.not_lt.mp (Int.not_lt.mpr n2)) rfl rfl rfl (Nat.le_of_ble_eq_true rfl) (Nat.le_of_ble_eq_true rfl) (Nat.le_of_ble_eq_true rfl) (Nat.le_of_ble_eq_true rfl) (Nat.le_of_ble_eq_true rfl) dL_weight_5 (fun z1 v1 hz1 => ?_)
  refine g_i2l F rfl dL_weight_8 ?_
  refine g_chk (fun n3 => ?_)
  refine h_last F (n := 1) ak_9 rfl (Int.not_lt.mp (Int.not_lt.mpr n3)) (by decide) rfl dL_weight_9 (fun v4 => ?_)
  refine g_goto F (tgt := 21) rfl dL_weight_10 ?_
  refine g_iconst F 2 rfl dL_weight_21 ?_
  exact g_ireturn F rfl rfl rfl rfl (Nat.le_of_ble_eq_true rfl) (Nat.le_of_ble_eq_true rfl) dL_weight_22
theorem c_L_weight (a0 a1 a2 a3 : Int) : ∀ l, CtW l yL_weight cL_weight 5 (some .int) [(0, 10, 13, 13), (0, 10, 17, 15)] ({ frames := 8, cells := 2, slots := 12, locals := 128 }) (some 0) [(17, a0), (0, a1), (0, a2), (19, a3)] (sp_L_weight a0 a1 a2 a3) := g_methodW (by decide +kernel) (Nat.le_of_ble_eq_true rfl) (fun x v F hT ho => k_L_weight a0 a1 a2 a3 x v F hT ho)
theorem hx_L_word : HX RL cL_word 6 7 [(0, 12, 15, 13), (0, 12, 19, 17)] [1, 3] := fun j e h => match j, h with
  | 0, h => by cases h; exact ⟨_, rfl, rfl, by decide, gw 145 _ (by decide +kernel) (by decide +kernel), gw 157 _ (by decide +kernel) (by decide +kernel), (fun z hz => by cases hz), ⟨rfl, Or.inl ⟨5, (Nat.le_of_ble_eq_true rfl), dL_word_15, dL_word_17, dL_word_18⟩⟩⟩
  | 1, h => by cases h; exact ⟨_, rfl, rfl, by decide, gw 147 _ (by decide +kernel) (by decide +kernel), gw 248 _ (by decide +kernel) (by decide +kernel), (List.forall_mem_cons.mpr ⟨⟨by decide, "java/lang/IndexOutOfBoundsException", gw 145 _ (by decide +kernel) (by decide +kernel), by decide +kernel⟩, (fun z hz => by cases hz)⟩), ⟨rfl, Or.inl ⟨5, (Nat.le_of_ble_eq_true rfl), dL_word_19, dL_word_21, dL_word_22⟩⟩⟩
  | n + 2, h => by cases h
def sp_L_word (a0 a1 a2 a3 a4 : Int) (v : V) : Res := (chk (0 ≤ a0) (rBx (sp_X7_word a0 a1 a2 a3 v) (fun z1 v1 => (chk (0 ≤ a4) (rLet (up v1 9 a4 0 z1) (fun v4 => (rOk 0 v4))))) (kxAt 1 [1, 3])))
set_option maxRecDepth 100000 in
set_option maxHeartbeats 4000000 in
theorem k_L_word (a0 a1 a2 a3 a4 : Int) (x : Cx) (v : V) (F : Fx x cL_word RL "word" ({ frames := 8, cells := 4, slots := 21, locals := 128 }) 6 (some 0) (some .int) 2) (hTb : Tb x [(0, 12, 15, 13), (0, 12, 19, 17)]) (ho : ∀ a ∈ [(17, a0), (0, a1), (0, a2), (2, a3), (19, a4)], okv v a) : Gs x (sp_L_word a0 a1 a2 a3 a4 v) v 0 0 0 (avArgs 0 [(17, a0), (0, a1), (0, a2), (2, a3), (19, a4)]) [] := by
  show Gs x _ v 0 0 0 [(0, (17, a0)), (1, (0, a1)), (2, (0, a2)), (3, (2, a3)), (4, (19, a4))] []
  unfold sp_L_word
  refine g_aload F 4 rfl dL_word_0 ?_
  refine g_iconst F 2 rfl dL_word_2 ?_
  refine g_aload_n F rfl 0 rfl dL_word_3 ?_
  refine g_iload_n F rfl 1 rfl rfl dL_word_4 ?_
  refine g_iload_n F rfl 2 rfl rfl dL_word_5 ?_
  refine g_iload_n F rfl 3 rfl rfl dL_word_6 ?_
  refine g_chk (fun n2 => ?_)
  refine g_callX F hTb hx_L_word (K := 7) (b := a0) [(0, a1), (0, a2), (2, a3)] [0, 0, 2] ml_RL_32 wi_X7_word ws_X7_word (c_X7_word a0 a1 a2 a3 (Int.not_lt.mp (Int.not_lt.mpr n2))) mi_X7_word (by decide) ⟨_, rfl, rfl⟩ (Int.not_lt.mp (Int.not_lt.mpr n2)) rfl rfl rfl (Nat.le_of_ble_eq_true rfl) (Nat.le_of_ble_eq_true rfl) (Nat.le_of_ble_eq_true rfl) (Nat.le_of_ble_eq_true rfl) (Nat.le_of_ble_eq_true rfl) dL_word_7 (fun z1 v1 hz1 => ?_)
  refine g_i2l F rfl dL_word_10 ?_
  refine g_chk (fun n3 => ?_)
  refine h_last F (n := 1) ak_9 rfl (Int.not_lt.mp (Int.not_lt.mpr n3)) (by decide) rfl dL_word_11 (fun v4 => ?_)
  refine g_goto F (tgt := 23) rfl dL_word_12 ?_
  refine g_iconst F 2 rfl dL_word_23 ?_
  exact g_ireturn F rfl rfl rfl rfl (Nat.le_of_ble_eq_true rfl) (Nat.le_of_ble_eq_true rfl) dL_word_24
theorem c_L_word (a0 a1 a2 a3 a4 : Int) : ∀ l, CtW l yL_word cL_word 6 (some .int) [(0, 12, 15, 13), (0, 12, 19, 17)] ({ frames := 8, cells := 4, slots := 21, locals := 128 }) (some 0) [(17, a0), (0, a1), (0, a2), (2, a3), (19, a4)] (sp_L_word a0 a1 a2 a3 a4) := g_methodW (by decide +kernel) (Nat.le_of_ble_eq_true rfl) (fun x v F hT ho => k_L_word a0 a1 a2 a3 a4 x v F hT ho)
theorem hx_L_paper : HX RL cL_paper 5 4 [(0, 7, 10, 13), (0, 7, 14, 15)] [1, 2] := fun j e h => match j, h with
  | 0, h => by cases h; exact ⟨_, rfl, rfl, by decide, gw 145 _ (by decide +kernel) (by decide +kernel), gw 157 _ (by decide +kernel) (by decide +kernel), (fun z hz => by cases hz), ⟨rfl, Or.inl ⟨4, (Nat.le_of_ble_eq_true rfl), dL_paper_10, dL_paper_12, dL_paper_13⟩⟩⟩
  | 1, h => by cases h; exact ⟨_, rfl, rfl, by decide, gw 146 _ (by decide +kernel) (by decide +kernel), gw 229 _ (by decide +kernel) (by decide +kernel), (List.forall_mem_cons.mpr ⟨⟨by decide, "java/lang/IndexOutOfBoundsException", gw 145 _ (by decide +kernel) (by decide +kernel), by decide +kernel⟩, (fun z hz => by cases hz)⟩), ⟨rfl, Or.inl ⟨4, (Nat.le_of_ble_eq_true rfl), dL_paper_14, dL_paper_16, dL_paper_17⟩⟩⟩
  | n + 2, h => by cases h
def sp_L_paper (a0 a1 a2 a3 : Int) (v : V) : Res := (chk (0 ≤ a0) (rBx (sp_X7_paper a0 a1 a2 a3 v) (fun z1 v1 => (rOk 0 v1)) (kxAt 1 [1, 2])))
set_option maxRecDepth 100000 in
set_option maxHeartbeats 4000000 in
theorem k_L_paper (a0 a1 a2 a3 : Int) (x : Cx) (v : V) (F : Fx x cL_paper RL "paper" ({ frames := 9, cells := 3, slots := 18, locals := 150 }) 5 (some 0) (some .int) 2) (hTb : Tb x [(0, 7, 10, 13), (0, 7, 14, 15)]) (ho : ∀ a ∈ [(17, a0), (0, a1), (0, a2), (0, a3)], okv v a) : Gs x (sp_L_paper a0 a1 a2 a3 v) v 0 0 0 (avArgs 0 [(17, a0), (0, a1), (0, a2), (0, a3)]) [] := by
  show Gs x _ v 0 0 0 [(0, (17, a0)), (1, (0, a1)), (2, (0, a2)), (3, (0, a3))] []
  unfold sp_L_paper
  refine g_aload_n F rfl 0 rfl dL_paper_0 ?_
  refine g_iload_n F rfl 1 rfl rfl dL_paper_1 ?_
  refine g_iload_n F rfl 2 rfl rfl dL_paper_2 ?_
  refine g_iload_n F rfl 3 rfl rfl dL_paper_3 ?_
  refine g_chk (fun n2 => ?_)
  refine g_callX F hTb hx_L_paper (K := 7) (b := a0) [(0, a1), (0, a2), (0, a3)] [0, 0, 0] ml_RL_36 wi_X7_paper ws_X7_paper (c_X7_paper a0 a1 a2 a3 (Int.not_lt.mp (Int.not_lt.mpr n2))) mi_X7_paper (by decide) ⟨_, rfl, rfl⟩ (Int.not_lt.mp (Int.not_lt.mpr n2)) rfl rfl rfl (Nat.le_of_ble_eq_true rfl) (Nat.le_of_ble_eq_true rfl) (Nat.le_of_ble_eq_true rfl) (Nat.le_of_ble_eq_true rfl) (Nat.le_of_ble_eq_true rfl) dL_paper_4 (fun z1 v1 hz1 => ?_)
  refine g_goto F (tgt := 18) rfl dL_paper_7 ?_
  refine g_iconst F 2 rfl dL_paper_18 ?_
  exact g_ireturn F rfl rfl rfl rfl (Nat.le_of_ble_eq_true rfl) (Nat.le_of_ble_eq_true rfl) dL_paper_19
theorem c_L_paper (a0 a1 a2 a3 : Int) : ∀ l, CtW l yL_paper cL_paper 5 (some .int) [(0, 7, 10, 13), (0, 7, 14, 15)] ({ frames := 9, cells := 3, slots := 18, locals := 150 }) (some 0) [(17, a0), (0, a1), (0, a2), (0, a3)] (sp_L_paper a0 a1 a2 a3) := g_methodW (by decide +kernel) (Nat.le_of_ble_eq_true rfl) (fun x v F hT ho => k_L_paper a0 a1 a2 a3 x v F hT ho)
theorem hx_L_right : HX RL cL_right 5 5 [(0, 10, 13, 13), (0, 10, 17, 15)] [1, 2] := fun j e h => match j, h with
  | 0, h => by cases h; exact ⟨_, rfl, rfl, by decide, gw 145 _ (by decide +kernel) (by decide +kernel), gw 157 _ (by decide +kernel) (by decide +kernel), (fun z hz => by cases hz), ⟨rfl, Or.inl ⟨4, (Nat.le_of_ble_eq_true rfl), dL_right_13, dL_right_15, dL_right_16⟩⟩⟩
  | 1, h => by cases h; exact ⟨_, rfl, rfl, by decide, gw 146 _ (by decide +kernel) (by decide +kernel), gw 229 _ (by decide +kernel) (by decide +kernel), (List.forall_mem_cons.mpr ⟨⟨by decide, "java/lang/IndexOutOfBoundsException", gw 145 _ (by decide +kernel) (by decide +kernel), by decide +kernel⟩, (fun z hz => by cases hz)⟩), ⟨rfl, Or.inl ⟨4, (Nat.le_of_ble_eq_true rfl), dL_right_17, dL_right_19, dL_right_20⟩⟩⟩
  | n + 2, h => by cases h
def sp_L_right (a0 a1 a2 a3 : Int) (v : V) : Res := (chk (0 ≤ a0) (rBx (sp_X7_right a0 a1 a2 v) (fun z1 v1 => (chk (0 ≤ a3) (rLet (up v1 9 a3 0 z1) (fun v4 => (rOk 0 v4))))) (kxAt 1 [1, 2])))
set_option maxRecDepth 100000 in
set_option maxHeartbeats 4000000 in
theorem k_L_right (a0 a1 a2 a3 : Int) (x : Cx) (v : V) (F : Fx x cL_right RL "right" ({ frames := 8, cells := 2, slots := 12, locals := 127 }) 5 (some 0) (some .int) 2) (hTb : Tb x [(0, 10, 13, 13), (0, 10, 17, 15)]) (ho : ∀ a ∈ [(17, a0), (0, a1), (0, a2), (19, a3)], okv v a) : Gs x (sp_L_right a0 a1 a2 a3 v) v 0 0 0 (avArgs 0 [(17, a0), (0, a1), (0, a2), (19, a3)]) [] := by
  show Gs x _ v 0 0 0 [(0, (17, a0)), (1, (0, a1)), (2, (0, a2)), (3, (19, a3))] []
  unfold sp_L_right
  refine g_aload_n F rfl 3 rfl dL_right_0 ?_
  refine g_iconst F 2 rfl dL_right_1 ?_
  refine g_aload_n F rfl 0 rfl dL_right_2 ?_
  refine g_iload_n F rfl 1 rfl rfl dL_right_3 ?_
  refine g_iload_n F rfl 2 rfl rfl dL_right_4 ?_
  refine g_chk (fun n2 => ?_)
  refine g_callX F hTb hx_L_right (K := 7) (b := a0) [(0, a1), (0, a2)] [0, 0] ml_RL_40 wi_X7_right ws_X7_right (c_X7_right a0 a1 a2 (Int.not_lt.mp (Int.not_lt.mpr n2))) mi_X7_right (by decide) ⟨_, rfl, rfl⟩ (Int.not_lt.mp (Int.not_lt.mpr n2)) rfl rfl rfl (Nat.le_of_ble_eq_true rfl) (Nat.le_of_ble_eq_true rfl) (Nat.le_of_ble_eq_true rfl) (Nat.le_of_ble_eq_true rfl) (Nat.le_of_ble_eq_true rfl) dL_right_5 (fun z1 v1 hz1 => ?_)
  refine g_i2l F rfl dL_right_8 ?_
  refine g_chk (fun n3 => ?_)
  refine h_last F (n := 1) ak_9 rfl (Int.not_lt.mp (Int.not_lt.mpr n3)) (by decide) rfl dL_right_9 (fun v4 => ?_)
  refine g_goto F (tgt := 21) rfl dL_right_10 ?_
  refine g_iconst F 2 rfl dL_right_21 ?_
  exact g_ireturn F rfl rfl rfl rfl (Nat.le_of_ble_eq_true rfl) (Nat.le_of_ble_eq_true rfl) dL_right_22
theorem c_L_right (a0 a1 a2 a3 : Int) : ∀ l, CtW l yL_right cL_right 5 (some .int) [(0, 10, 13, 13), (0, 10, 17, 15)] ({ frames := 8, cells := 2, slots := 12, locals := 127 }) (some 0) [(17, a0), (0, a1), (0, a2), (19, a3)] (sp_L_right a0 a1 a2 a3) := g_methodW (by decide +kernel) (Nat.le_of_ble_eq_true rfl) (fun x v F hT ho => k_L_right a0 a1 a2 a3 x v F hT ho)
theorem hx_L_bar : HX RL cL_bar 5 5 [(0, 10, 13, 13), (0, 10, 17, 15)] [1, 2] := fun j e h => match j, h with
  | 0, h => by cases h; exact ⟨_, rfl, rfl, by decide, gw 145 _ (by decide +kernel) (by decide +kernel), gw 157 _ (by decide +kernel) (by decide +kernel), (fun z hz => by cases hz), ⟨rfl, Or.inl ⟨4, (Nat.le_of_ble_eq_true rfl), dL_bar_13, dL_bar_15, dL_bar_16⟩⟩⟩
  | 1, h => by cases h; exact ⟨_, rfl, rfl, by decide, gw 146 _ (by decide +kernel) (by decide +kernel), gw 229 _ (by decide +kernel) (by decide +kernel), (List.forall_mem_cons.mpr ⟨⟨by decide, "java/lang/IndexOutOfBoundsException", gw 145 _ (by decide +kernel) (by decide +kernel), by decide +kernel⟩, (fun z hz => by cases hz)⟩), ⟨rfl, Or.inl ⟨4, (Nat.le_of_ble_eq_true rfl), dL_bar_17, dL_bar_19, dL_bar_20⟩⟩⟩
  | n + 2, h => by cases h
def sp_L_bar (a0 a1 a2 a3 : Int) (v : V) : Res := (chk (0 ≤ a0) (rBx (sp_X7_bar a0 a1 a2 v) (fun z1 v1 => (chk (0 ≤ a3) (rLet (up v1 9 a3 0 z1) (fun v4 => (rOk 0 v4))))) (kxAt 1 [1, 2])))
set_option maxRecDepth 100000 in
set_option maxHeartbeats 4000000 in
theorem k_L_bar (a0 a1 a2 a3 : Int) (x : Cx) (v : V) (F : Fx x cL_bar RL "bar" ({ frames := 8, cells := 2, slots := 12, locals := 128 }) 5 (some 0) (some .int) 2) (hTb : Tb x [(0, 10, 13, 13), (0, 10, 17, 15)]) (ho : ∀ a ∈ [(17, a0), (0, a1), (0, a2), (19, a3)], okv v a) : Gs x (sp_L_bar a0 a1 a2 a3 v) v 0 0 0 (avArgs 0 [(17, a0), (0, a1), (0, a2), (19, a3)]) [] := by
  show Gs x _ v 0 0 0 [(0, (17, a0)), (1, (0, a1)), (2, (0, a2)), (3, (19, a3))] []
  unfold sp_L_bar
  refine g_aload_n F rfl 3 rfl dL_bar_0 ?_
  refine g_iconst F 2 rfl dL_bar_1 ?_
  refine g_aload_n F rfl 0 rfl dL_bar_2 ?_
  refine g_iload_n F rfl 1 rfl rfl dL_bar_3 ?_
  refine g_iload_n F rfl 2 rfl rfl dL_bar_4 ?_
  refine g_chk (fun n2 => ?_)
  refine g_callX F hTb hx_L_bar (K := 7) (b := a0) [(0, a1), (0, a2)] [0, 0] ml_RL_43 wi_X7_bar ws_X7_bar (c_X7_bar a0 a1 a2 (Int.not_lt.mp (Int.not_lt.mpr n2))) mi_X7_bar (by decide) ⟨_, rfl, rfl⟩ (Int.not_lt.mp (Int.not_lt.mpr n2)) rfl rfl rfl (Nat.le_of_ble_eq_true rfl) (Nat.le_of_ble_eq_true rfl) (Nat.le_of_ble_eq_true rfl) (Nat.le_of_ble_eq_true rfl) (Nat.le_of_ble_eq_true rfl) dL_bar_5 (fun z1 v1 hz1 => ?_)
  refine g_i2l F rfl dL_bar_8 ?_
  refine g_chk (fun n3 => ?_)
  refine h_last F (n := 1) ak_9 rfl (Int.not_lt.mp (Int.not_lt.mpr n3)) (by decide) rfl dL_bar_9 (fun v4 => ?_)
  refine g_goto F (tgt := 21) rfl dL_bar_10 ?_
  refine g_iconst F 2 rfl dL_bar_21 ?_
  exact g_ireturn F rfl rfl rfl rfl (Nat.le_of_ble_eq_true rfl) (Nat.le_of_ble_eq_true rfl) dL_bar_22
theorem c_L_bar (a0 a1 a2 a3 : Int) : ∀ l, CtW l yL_bar cL_bar 5 (some .int) [(0, 10, 13, 13), (0, 10, 17, 15)] ({ frames := 8, cells := 2, slots := 12, locals := 128 }) (some 0) [(17, a0), (0, a1), (0, a2), (19, a3)] (sp_L_bar a0 a1 a2 a3) := g_methodW (by decide +kernel) (Nat.le_of_ble_eq_true rfl) (fun x v F hT ho => k_L_bar a0 a1 a2 a3 x v F hT ho)
theorem hx_L_seal : HX RL cL_seal 5 5 [(0, 17, 20, 13), (0, 17, 24, 17)] [1, 3] := fun j e h => match j, h with
  | 0, h => by cases h; exact ⟨_, rfl, rfl, by decide, gw 145 _ (by decide +kernel) (by decide +kernel), gw 157 _ (by decide +kernel) (by decide +kernel), (fun z hz => by cases hz), ⟨rfl, Or.inl ⟨4, (Nat.le_of_ble_eq_true rfl), dL_seal_20, dL_seal_22, dL_seal_23⟩⟩⟩
  | 1, h => by cases h; exact ⟨_, rfl, rfl, by decide, gw 147 _ (by decide +kernel) (by decide +kernel), gw 248 _ (by decide +kernel) (by decide +kernel), (List.forall_mem_cons.mpr ⟨⟨by decide, "java/lang/IndexOutOfBoundsException", gw 145 _ (by decide +kernel) (by decide +kernel), by decide +kernel⟩, (fun z hz => by cases hz)⟩), ⟨rfl, Or.inl ⟨4, (Nat.le_of_ble_eq_true rfl), dL_seal_24, dL_seal_26, dL_seal_27⟩⟩⟩
  | n + 2, h => by cases h
def sp_L_seal (a0 a1 a2 a3 : Int) (v : V) : Res := (chk (0 ≤ a0) (rBx (sp_X7_seal a0 a1 a2 v) (fun z1 v1 => (if z1 = 0 then (chk (0 ≤ a3) (rLet (up v1 9 a3 0 0) (fun v5 => (rOk 0 v5))))
   else (chk (0 ≤ a3) (rLet (up v1 9 a3 0 1) (fun v7 => (rOk 0 v7)))))) (kxAt 1 [1, 3])))
set_option maxRecDepth 100000 in
set_option maxHeartbeats 4000000 in
theorem k_L_seal (a0 a1 a2 a3 : Int) (x : Cx) (v : V) (F : Fx x cL_seal RL "seal" ({ frames := 8, cells := 2, slots := 12, locals := 127 }) 5 (some 0) (some .int) 2) (hTb : Tb x [(0, 17, 20, 13), (0, 17, 24, 17)]) (ho : ∀ a ∈ [(17, a0), (0, a1), (2, a2), (19, a3)], okv v a) : Gs x (sp_L_seal a0 a1 a2 a3 v) v 0 0 0 (avArgs 0 [(17, a0), (0, a1), (2, a2), (19, a3)]) [] := by
  show Gs x _ v 0 0 0 [(0, (17, a0)), (1, (0, a1)), (2, (2, a2)), (3, (19, a3))] []
  unfold sp_L_seal
  refine g_aload_n F rfl 3 rfl dL_seal_0 ?_
  refine g_iconst F 2 rfl dL_seal_1 ?_
  refine g_aload_n F rfl 0 rfl dL_seal_2 ?_
  refine g_iload_n F rfl 1 rfl rfl dL_seal_3 ?_
  refine g_iload_n F rfl 2 rfl rfl dL_seal_4 ?_
  refine g_chk (fun n2 => ?_)
  refine g_callX F hTb hx_L_seal (K := 7) (b := a0) [(0, a1), (2, a2)] [0, 2] ml_RL_46 wi_X7_seal ws_X7_seal (c_X7_seal a0 a1 a2 (Int.not_lt.mp (Int.not_lt.mpr n2))) mi_X7_seal (by decide) ⟨_, rfl, rfl⟩ (Int.not_lt.mp (Int.not_lt.mpr n2)) rfl rfl rfl (Nat.le_of_ble_eq_true rfl) (Nat.le_of_ble_eq_true rfl) (Nat.le_of_ble_eq_true rfl) (Nat.le_of_ble_eq_true rfl) (Nat.le_of_ble_eq_true rfl) dL_seal_5 (fun z1 v1 hz1 => ?_)
  refine g_if_eq F rfl (tgt := 15) rfl dL_seal_8 (fun n3 => ?_) (fun n3 => ?_)
  · refine g_lconst F (z := 0) rfl dL_seal_15 ?_
    refine g_chk (fun n4 => ?_)
    refine h_last F (n := 1) ak_9 rfl (Int.not_lt.mp (Int.not_lt.mpr n4)) (by decide) rfl dL_seal_16 (fun v5 => ?_)
    refine g_goto F (tgt := 28) rfl dL_seal_17 ?_
    refine g_iconst F 2 rfl dL_seal_28 ?_
    exact g_ireturn F rfl rfl rfl rfl (Nat.le_of_ble_eq_true rfl) (Nat.le_of_ble_eq_true rfl) dL_seal_29
  · refine g_lconst F (z := 1) rfl dL_seal_11 ?_
    refine g_goto F (tgt := 16) rfl dL_seal_12 ?_
    refine g_chk (fun n6 => ?_)
    refine h_last F (n := 1) ak_9 rfl (Int.not_lt.mp (Int.not_lt.mpr n6)) (by decide) rfl dL_seal_16 (fun v7 => ?_)
    refine g_goto F (tgt := 28) rfl dL_seal_17 ?_
    refine g_iconst F 2 rfl dL_seal_28 ?_
    exact g_ireturn F rfl rfl rfl rfl (Nat.le_of_ble_eq_true rfl) (Nat.le_of_ble_eq_true rfl) dL_seal_29
theorem c_L_seal (a0 a1 a2 a3 : Int) : ∀ l, CtW l yL_seal cL_seal 5 (some .int) [(0, 17, 20, 13), (0, 17, 24, 17)] ({ frames := 8, cells := 2, slots := 12, locals := 127 }) (some 0) [(17, a0), (0, a1), (2, a2), (19, a3)] (sp_L_seal a0 a1 a2 a3) := g_methodW (by decide +kernel) (Nat.le_of_ble_eq_true rfl) (fun x v F hT ho => k_L_seal a0 a1 a2 a3 x v F hT ho)
theorem hx_L_bring : HX RL cL_bring 5 5 [(0, 10, 13, 13), (0, 10, 17, 17)] [1, 3] := fun j e h => match j, h with
  | 0, h => by cases h; exact ⟨_, rfl, rfl, by decide, gw 145 _ (by decide +kernel) (by decide +kernel), gw 157 _ (by decide +kernel) (by decide +kernel), (fun z hz => by cases hz), ⟨rfl, Or.inl ⟨4, (Nat.le_of_ble_eq_true rfl), dL_bring_13, dL_bring_15, dL_bring_16⟩⟩⟩
  | 1, h => by cases h; exact ⟨_, rfl, rfl, by decide, gw 147 _ (by decide +kernel) (by decide +kernel), gw 248 _ (by decide +kernel) (by decide +kernel), (List.forall_mem_cons.mpr ⟨⟨by decide, "java/lang/IndexOutOfBoundsException", gw 145 _ (by decide +kernel) (by decide +kernel), by decide +kernel⟩, (fun z hz => by cases hz)⟩), ⟨rfl, Or.inl ⟨4, (Nat.le_of_ble_eq_true rfl), dL_bring_17, dL_bring_19, dL_bring_20⟩⟩⟩
  | n + 2, h => by cases h
def sp_L_bring (a0 a1 a2 a3 : Int) (v : V) : Res := (chk (0 ≤ a0) (rBx (sp_X7_bring a0 a1 a2 v) (fun z1 v1 => (chk (0 ≤ a3) (rLet (up v1 9 a3 0 z1) (fun v4 => (rOk 0 v4))))) (kxAt 1 [1, 3])))
set_option maxRecDepth 100000 in
set_option maxHeartbeats 4000000 in
theorem k_L_bring (a0 a1 a2 a3 : Int) (x : Cx) (v : V) (F : Fx x cL_bring RL "bring" ({ frames := 8, cells := 3, slots := 18, locals := 128 }) 5 (some 0) (some .int) 2) (hTb : Tb x [(0, 10, 13, 13), (0, 10, 17, 17)]) (ho : ∀ a ∈ [(17, a0), (0, a1), (0, a2), (19, a3)], okv v a) : Gs x (sp_L_bring a0 a1 a2 a3 v) v 0 0 0 (avArgs 0 [(17, a0), (0, a1), (0, a2), (19, a3)]) [] := by
  show Gs x _ v 0 0 0 [(0, (17, a0)), (1, (0, a1)), (2, (0, a2)), (3, (19, a3))] []
  unfold sp_L_bring
  refine g_aload_n F rfl 3 rfl dL_bring_0 ?_
  refine g_iconst F 2 rfl dL_bring_1 ?_
  refine g_aload_n F rfl 0 rfl dL_bring_2 ?_
  refine g_iload_n F rfl 1 rfl rfl dL_bring_3 ?_
  refine g_iload_n F rfl 2 rfl rfl dL_bring_4 ?_
  refine g_chk (fun n2 => ?_)
  refine g_callX F hTb hx_L_bring (K := 7) (b := a0) [(0, a1), (0, a2)] [0, 0] ml_RL_50 wi_X7_bring ws_X7_bring (c_X7_bring a0 a1 a2 (Int.not_lt.mp (Int.not_lt.mpr n2))) mi_X7_bring (by decide) ⟨_, rfl, rfl⟩ (Int.not_lt.mp (Int.not_lt.mpr n2)) rfl rfl rfl (Nat.le_of_ble_eq_true rfl) (Nat.le_of_ble_eq_true rfl) (Nat.le_of_ble_eq_true rfl) (Nat.le_of_ble_eq_true rfl) (Nat.le_of_ble_eq_true rfl) dL_bring_5 (fun z1 v1 hz1 => ?_)
  refine g_i2l F rfl dL_bring_8 ?_
  refine g_chk (fun n3 => ?_)
  refine h_last F (n := 1) ak_9 rfl (Int.not_lt.mp (Int.not_lt.mpr n3)) (by decide) rfl dL_bring_9 (fun v4 => ?_)
  refine g_goto F (tgt := 21) rfl dL_bring_10 ?_
  refine g_iconst F 2 rfl dL_bring_21 ?_
  exact g_ireturn F rfl rfl rfl rfl (Nat.le_of_ble_eq_true rfl) (Nat.le_of_ble_eq_true rfl) dL_bring_22
theorem c_L_bring (a0 a1 a2 a3 : Int) : ∀ l, CtW l yL_bring cL_bring 5 (some .int) [(0, 10, 13, 13), (0, 10, 17, 17)] ({ frames := 8, cells := 3, slots := 18, locals := 128 }) (some 0) [(17, a0), (0, a1), (0, a2), (19, a3)] (sp_L_bring a0 a1 a2 a3) := g_methodW (by decide +kernel) (Nat.le_of_ble_eq_true rfl) (fun x v F hT ho => k_L_bring a0 a1 a2 a3 x v F hT ho)
theorem hx_L_list : HX RL cL_list 3 2 [(0, 5, 8, 13), (0, 5, 11, 17)] [1, 3] := fun j e h => match j, h with
  | 0, h => by cases h; exact ⟨_, rfl, rfl, by decide, gw 145 _ (by decide +kernel) (by decide +kernel), gw 157 _ (by decide +kernel) (by decide +kernel), (fun z hz => by cases hz), ⟨rfl, Or.inr ⟨2, (Nat.le_of_ble_eq_true rfl), dL_list_8, dL_list_9, dL_list_10⟩⟩⟩
  | 1, h => by cases h; exact ⟨_, rfl, rfl, by decide, gw 147 _ (by decide +kernel) (by decide +kernel), gw 248 _ (by decide +kernel) (by decide +kernel), (List.forall_mem_cons.mpr ⟨⟨by decide, "java/lang/IndexOutOfBoundsException", gw 145 _ (by decide +kernel) (by decide +kernel), by decide +kernel⟩, (fun z hz => by cases hz)⟩), ⟨rfl, Or.inr ⟨2, (Nat.le_of_ble_eq_true rfl), dL_list_11, dL_list_12, dL_list_13⟩⟩⟩
  | n + 2, h => by cases h
def sp_L_list (a0 a1 : Int) (v : V) : Res := (chk (0 ≤ a0) (rBx (sp_X7_list a0 a1 v) (fun z1 v1 => (rOk 0 v1)) (kxAt 1 [1, 3])))
set_option maxRecDepth 100000 in
set_option maxHeartbeats 4000000 in
theorem k_L_list (a0 a1 : Int) (x : Cx) (v : V) (F : Fx x cL_list RL "list" ({ frames := 8, cells := 2, slots := 12, locals := 125 }) 3 (some 0) (some .int) 2) (hTb : Tb x [(0, 5, 8, 13), (0, 5, 11, 17)]) (ho : ∀ a ∈ [(17, a0), (0, a1)], okv v a) : Gs x (sp_L_list a0 a1 v) v 0 0 0 (avArgs 0 [(17, a0), (0, a1)]) [] := by
  show Gs x _ v 0 0 0 [(0, (17, a0)), (1, (0, a1))] []
  unfold sp_L_list
  refine g_aload_n F rfl 0 rfl dL_list_0 ?_
  refine g_iload_n F rfl 1 rfl rfl dL_list_1 ?_
  refine g_chk (fun n2 => ?_)
  refine g_callX F hTb hx_L_list (K := 7) (b := a0) [(0, a1)] [0] ml_RL_53 wi_X7_list ws_X7_list (c_X7_list a0 a1 (Int.not_lt.mp (Int.not_lt.mpr n2))) mi_X7_list (by decide) ⟨_, rfl, rfl⟩ (Int.not_lt.mp (Int.not_lt.mpr n2)) rfl rfl rfl (Nat.le_of_ble_eq_true rfl) (Nat.le_of_ble_eq_true rfl) (Nat.le_of_ble_eq_true rfl) (Nat.le_of_ble_eq_true rfl) (Nat.le_of_ble_eq_true rfl) dL_list_2 (fun z1 v1 hz1 => ?_)
  refine g_goto F (tgt := 14) rfl dL_list_5 ?_
  refine g_iconst F 2 rfl dL_list_14 ?_
  exact g_ireturn F rfl rfl rfl rfl (Nat.le_of_ble_eq_true rfl) (Nat.le_of_ble_eq_true rfl) dL_list_15
theorem c_L_list (a0 a1 : Int) : ∀ l, CtW l yL_list cL_list 3 (some .int) [(0, 5, 8, 13), (0, 5, 11, 17)] ({ frames := 8, cells := 2, slots := 12, locals := 125 }) (some 0) [(17, a0), (0, a1)] (sp_L_list a0 a1) := g_methodW (by decide +kernel) (Nat.le_of_ble_eq_true rfl) (fun x v F hT ho => k_L_list a0 a1 x v F hT ho)
theorem hx_L_fail : HX RL cL_fail 4 4 [(0, 9, 12, 13), (0, 9, 15, 17)] [1, 3] := fun j e h => match j, h with
  | 0, h => by cases h; exact ⟨_, rfl, rfl, by decide, gw 145 _ (by decide +kernel) (by decide +kernel), gw 157 _ (by decide +kernel) (by decide +kernel), (fun z hz => by cases hz), ⟨rfl, Or.inr ⟨3, (Nat.le_of_ble_eq_true rfl), dL_fail_12, dL_fail_13, dL_fail_14⟩⟩⟩
  | 1, h => by cases h; exact ⟨_, rfl, rfl, by decide, gw 147 _ (by decide +kernel) (by decide +kernel), gw 248 _ (by decide +kernel) (by decide +kernel), (List.forall_mem_cons.mpr ⟨⟨by decide, "java/lang/IndexOutOfBoundsException", gw 145 _ (by decide +kernel) (by decide +kernel), by decide +kernel⟩, (fun z hz => by cases hz)⟩), ⟨rfl, Or.inr ⟨3, (Nat.le_of_ble_eq_true rfl), dL_fail_15, dL_fail_16, dL_fail_17⟩⟩⟩
  | n + 2, h => by cases h
def sp_L_fail (a0 a1 a2 : Int) (v : V) : Res := (chk (0 ≤ a0) (rBx (sp_X7_fail a0 a1 v) (fun z1 v1 => (chk (0 ≤ a2) (rLet (up v1 9 a2 0 z1) (fun v4 => (rOk 0 v4))))) (kxAt 1 [1, 3])))
set_option maxRecDepth 100000 in
set_option maxHeartbeats 4000000 in
theorem k_L_fail (a0 a1 a2 : Int) (x : Cx) (v : V) (F : Fx x cL_fail RL "fail" ({ frames := 8, cells := 2, slots := 12, locals := 127 }) 4 (some 0) (some .int) 2) (hTb : Tb x [(0, 9, 12, 13), (0, 9, 15, 17)]) (ho : ∀ a ∈ [(17, a0), (0, a1), (19, a2)], okv v a) : Gs x (sp_L_fail a0 a1 a2 v) v 0 0 0 (avArgs 0 [(17, a0), (0, a1), (19, a2)]) [] := by
  show Gs x _ v 0 0 0 [(0, (17, a0)), (1, (0, a1)), (2, (19, a2))] []
  unfold sp_L_fail
  refine g_aload_n F rfl 2 rfl dL_fail_0 ?_
  refine g_iconst F 2 rfl dL_fail_1 ?_
  refine g_aload_n F rfl 0 rfl dL_fail_2 ?_
  refine g_iload_n F rfl 1 rfl rfl dL_fail_3 ?_
  refine g_chk (fun n2 => ?_)
  refine g_callX F hTb hx_L_fail (K := 7) (b := a0) [(0, a1)] [0] ml_RL_57 wi_X7_fail ws_X7_fail (c_X7_fail a0 a1 (Int.not_lt.mp (Int.not_lt.mpr n2))) mi_X7_fail (by decide) ⟨_, rfl, rfl⟩ (Int.not_lt.mp (Int.not_lt.mpr n2)) rfl rfl rfl (Nat.le_of_ble_eq_true rfl) (Nat.le_of_ble_eq_true rfl) (Nat.le_of_ble_eq_true rfl) (Nat.le_of_ble_eq_true rfl) (Nat.le_of_ble_eq_true rfl) dL_fail_4 (fun z1 v1 hz1 => ?_)
  refine g_i2l F rfl dL_fail_7 ?_
  refine g_chk (fun n3 => ?_)
  refine h_last F (n := 1) ak_9 rfl (Int.not_lt.mp (Int.not_lt.mpr n3)) (by decide) rfl dL_fail_8 (fun v4 => ?_)
  refine g_goto F (tgt := 18) rfl dL_fail_9 ?_
  refine g_iconst F 2 rfl dL_fail_18 ?_
  exact g_ireturn F rfl rfl rfl rfl (Nat.le_of_ble_eq_true rfl) (Nat.le_of_ble_eq_true rfl) dL_fail_19
theorem c_L_fail (a0 a1 a2 : Int) : ∀ l, CtW l yL_fail cL_fail 4 (some .int) [(0, 9, 12, 13), (0, 9, 15, 17)] ({ frames := 8, cells := 2, slots := 12, locals := 127 }) (some 0) [(17, a0), (0, a1), (19, a2)] (sp_L_fail a0 a1 a2) := g_methodW (by decide +kernel) (Nat.le_of_ble_eq_true rfl) (fun x v F hT ho => k_L_fail a0 a1 a2 x v F hT ho)
theorem hx_L_sell : HX RL cL_sell 7 9 [(0, 14, 17, 13), (0, 14, 21, 15), (0, 14, 25, 17)] [1, 2, 3] := fun j e h => match j, h with
  | 0, h => by cases h; exact ⟨_, rfl, rfl, by decide, gw 145 _ (by decide +kernel) (by decide +kernel), gw 157 _ (by decide +kernel) (by decide +kernel), (fun z hz => by cases hz), ⟨rfl, Or.inl ⟨6, (Nat.le_of_ble_eq_true rfl), dL_sell_17, dL_sell_19, dL_sell_20⟩⟩⟩
  | 1, h => by cases h; exact ⟨_, rfl, rfl, by decide, gw 146 _ (by decide +kernel) (by decide +kernel), gw 229 _ (by decide +kernel) (by decide +kernel), (List.forall_mem_cons.mpr ⟨⟨by decide, "java/lang/IndexOutOfBoundsException", gw 145 _ (by decide +kernel) (by decide +kernel), by decide +kernel⟩, (fun z hz => by cases hz)⟩), ⟨rfl, Or.inl ⟨6, (Nat.le_of_ble_eq_true rfl), dL_sell_21, dL_sell_23, dL_sell_24⟩⟩⟩
  | 2, h => by cases h; exact ⟨_, rfl, rfl, by decide, gw 147 _ (by decide +kernel) (by decide +kernel), gw 248 _ (by decide +kernel) (by decide +kernel), (List.forall_mem_cons.mpr ⟨⟨by decide, "java/lang/IndexOutOfBoundsException", gw 145 _ (by decide +kernel) (by decide +kernel), by decide +kernel⟩, (List.forall_mem_cons.mpr ⟨⟨by decide, "java/lang/IllegalArgumentException", gw 146 _ (by decide +kernel) (by decide +kernel), by decide +kernel⟩, (fun z hz => by cases hz)⟩)⟩), ⟨rfl, Or.inl ⟨6, (Nat.le_of_ble_eq_true rfl), dL_sell_25, dL_sell_27, dL_sell_28⟩⟩⟩
  | n + 3, h => by cases h
def sp_L_sell (a0 a1 a2 a3 a4 a5 : Int) (v : V) : Res := (chk (0 ≤ a0) (rBx (sp_X7_sell a0 a1 a2 a3 a4 v) (fun z1 v1 => (chk (0 ≤ a5) (rLet (up v1 9 a5 0 z1) (fun v4 => (rOk 0 v4))))) (kxAt 1 [1, 2, 3])))
set_option maxRecDepth 100000 in
set_option maxHeartbeats 4000000 in
theorem k_L_sell (a0 a1 a2 a3 a4 a5 : Int) (x : Cx) (v : V) (F : Fx x cL_sell RL "sell" ({ frames := 9, cells := 8, slots := 49, locals := 153 }) 7 (some 0) (some .int) 2) (hTb : Tb x [(0, 14, 17, 13), (0, 14, 21, 15), (0, 14, 25, 17)]) (ho : ∀ a ∈ [(17, a0), (0, a1), (0, a2), (0, a3), (0, a4), (19, a5)], okv v a) : Gs x (sp_L_sell a0 a1 a2 a3 a4 a5 v) v 0 0 0 (avArgs 0 [(17, a0), (0, a1), (0, a2), (0, a3), (0, a4), (19, a5)]) [] := by
  show Gs x _ v 0 0 0 [(0, (17, a0)), (1, (0, a1)), (2, (0, a2)), (3, (0, a3)), (4, (0, a4)), (5, (19, a5))] []
  unfold sp_L_sell
  refine g_aload F 5 rfl dL_sell_0 ?_
  refine g_iconst F 2 rfl dL_sell_2 ?_
  refine g_aload_n F rfl 0 rfl dL_sell_3 ?_
  refine g_iload_n F rfl 1 rfl rfl dL_sell_4 ?_
  refine g_iload_n F rfl 2 rfl rfl dL_sell_5 ?_
  refine g_iload_n F rfl 3 rfl rfl dL_sell_6 ?_
  refine g_iload F 4 rfl rfl dL_sell_7 ?_
  refine g_chk (fun n2 => ?_)
  refine g_callX F hTb hx_L_sell (K := 7) (b := a0) [(0, a1), (0, a2), (0, a3), (0, a4)] [0, 0, 0, 0] ml_RL_60 wi_X7_sell ws_X7_sell (c_X7_sell a0 a1 a2 a3 a4 (Int.not_lt.mp (Int.not_lt.mpr n2))) mi_X7_sell (by decide) ⟨_, rfl, rfl⟩ (Int.not_lt.mp (Int.not_lt.mpr n2)) rfl rfl rfl (Nat.le_of_ble_eq_true rfl) (Nat.le_of_ble_eq_true rfl) (Nat.le_of_ble_eq_true rfl) (Nat.le_of_ble_eq_true rfl) (Nat.le_of_ble_eq_true rfl) dL_sell_9 (fun z1 v1 hz1 => ?_)
  refine g_i2l F rfl dL_sell_12 ?_
  refine g_chk (fun n3 => ?_)
  refine h_last F (n := 1) ak_9 rfl (Int.not_lt.mp (Int.not_lt.mpr n3)) (by decide) rfl dL_sell_13 (fun v4 => ?_)
  refine g_goto F (tgt := 29) rfl dL_sell_14 ?_
  refine g_iconst F 2 rfl dL_sell_29 ?_
  exact g_ireturn F rfl rfl rfl rfl (Nat.le_of_ble_eq_true rfl) (Nat.le_of_ble_eq_true rfl) dL_sell_30
theorem c_L_sell (a0 a1 a2 a3 a4 a5 : Int) : ∀ l, CtW l yL_sell cL_sell 7 (some .int) [(0, 14, 17, 13), (0, 14, 21, 15), (0, 14, 25, 17)] ({ frames := 9, cells := 8, slots := 49, locals := 153 }) (some 0) [(17, a0), (0, a1), (0, a2), (0, a3), (0, a4), (19, a5)] (sp_L_sell a0 a1 a2 a3 a4 a5) := g_methodW (by decide +kernel) (Nat.le_of_ble_eq_true rfl) (fun x v F hT ho => k_L_sell a0 a1 a2 a3 a4 a5 x v F hT ho)
theorem hx_L_consign : HX RL cL_consign 7 8 [(0, 11, 14, 13), (0, 11, 18, 15), (0, 11, 22, 17)] [1, 2, 3] := fun j e h => match j, h with
  | 0, h => by cases h; exact ⟨_, rfl, rfl, by decide, gw 145 _ (by decide +kernel) (by decide +kernel), gw 157 _ (by decide +kernel) (by decide +kernel), (fun z hz => by cases hz), ⟨rfl, Or.inl ⟨6, (Nat.le_of_ble_eq_true rfl), dL_consign_14, dL_consign_16, dL_consign_17⟩⟩⟩
  | 1, h => by cases h; exact ⟨_, rfl, rfl, by decide, gw 146 _ (by decide +kernel) (by decide +kernel), gw 229 _ (by decide +kernel) (by decide +kernel), (List.forall_mem_cons.mpr ⟨⟨by decide, "java/lang/IndexOutOfBoundsException", gw 145 _ (by decide +kernel) (by decide +kernel), by decide +kernel⟩, (fun z hz => by cases hz)⟩), ⟨rfl, Or.inl ⟨6, (Nat.le_of_ble_eq_true rfl), dL_consign_18, dL_consign_20, dL_consign_21⟩⟩⟩
  | 2, h => by cases h; exact ⟨_, rfl, rfl, by decide, gw 147 _ (by decide +kernel) (by decide +kernel), gw 248 _ (by decide +kernel) (by decide +kernel), (List.forall_mem_cons.mpr ⟨⟨by decide, "java/lang/IndexOutOfBoundsException", gw 145 _ (by decide +kernel) (by decide +kernel), by decide +kernel⟩, (List.forall_mem_cons.mpr ⟨⟨by decide, "java/lang/IllegalArgumentException", gw 146 _ (by decide +kernel) (by decide +kernel), by decide +kernel⟩, (fun z hz => by cases hz)⟩)⟩), ⟨rfl, Or.inl ⟨6, (Nat.le_of_ble_eq_true rfl), dL_consign_22, dL_consign_24, dL_consign_25⟩⟩⟩
  | n + 3, h => by cases h
def sp_L_consign (a0 a1 a2 a3 a4 a5 : Int) (v : V) : Res := (chk (0 ≤ a0) (rBx (sp_X7_consign a0 a1 a2 a3 a4 a5 v) (fun z1 v1 => (rOk 0 v1)) (kxAt 1 [1, 2, 3])))
set_option maxRecDepth 100000 in
set_option maxHeartbeats 4000000 in
theorem k_L_consign (a0 a1 a2 a3 a4 a5 : Int) (x : Cx) (v : V) (F : Fx x cL_consign RL "consign" ({ frames := 8, cells := 9, slots := 52, locals := 131 }) 7 (some 0) (some .int) 2) (hTb : Tb x [(0, 11, 14, 13), (0, 11, 18, 15), (0, 11, 22, 17)]) (ho : ∀ a ∈ [(17, a0), (0, a1), (0, a2), (0, a3), (0, a4), (0, a5)], okv v a) : Gs x (sp_L_consign a0 a1 a2 a3 a4 a5 v) v 0 0 0 (avArgs 0 [(17, a0), (0, a1), (0, a2), (0, a3), (0, a4), (0, a5)]) [] := by
  show Gs x _ v 0 0 0 [(0, (17, a0)), (1, (0, a1)), (2, (0, a2)), (3, (0, a3)), (4, (0, a4)), (5, (0, a5))] []
  unfold sp_L_consign
  refine g_aload_n F rfl 0 rfl dL_consign_0 ?_
  refine g_iload_n F rfl 1 rfl rfl dL_consign_1 ?_
  refine g_iload_n F rfl 2 rfl rfl dL_consign_2 ?_
  refine g_iload_n F rfl 3 rfl rfl dL_consign_3 ?_
  refine g_iload F 4 rfl rfl dL_consign_4 ?_
  refine g_iload F 5 rfl rfl dL_consign_6 ?_
  refine g_chk (fun n2 => ?_)
  refine g_callX F hTb hx_L_consign (K := 7) (b := a0) [(0, a1), (0, a2), (0, a3), (0, a4), (0, a5)] [0, 0, 0, 0, 0] ml_RL_64 wi_X7_consign ws_X7_consign (c_X7_consign a0 a1 a2 a3 a4 a5 (Int.not_lt.mp (Int.not_lt.mpr n2))) mi_X7_consign (by decide) ⟨_, rfl, rfl⟩ (Int.not_lt.mp (Int.not_lt.mpr n2)) rfl rfl rfl (Nat.le_of_ble_eq_true rfl) (Nat.le_of_ble_eq_true rfl) (Nat.le_of_ble_eq_true rfl) (Nat.le_of_ble_eq_true rfl) (Nat.le_of_ble_eq_true rfl) dL_consign_8 (fun z1 v1 hz1 => ?_)
  refine g_goto F (tgt := 26) rfl dL_consign_11 ?_
  refine g_iconst F 2 rfl dL_consign_26 ?_
  exact g_ireturn F rfl rfl rfl rfl (Nat.le_of_ble_eq_true rfl) (Nat.le_of_ble_eq_true rfl) dL_consign_27
theorem c_L_consign (a0 a1 a2 a3 a4 a5 : Int) : ∀ l, CtW l yL_consign cL_consign 7 (some .int) [(0, 11, 14, 13), (0, 11, 18, 15), (0, 11, 22, 17)] ({ frames := 8, cells := 9, slots := 52, locals := 131 }) (some 0) [(17, a0), (0, a1), (0, a2), (0, a3), (0, a4), (0, a5)] (sp_L_consign a0 a1 a2 a3 a4 a5) := g_methodW (by decide +kernel) (Nat.le_of_ble_eq_true rfl) (fun x v F hT ho => k_L_consign a0 a1 a2 a3 a4 a5 x v F hT ho)
theorem hx_L_back : HX RL cL_back 4 4 [(0, 9, 12, 13), (0, 9, 15, 17)] [1, 3] := fun j e h => match j, h with
  | 0, h => by cases h; exact ⟨_, rfl, rfl, by decide, gw 145 _ (by decide +kernel) (by decide +kernel), gw 157 _ (by decide +kernel) (by decide +kernel), (fun z hz => by cases hz), ⟨rfl, Or.inr ⟨3, (Nat.le_of_ble_eq_true rfl), dL_back_12, dL_back_13, dL_back_14⟩⟩⟩
  | 1, h => by cases h; exact ⟨_, rfl, rfl, by decide, gw 147 _ (by decide +kernel) (by decide +kernel), gw 248 _ (by decide +kernel) (by decide +kernel), (List.forall_mem_cons.mpr ⟨⟨by decide, "java/lang/IndexOutOfBoundsException", gw 145 _ (by decide +kernel) (by decide +kernel), by decide +kernel⟩, (fun z hz => by cases hz)⟩), ⟨rfl, Or.inr ⟨3, (Nat.le_of_ble_eq_true rfl), dL_back_15, dL_back_16, dL_back_17⟩⟩⟩
  | n + 2, h => by cases h
def sp_L_back (a0 a1 a2 : Int) (v : V) : Res := (chk (0 ≤ a0) (rBx (sp_X7_back a0 a1 v) (fun z1 v1 => (chk (0 ≤ a2) (rLet (up v1 9 a2 0 z1) (fun v4 => (rOk 0 v4))))) (kxAt 1 [1, 3])))
set_option maxRecDepth 100000 in
set_option maxHeartbeats 4000000 in
theorem k_L_back (a0 a1 a2 : Int) (x : Cx) (v : V) (F : Fx x cL_back RL "back" ({ frames := 8, cells := 2, slots := 12, locals := 126 }) 4 (some 0) (some .int) 2) (hTb : Tb x [(0, 9, 12, 13), (0, 9, 15, 17)]) (ho : ∀ a ∈ [(17, a0), (0, a1), (19, a2)], okv v a) : Gs x (sp_L_back a0 a1 a2 v) v 0 0 0 (avArgs 0 [(17, a0), (0, a1), (19, a2)]) [] := by
  show Gs x _ v 0 0 0 [(0, (17, a0)), (1, (0, a1)), (2, (19, a2))] []
  unfold sp_L_back
  refine g_aload_n F rfl 2 rfl dL_back_0 ?_
  refine g_iconst F 2 rfl dL_back_1 ?_
  refine g_aload_n F rfl 0 rfl dL_back_2 ?_
  refine g_iload_n F rfl 1 rfl rfl dL_back_3 ?_
  refine g_chk (fun n2 => ?_)
  refine g_callX F hTb hx_L_back (K := 7) (b := a0) [(0, a1)] [0] ml_RL_68 wi_X7_back ws_X7_back (c_X7_back a0 a1 (Int.not_lt.mp (Int.not_lt.mpr n2))) mi_X7_back (by decide) ⟨_, rfl, rfl⟩ (Int.not_lt.mp (Int.not_lt.mpr n2)) rfl rfl rfl (Nat.le_of_ble_eq_true rfl) (Nat.le_of_ble_eq_true rfl) (Nat.le_of_ble_eq_true rfl) (Nat.le_of_ble_eq_true rfl) (Nat.le_of_ble_eq_true rfl) dL_back_4 (fun z1 v1 hz1 => ?_)
  refine g_i2l F rfl dL_back_7 ?_
  refine g_chk (fun n3 => ?_)
  refine h_last F (n := 1) ak_9 rfl (Int.not_lt.mp (Int.not_lt.mpr n3)) (by decide) rfl dL_back_8 (fun v4 => ?_)
  refine g_goto F (tgt := 18) rfl dL_back_9 ?_
  refine g_iconst F 2 rfl dL_back_18 ?_
  exact g_ireturn F rfl rfl rfl rfl (Nat.le_of_ble_eq_true rfl) (Nat.le_of_ble_eq_true rfl) dL_back_19
theorem c_L_back (a0 a1 a2 : Int) : ∀ l, CtW l yL_back cL_back 4 (some .int) [(0, 9, 12, 13), (0, 9, 15, 17)] ({ frames := 8, cells := 2, slots := 12, locals := 126 }) (some 0) [(17, a0), (0, a1), (19, a2)] (sp_L_back a0 a1 a2) := g_methodW (by decide +kernel) (Nat.le_of_ble_eq_true rfl) (fun x v F hT ho => k_L_back a0 a1 a2 x v F hT ho)
theorem hx_L_deal : HX RL cL_deal 6 7 [(0, 12, 15, 13), (0, 12, 19, 15), (0, 12, 23, 17)] [1, 2, 3] := fun j e h => match j, h with
  | 0, h => by cases h; exact ⟨_, rfl, rfl, by decide, gw 145 _ (by decide +kernel) (by decide +kernel), gw 157 _ (by decide +kernel) (by decide +kernel), (fun z hz => by cases hz), ⟨rfl, Or.inl ⟨5, (Nat.le_of_ble_eq_true rfl), dL_deal_15, dL_deal_17, dL_deal_18⟩⟩⟩
  | 1, h => by cases h; exact ⟨_, rfl, rfl, by decide, gw 146 _ (by decide +kernel) (by decide +kernel), gw 229 _ (by decide +kernel) (by decide +kernel), (List.forall_mem_cons.mpr ⟨⟨by decide, "java/lang/IndexOutOfBoundsException", gw 145 _ (by decide +kernel) (by decide +kernel), by decide +kernel⟩, (fun z hz => by cases hz)⟩), ⟨rfl, Or.inl ⟨5, (Nat.le_of_ble_eq_true rfl), dL_deal_19, dL_deal_21, dL_deal_22⟩⟩⟩
  | 2, h => by cases h; exact ⟨_, rfl, rfl, by decide, gw 147 _ (by decide +kernel) (by decide +kernel), gw 248 _ (by decide +kernel) (by decide +kernel), (List.forall_mem_cons.mpr ⟨⟨by decide, "java/lang/IndexOutOfBoundsException", gw 145 _ (by decide +kernel) (by decide +kernel), by decide +kernel⟩, (List.forall_mem_cons.mpr ⟨⟨by decide, "java/lang/IllegalArgumentException", gw 146 _ (by decide +kernel) (by decide +kernel), by decide +kernel⟩, (fun z hz => by cases hz)⟩)⟩), ⟨rfl, Or.inl ⟨5, (Nat.le_of_ble_eq_true rfl), dL_deal_23, dL_deal_25, dL_deal_26⟩⟩⟩
  | n + 3, h => by cases h
def sp_L_deal (a0 a1 a2 a3 a4 : Int) (v : V) : Res := (chk (0 ≤ a0) (rBx (sp_X7_deal a0 a1 a2 a3 v) (fun z1 v1 => (chk (0 ≤ a4) (rLet (up v1 9 a4 0 z1) (fun v4 => (rOk 0 v4))))) (kxAt 1 [1, 2, 3])))
set_option maxRecDepth 100000 in
set_option maxHeartbeats 4000000 in
theorem k_L_deal (a0 a1 a2 a3 a4 : Int) (x : Cx) (v : V) (F : Fx x cL_deal RL "deal" ({ frames := 8, cells := 8, slots := 49, locals := 131 }) 6 (some 0) (some .int) 2) (hTb : Tb x [(0, 12, 15, 13), (0, 12, 19, 15), (0, 12, 23, 17)]) (ho : ∀ a ∈ [(17, a0), (0, a1), (0, a2), (0, a3), (19, a4)], okv v a) : Gs x (sp_L_deal a0 a1 a2 a3 a4 v) v 0 0 0 (avArgs 0 [(17, a0), (0, a1), (0, a2), (0, a3), (19, a4)]) [] := by
  show Gs x _ v 0 0 0 [(0, (17, a0)), (1, (0, a1)), (2, (0, a2)), (3, (0, a3)), (4, (19, a4))] []
  unfold sp_L_deal
  refine g_aload F 4 rfl dL_deal_0 ?_
  refine g_iconst F 2 rfl dL_deal_2 ?_
  refine g_aload_n F rfl 0 rfl dL_deal_3 ?_
  refine g_iload_n F rfl 1 rfl rfl dL_deal_4 ?_
  refine g_iload_n F rfl 2 rfl rfl dL_deal_5 ?_
  refine g_iload_n F rfl 3 rfl rfl dL_deal_6 ?_
  refine g_chk (fun n2 => ?_)
  refine g_callX F hTb hx_L_deal (K := 7) (b := a0) [(0, a1), (0, a2), (0, a3)] [0, 0, 0] ml_RL_71 wi_X7_deal ws_X7_deal (c_X7_deal a0 a1 a2 a3 (Int.not_lt.mp (Int.not_lt.mpr n2))) mi_X7_deal (by decide) ⟨_, rfl, rfl⟩ (Int.not_lt.mp (Int.not_lt.mpr n2)) rfl rfl rfl (Nat.le_of_ble_eq_true rfl) (Nat.le_of_ble_eq_true rfl) (Nat.le_of_ble_eq_true rfl) (Nat.le_of_ble_eq_true rfl) (Nat.le_of_ble_eq_true rfl) dL_deal_7 (fun z1 v1 hz1 => ?_)
  refine g_i2l F rfl dL_deal_10 ?_
  refine g_chk (fun n3 => ?_)
  refine h_last F (n := 1) ak_9 rfl (Int.not_lt.mp (Int.not_lt.mpr n3)) (by decide) rfl dL_deal_11 (fun v4 => ?_)
  refine g_goto F (tgt := 27) rfl dL_deal_12 ?_
  refine g_iconst F 2 rfl dL_deal_27 ?_
  exact g_ireturn F rfl rfl rfl rfl (Nat.le_of_ble_eq_true rfl) (Nat.le_of_ble_eq_true rfl) dL_deal_28
theorem c_L_deal (a0 a1 a2 a3 a4 : Int) : ∀ l, CtW l yL_deal cL_deal 6 (some .int) [(0, 12, 15, 13), (0, 12, 19, 15), (0, 12, 23, 17)] ({ frames := 8, cells := 8, slots := 49, locals := 131 }) (some 0) [(17, a0), (0, a1), (0, a2), (0, a3), (19, a4)] (sp_L_deal a0 a1 a2 a3 a4) := g_methodW (by decide +kernel) (Nat.le_of_ble_eq_true rfl) (fun x v F hT ho => k_L_deal a0 a1 a2 a3 a4 x v F hT ho)
theorem hx_L_tell : HX RL cL_tell 6 7 [(0, 19, 22, 13), (0, 19, 26, 17)] [1, 3] := fun j e h => match j, h with
  | 0, h => by cases h; exact ⟨_, rfl, rfl, by decide, gw 145 _ (by decide +kernel) (by decide +kernel), gw 157 _ (by decide +kernel) (by decide +kernel), (fun z hz => by cases hz), ⟨rfl, Or.inl ⟨5, (Nat.le_of_ble_eq_true rfl), dL_tell_22, dL_tell_24, dL_tell_25⟩⟩⟩
  | 1, h => by cases h; exact ⟨_, rfl, rfl, by decide, gw 147 _ (by decide +kernel) (by decide +kernel), gw 248 _ (by decide +kernel) (by decide +kernel), (List.forall_mem_cons.mpr ⟨⟨by decide, "java/lang/IndexOutOfBoundsException", gw 145 _ (by decide +kernel) (by decide +kernel), by decide +kernel⟩, (fun z hz => by cases hz)⟩), ⟨rfl, Or.inl ⟨5, (Nat.le_of_ble_eq_true rfl), dL_tell_26, dL_tell_28, dL_tell_29⟩⟩⟩
  | n + 2, h => by cases h
def sp_L_tell (a0 a1 a2 a3 a4 : Int) (v : V) : Res := (chk (0 ≤ a0) (rBx (sp_X7_tell a0 a1 a2 a3 v) (fun z1 v1 => (if z1 = 0 then (chk (0 ≤ a4) (rLet (up v1 9 a4 0 0) (fun v5 => (rOk 0 v5))))
   else (chk (0 ≤ a4) (rLet (up v1 9 a4 0 1) (fun v7 => (rOk 0 v7)))))) (kxAt 1 [1, 3])))
set_option maxRecDepth 100000 in
set_option maxHeartbeats 4000000 in
theorem k_L_tell (a0 a1 a2 a3 a4 : Int) (x : Cx) (v : V) (F : Fx x cL_tell RL "tell" ({ frames := 8, cells := 4, slots := 24, locals := 130 }) 6 (some 0) (some .int) 2) (hTb : Tb x [(0, 19, 22, 13), (0, 19, 26, 17)]) (ho : ∀ a ∈ [(17, a0), (0, a1), (0, a2), (0, a3), (19, a4)], okv v a) : Gs x (sp_L_tell a0 a1 a2 a3 a4 v) v 0 0 0 (avArgs 0 [(17, a0), (0, a1), (0, a2), (0, a3), (19, a4)]) [] := by
  show Gs x _ v 0 0 0 [(0, (17, a0)), (1, (0, a1)), (2, (0, a2)), (3, (0, a3)), (4, (19, a4))] []
  unfold sp_L_tell
  refine g_aload F 4 rfl dL_tell_0 ?_
  refine g_iconst F 2 rfl dL_tell_2 ?_
  refine g_aload_n F rfl 0 rfl dL_tell_3 ?_
  refine g_iload_n F rfl 1 rfl rfl dL_tell_4 ?_
  refine g_iload_n F rfl 2 rfl rfl dL_tell_5 ?_
  refine g_iload_n F rfl 3 rfl rfl dL_tell_6 ?_
  refine g_chk (fun n2 => ?_)
  refine g_callX F hTb hx_L_tell (K := 7) (b := a0) [(0, a1), (0, a2), (0, a3)] [0, 0, 0] ml_RL_75 wi_X7_tell ws_X7_tell (c_X7_tell a0 a1 a2 a3 (Int.not_lt.mp (Int.not_lt.mpr n2))) mi_X7_tell (by decide) ⟨_, rfl, rfl⟩ (Int.not_lt.mp (Int.not_lt.mpr n2)) rfl rfl rfl (Nat.le_of_ble_eq_true rfl) (Nat.le_of_ble_eq_true rfl) (Nat.le_of_ble_eq_true rfl) (Nat.le_of_ble_eq_true rfl) (Nat.le_of_ble_eq_true rfl) dL_tell_7 (fun z1 v1 hz1 => ?_)
  refine g_if_eq F rfl (tgt := 17) rfl dL_tell_10 (fun n3 => ?_) (fun n3 => ?_)
  · refine g_lconst F (z := 0) rfl dL_tell_17 ?_
    refine g_chk (fun n4 => ?_)
    refine h_last F (n := 1) ak_9 rfl (Int.not_lt.mp (Int.not_lt.mpr n4)) (by decide) rfl dL_tell_18 (fun v5 => ?_)
    refine g_goto F (tgt := 30) rfl dL_tell_19 ?_
    refine g_iconst F 2 rfl dL_tell_30 ?_
    exact g_ireturn F rfl rfl rfl rfl (Nat.le_of_ble_eq_true rfl) (Nat.le_of_ble_eq_true rfl) dL_tell_31
  · refine g_lconst F (z := 1) rfl dL_tell_13 ?_
    refine g_goto F (tgt := 18) rfl dL_tell_14 ?_
    refine g_chk (fun n6 => ?_)
    refine h_last F (n := 1) ak_9 rfl (Int.not_lt.mp (Int.not_lt.mpr n6)) (by decide) rfl dL_tell_18 (fun v7 => ?_)
    refine g_goto F (tgt := 30) rfl dL_tell_19 ?_
    refine g_iconst F 2 rfl dL_tell_30 ?_
    exact g_ireturn F rfl rfl rfl rfl (Nat.le_of_ble_eq_true rfl) (Nat.le_of_ble_eq_true rfl) dL_tell_31
theorem c_L_tell (a0 a1 a2 a3 a4 : Int) : ∀ l, CtW l yL_tell cL_tell 6 (some .int) [(0, 19, 22, 13), (0, 19, 26, 17)] ({ frames := 8, cells := 4, slots := 24, locals := 130 }) (some 0) [(17, a0), (0, a1), (0, a2), (0, a3), (19, a4)] (sp_L_tell a0 a1 a2 a3 a4) := g_methodW (by decide +kernel) (Nat.le_of_ble_eq_true rfl) (fun x v F hT ho => k_L_tell a0 a1 a2 a3 a4 x v F hT ho)
theorem hx_L_restore : HX RL cL_restore 5 5 [(0, 10, 13, 13), (0, 10, 17, 17)] [1, 3] := fun j e h => match j, h with
  | 0, h => by cases h; exact ⟨_, rfl, rfl, by decide, gw 145 _ (by decide +kernel) (by decide +kernel), gw 157 _ (by decide +kernel) (by decide +kernel), (fun z hz => by cases hz), ⟨rfl, Or.inl ⟨4, (Nat.le_of_ble_eq_true rfl), dL_restore_13, dL_restore_15, dL_restore_16⟩⟩⟩
  | 1, h => by cases h; exact ⟨_, rfl, rfl, by decide, gw 147 _ (by decide +kernel) (by decide +kernel), gw 248 _ (by decide +kernel) (by decide +kernel), (List.forall_mem_cons.mpr ⟨⟨by decide, "java/lang/IndexOutOfBoundsException", gw 145 _ (by decide +kernel) (by decide +kernel), by decide +kernel⟩, (fun z hz => by cases hz)⟩), ⟨rfl, Or.inl ⟨4, (Nat.le_of_ble_eq_true rfl), dL_restore_17, dL_restore_19, dL_restore_20⟩⟩⟩
  | n + 2, h => by cases h
def sp_L_restore (a0 a1 a2 a3 : Int) (v : V) : Res := (chk (0 ≤ a0) (rBx (sp_X7_restore a0 a1 a2 v) (fun z1 v1 => (chk (0 ≤ a3) (rLet (up v1 9 a3 0 z1) (fun v4 => (rOk 0 v4))))) (kxAt 1 [1, 3])))
set_option maxRecDepth 100000 in
set_option maxHeartbeats 4000000 in
theorem k_L_restore (a0 a1 a2 a3 : Int) (x : Cx) (v : V) (F : Fx x cL_restore RL "restore" ({ frames := 8, cells := 3, slots := 18, locals := 128 }) 5 (some 0) (some .int) 2) (hTb : Tb x [(0, 10, 13, 13), (0, 10, 17, 17)]) (ho : ∀ a ∈ [(17, a0), (0, a1), (0, a2), (19, a3)], okv v a) : Gs x (sp_L_restore a0 a1 a2 a3 v) v 0 0 0 (avArgs 0 [(17, a0), (0, a1), (0, a2), (19, a3)]) [] := by
  show Gs x _ v 0 0 0 [(0, (17, a0)), (1, (0, a1)), (2, (0, a2)), (3, (19, a3))] []
  unfold sp_L_restore
  refine g_aload_n F rfl 3 rfl dL_restore_0 ?_
  refine g_iconst F 2 rfl dL_restore_1 ?_
  refine g_aload_n F rfl 0 rfl dL_restore_2 ?_
  refine g_iload_n F rfl 1 rfl rfl dL_restore_3 ?_
  refine g_iload_n F rfl 2 rfl rfl dL_restore_4 ?_
  refine g_chk (fun n2 => ?_)
  refine g_callX F hTb hx_L_restore (K := 7) (b := a0) [(0, a1), (0, a2)] [0, 0] ml_RL_79 wi_X7_restore ws_X7_restore (c_X7_restore a0 a1 a2 (Int.not_lt.mp (Int.not_lt.mpr n2))) mi_X7_restore (by decide) ⟨_, rfl, rfl⟩ (Int.not_lt.mp (Int.not_lt.mpr n2)) rfl rfl rfl (Nat.le_of_ble_eq_true rfl) (Nat.le_of_ble_eq_true rfl) (Nat.le_of_ble_eq_true rfl) (Nat.le_of_ble_eq_true rfl) (Nat.le_of_ble_eq_true rfl) dL_restore_5 (fun z1 v1 hz1 => ?_)
  refine g_i2l F rfl dL_restore_8 ?_
  refine g_chk (fun n3 => ?_)
  refine h_last F (n := 1) ak_9 rfl (Int.not_lt.mp (Int.not_lt.mpr n3)) (by decide) rfl dL_restore_9 (fun v4 => ?_)
  refine g_goto F (tgt := 21) rfl dL_restore_10 ?_
  refine g_iconst F 2 rfl dL_restore_21 ?_
  exact g_ireturn F rfl rfl rfl rfl (Nat.le_of_ble_eq_true rfl) (Nat.le_of_ble_eq_true rfl) dL_restore_22
theorem c_L_restore (a0 a1 a2 a3 : Int) : ∀ l, CtW l yL_restore cL_restore 5 (some .int) [(0, 10, 13, 13), (0, 10, 17, 17)] ({ frames := 8, cells := 3, slots := 18, locals := 128 }) (some 0) [(17, a0), (0, a1), (0, a2), (19, a3)] (sp_L_restore a0 a1 a2 a3) := g_methodW (by decide +kernel) (Nat.le_of_ble_eq_true rfl) (fun x v F hT ho => k_L_restore a0 a1 a2 a3 x v F hT ho)
theorem hx_L_lend : HX RL cL_lend 8 11 [(0, 16, 19, 13), (0, 16, 23, 15), (0, 16, 27, 17)] [1, 2, 3] := fun j e h => match j, h with
  | 0, h => by cases h; exact ⟨_, rfl, rfl, by decide, gw 145 _ (by decide +kernel) (by decide +kernel), gw 157 _ (by decide +kernel) (by decide +kernel), (fun z hz => by cases hz), ⟨rfl, Or.inl ⟨7, (Nat.le_of_ble_eq_true rfl), dL_lend_19, dL_lend_21, dL_lend_22⟩⟩⟩
  | 1, h => by cases h; exact ⟨_, rfl, rfl, by decide, gw 146 _ (by decide +kernel) (by decide +kernel), gw 229 _ (by decide +kernel) (by decide +kernel), (List.forall_mem_cons.mpr ⟨⟨by decide, "java/lang/IndexOutOfBoundsException", gw 145 _ (by decide +kernel) (by decide +kernel), by decide +kernel⟩, (fun z hz => by cases hz)⟩), ⟨rfl, Or.inl ⟨7, (Nat.le_of_ble_eq_true rfl), dL_lend_23, dL_lend_25, dL_lend_26⟩⟩⟩
  | 2, h => by cases h; exact ⟨_, rfl, rfl, by decide, gw 147 _ (by decide +kernel) (by decide +kernel), gw 248 _ (by decide +kernel) (by decide +kernel), (List.forall_mem_cons.mpr ⟨⟨by decide, "java/lang/IndexOutOfBoundsException", gw 145 _ (by decide +kernel) (by decide +kernel), by decide +kernel⟩, (List.forall_mem_cons.mpr ⟨⟨by decide, "java/lang/IllegalArgumentException", gw 146 _ (by decide +kernel) (by decide +kernel), by decide +kernel⟩, (fun z hz => by cases hz)⟩)⟩), ⟨rfl, Or.inl ⟨7, (Nat.le_of_ble_eq_true rfl), dL_lend_27, dL_lend_29, dL_lend_30⟩⟩⟩
  | n + 3, h => by cases h
def sp_L_lend (a0 a1 a2 a3 a4 a5 a6 : Int) (v : V) : Res := (chk (0 ≤ a0) (rBx (sp_X7_lend a0 a1 a2 a3 a4 a5 v) (fun z1 v1 => (chk (0 ≤ a6) (rLet (up v1 9 a6 0 z1) (fun v4 => (rOk 0 v4))))) (kxAt 1 [1, 2, 3])))
set_option maxRecDepth 100000 in
set_option maxHeartbeats 4000000 in
theorem k_L_lend (a0 a1 a2 a3 a4 a5 a6 : Int) (x : Cx) (v : V) (F : Fx x cL_lend RL "lend" ({ frames := 8, cells := 10, slots := 62, locals := 133 }) 8 (some 0) (some .int) 2) (hTb : Tb x [(0, 16, 19, 13), (0, 16, 23, 15), (0, 16, 27, 17)]) (ho : ∀ a ∈ [(17, a0), (0, a1), (0, a2), (0, a3), (0, a4), (0, a5), (19, a6)], okv v a) : Gs x (sp_L_lend a0 a1 a2 a3 a4 a5 a6 v) v 0 0 0 (avArgs 0 [(17, a0), (0, a1), (0, a2), (0, a3), (0, a4), (0, a5), (19, a6)]) [] := by
  show Gs x _ v 0 0 0 [(0, (17, a0)), (1, (0, a1)), (2, (0, a2)), (3, (0, a3)), (4, (0, a4)), (5, (0, a5)), (6, (19, a6))] []
  unfold sp_L_lend
  refine g_aload F 6 rfl dL_lend_0 ?_
  refine g_iconst F 2 rfl dL_lend_2 ?_
  refine g_aload_n F rfl 0 rfl dL_lend_3 ?_
  refine g_iload_n F rfl 1 rfl rfl dL_lend_4 ?_
  refine g_iload_n F rfl 2 rfl rfl dL_lend_5 ?_
  refine g_iload_n F rfl 3 rfl rfl dL_lend_6 ?_
  refine g_iload F 4 rfl rfl dL_lend_7 ?_
  refine g_iload F 5 rfl rfl dL_lend_9 ?_
  refine g_chk (fun n2 => ?_)
  refine g_callX F hTb hx_L_lend (K := 7) (b := a0) [(0, a1), (0, a2), (0, a3), (0, a4), (0, a5)] [0, 0, 0, 0, 0] ml_RL_82 wi_X7_lend ws_X7_lend (c_X7_lend a0 a1 a2 a3 a4 a5 (Int.not_lt.mp (Int.not_lt.mpr n2))) mi_X7_lend (by decide) ⟨_, rfl, rfl⟩ (Int.not_lt.mp (Int.not_lt.mpr n2)) rfl rfl rfl (Nat.le_of_ble_eq_true rfl) (Nat.le_of_ble_eq_true rfl) (Nat.le_of_ble_eq_true rfl) (Nat.le_of_ble_eq_true rfl) (Nat.le_of_ble_eq_true rfl) dL_lend_11 (fun z1 v1 hz1 => ?_)
  refine g_i2l F rfl dL_lend_14 ?_
  refine g_chk (fun n3 => ?_)
  refine h_last F (n := 1) ak_9 rfl (Int.not_lt.mp (Int.not_lt.mpr n3)) (by decide) rfl dL_lend_15 (fun v4 => ?_)
  refine g_goto F (tgt := 31) rfl dL_lend_16 ?_
  refine g_iconst F 2 rfl dL_lend_31 ?_
  exact g_ireturn F rfl rfl rfl rfl (Nat.le_of_ble_eq_true rfl) (Nat.le_of_ble_eq_true rfl) dL_lend_32
theorem c_L_lend (a0 a1 a2 a3 a4 a5 a6 : Int) : ∀ l, CtW l yL_lend cL_lend 8 (some .int) [(0, 16, 19, 13), (0, 16, 23, 15), (0, 16, 27, 17)] ({ frames := 8, cells := 10, slots := 62, locals := 133 }) (some 0) [(17, a0), (0, a1), (0, a2), (0, a3), (0, a4), (0, a5), (19, a6)] (sp_L_lend a0 a1 a2 a3 a4 a5 a6) := g_methodW (by decide +kernel) (Nat.le_of_ble_eq_true rfl) (fun x v F hT ho => k_L_lend a0 a1 a2 a3 a4 a5 a6 x v F hT ho)
theorem hx_L_repay : HX RL cL_repay 4 4 [(0, 9, 12, 13), (0, 9, 15, 17)] [1, 3] := fun j e h => match j, h with
  | 0, h => by cases h; exact ⟨_, rfl, rfl, by decide, gw 145 _ (by decide +kernel) (by decide +kernel), gw 157 _ (by decide +kernel) (by decide +kernel), (fun z hz => by cases hz), ⟨rfl, Or.inr ⟨3, (Nat.le_of_ble_eq_true rfl), dL_repay_12, dL_repay_13, dL_repay_14⟩⟩⟩
  | 1, h => by cases h; exact ⟨_, rfl, rfl, by decide, gw 147 _ (by decide +kernel) (by decide +kernel), gw 248 _ (by decide +kernel) (by decide +kernel), (List.forall_mem_cons.mpr ⟨⟨by decide, "java/lang/IndexOutOfBoundsException", gw 145 _ (by decide +kernel) (by decide +kernel), by decide +kernel⟩, (fun z hz => by cases hz)⟩), ⟨rfl, Or.inr ⟨3, (Nat.le_of_ble_eq_true rfl), dL_repay_15, dL_repay_16, dL_repay_17⟩⟩⟩
  | n + 2, h => by cases h
def sp_L_repay (a0 a1 a2 : Int) (v : V) : Res := (chk (0 ≤ a0) (rBx (sp_X7_repay a0 a1 v) (fun z1 v1 => (chk (0 ≤ a2) (rLet (up v1 9 a2 0 z1) (fun v4 => (rOk 0 v4))))) (kxAt 1 [1, 3])))
set_option maxRecDepth 100000 in
set_option maxHeartbeats 4000000 in
theorem k_L_repay (a0 a1 a2 : Int) (x : Cx) (v : V) (F : Fx x cL_repay RL "repay" ({ frames := 8, cells := 2, slots := 12, locals := 126 }) 4 (some 0) (some .int) 2) (hTb : Tb x [(0, 9, 12, 13), (0, 9, 15, 17)]) (ho : ∀ a ∈ [(17, a0), (0, a1), (19, a2)], okv v a) : Gs x (sp_L_repay a0 a1 a2 v) v 0 0 0 (avArgs 0 [(17, a0), (0, a1), (19, a2)]) [] := by
  show Gs x _ v 0 0 0 [(0, (17, a0)), (1, (0, a1)), (2, (19, a2))] []
  unfold sp_L_repay
  refine g_aload_n F rfl 2 rfl dL_repay_0 ?_
  refine g_iconst F 2 rfl dL_repay_1 ?_
  refine g_aload_n F rfl 0 rfl dL_repay_2 ?_
  refine g_iload_n F rfl 1 rfl rfl dL_repay_3 ?_
  refine g_chk (fun n2 => ?_)
  refine g_callX F hTb hx_L_repay (K := 7) (b := a0) [(0, a1)] [0] ml_RL_86 wi_X7_repay ws_X7_repay (c_X7_repay a0 a1 (Int.not_lt.mp (Int.not_lt.mpr n2))) mi_X7_repay (by decide) ⟨_, rfl, rfl⟩ (Int.not_lt.mp (Int.not_lt.mpr n2)) rfl rfl rfl (Nat.le_of_ble_eq_true rfl) (Nat.le_of_ble_eq_true rfl) (Nat.le_of_ble_eq_true rfl) (Nat.le_of_ble_eq_true rfl) (Nat.le_of_ble_eq_true rfl) dL_repay_4 (fun z1 v1 hz1 => ?_)
  refine g_i2l F rfl dL_repay_7 ?_
  refine g_chk (fun n3 => ?_)
  refine h_last F (n := 1) ak_9 rfl (Int.not_lt.mp (Int.not_lt.mpr n3)) (by decide) rfl dL_repay_8 (fun v4 => ?_)
  refine g_goto F (tgt := 18) rfl dL_repay_9 ?_
  refine g_iconst F 2 rfl dL_repay_18 ?_
  exact g_ireturn F rfl rfl rfl rfl (Nat.le_of_ble_eq_true rfl) (Nat.le_of_ble_eq_true rfl) dL_repay_19
theorem c_L_repay (a0 a1 a2 : Int) : ∀ l, CtW l yL_repay cL_repay 4 (some .int) [(0, 9, 12, 13), (0, 9, 15, 17)] ({ frames := 8, cells := 2, slots := 12, locals := 126 }) (some 0) [(17, a0), (0, a1), (19, a2)] (sp_L_repay a0 a1 a2) := g_methodW (by decide +kernel) (Nat.le_of_ble_eq_true rfl) (fun x v F hT ho => k_L_repay a0 a1 a2 x v F hT ho)
theorem hx_L_seize : HX RL cL_seize 4 4 [(0, 9, 12, 13), (0, 9, 15, 17)] [1, 3] := fun j e h => match j, h with
  | 0, h => by cases h; exact ⟨_, rfl, rfl, by decide, gw 145 _ (by decide +kernel) (by decide +kernel), gw 157 _ (by decide +kernel) (by decide +kernel), (fun z hz => by cases hz), ⟨rfl, Or.inr ⟨3, (Nat.le_of_ble_eq_true rfl), dL_seize_12, dL_seize_13, dL_seize_14⟩⟩⟩
  | 1, h => by cases h; exact ⟨_, rfl, rfl, by decide, gw 147 _ (by decide +kernel) (by decide +kernel), gw 248 _ (by decide +kernel) (by decide +kernel), (List.forall_mem_cons.mpr ⟨⟨by decide, "java/lang/IndexOutOfBoundsException", gw 145 _ (by decide +kernel) (by decide +kernel), by decide +kernel⟩, (fun z hz => by cases hz)⟩), ⟨rfl, Or.inr ⟨3, (Nat.le_of_ble_eq_true rfl), dL_seize_15, dL_seize_16, dL_seize_17⟩⟩⟩
  | n + 2, h => by cases h
def sp_L_seize (a0 a1 a2 : Int) (v : V) : Res := (chk (0 ≤ a0) (rBx (sp_X7_seize a0 a1 v) (fun z1 v1 => (chk (0 ≤ a2) (rLet (up v1 9 a2 0 z1) (fun v4 => (rOk 0 v4))))) (kxAt 1 [1, 3])))
set_option maxRecDepth 100000 in
set_option maxHeartbeats 4000000 in
theorem k_L_seize (a0 a1 a2 : Int) (x : Cx) (v : V) (F : Fx x cL_seize RL "seize" ({ frames := 8, cells := 2, slots := 12, locals := 135 }) 4 (some 0) (some .int) 2) (hTb : Tb x [(0, 9, 12, 13), (0, 9, 15, 17)]) (ho : ∀ a ∈ [(17, a0), (0, a1), (19, a2)], okv v a) : Gs x (sp_L_seize a0 a1 a2 v) v 0 0 0 (avArgs 0 [(17, a0), (0, a1), (19, a2)]) [] := by
  show Gs x _ v 0 0 0 [(0, (17, a0)), (1, (0, a1)), (2, (19, a2))] []
  unfold sp_L_seize
  refine g_aload_n F rfl 2 rfl dL_seize_0 ?_
  refine g_iconst F 2 rfl dL_seize_1 ?_
  refine g_aload_n F rfl 0 rfl dL_seize_2 ?_
  refine g_iload_n F rfl 1 rfl rfl dL_seize_3 ?_
  refine g_chk (fun n2 => ?_)
  refine g_callX F hTb hx_L_seize (K := 7) (b := a0) [(0, a1)] [0] ml_RL_89 wi_X7_seize ws_X7_seize (c_X7_seize a0 a1 (Int.not_lt.mp (Int.not_lt.mpr n2))) mi_X7_seize (by decide) ⟨_, rfl, rfl⟩ (Int.not_lt.mp (Int.not_lt.mpr n2)) rfl rfl rfl (Nat.le_of_ble_eq_true rfl) (Nat.le_of_ble_eq_true rfl) (Nat.le_of_ble_eq_true rfl) (Nat.le_of_ble_eq_true rfl) (Nat.le_of_ble_eq_true rfl) dL_seize_4 (fun z1 v1 hz1 => ?_)
  refine g_i2l F rfl dL_seize_7 ?_
  refine g_chk (fun n3 => ?_)
  refine h_last F (n := 1) ak_9 rfl (Int.not_lt.mp (Int.not_lt.mpr n3)) (by decide) rfl dL_seize_8 (fun v4 => ?_)
  refine g_goto F (tgt := 18) rfl dL_seize_9 ?_
  refine g_iconst F 2 rfl dL_seize_18 ?_
  exact g_ireturn F rfl rfl rfl rfl (Nat.le_of_ble_eq_true rfl) (Nat.le_of_ble_eq_true rfl) dL_seize_19
theorem c_L_seize (a0 a1 a2 : Int) : ∀ l, CtW l yL_seize cL_seize 4 (some .int) [(0, 9, 12, 13), (0, 9, 15, 17)] ({ frames := 8, cells := 2, slots := 12, locals := 135 }) (some 0) [(17, a0), (0, a1), (19, a2)] (sp_L_seize a0 a1 a2) := g_methodW (by decide +kernel) (Nat.le_of_ble_eq_true rfl) (fun x v F hT ho => k_L_seize a0 a1 a2 x v F hT ho)
theorem hx_L_assign : HX RL cL_assign 6 7 [(0, 12, 15, 13), (0, 12, 19, 15), (0, 12, 23, 17)] [1, 2, 3] := fun j e h => match j, h with
  | 0, h => by cases h; exact ⟨_, rfl, rfl, by decide, gw 145 _ (by decide +kernel) (by decide +kernel), gw 157 _ (by decide +kernel) (by decide +kernel), (fun z hz => by cases hz), ⟨rfl, Or.inl ⟨5, (Nat.le_of_ble_eq_true rfl), dL_assign_15, dL_assign_17, dL_assign_18⟩⟩⟩
  | 1, h => by cases h; exact ⟨_, rfl, rfl, by decide, gw 146 _ (by decide +kernel) (by decide +kernel), gw 229 _ (by decide +kernel) (by decide +kernel), (List.forall_mem_cons.mpr ⟨⟨by decide, "java/lang/IndexOutOfBoundsException", gw 145 _ (by decide +kernel) (by decide +kernel), by decide +kernel⟩, (fun z hz => by cases hz)⟩), ⟨rfl, Or.inl ⟨5, (Nat.le_of_ble_eq_true rfl), dL_assign_19, dL_assign_21, dL_assign_22⟩⟩⟩
  | 2, h => by cases h; exact ⟨_, rfl, rfl, by decide, gw 147 _ (by decide +kernel) (by decide +kernel), gw 248 _ (by decide +kernel) (by decide +kernel), (List.forall_mem_cons.mpr ⟨⟨by decide, "java/lang/IndexOutOfBoundsException", gw 145 _ (by decide +kernel) (by decide +kernel), by decide +kernel⟩, (List.forall_mem_cons.mpr ⟨⟨by decide, "java/lang/IllegalArgumentException", gw 146 _ (by decide +kernel) (by decide +kernel), by decide +kernel⟩, (fun z hz => by cases hz)⟩)⟩), ⟨rfl, Or.inl ⟨5, (Nat.le_of_ble_eq_true rfl), dL_assign_23, dL_assign_25, dL_assign_26⟩⟩⟩
  | n + 3, h => by cases h
def sp_L_assign (a0 a1 a2 a3 a4 : Int) (v : V) : Res := (chk (0 ≤ a0) (rBx (sp_X7_assign a0 a1 a2 a3 v) (fun z1 v1 => (chk (0 ≤ a4) (rLet (up v1 9 a4 0 z1) (fun v4 => (rOk 0 v4))))) (kxAt 1 [1, 2, 3])))
set_option maxRecDepth 100000 in
set_option maxHeartbeats 4000000 in
theorem k_L_assign (a0 a1 a2 a3 a4 : Int) (x : Cx) (v : V) (F : Fx x cL_assign RL "assign" ({ frames := 8, cells := 6, slots := 36, locals := 130 }) 6 (some 0) (some .int) 2) (hTb : Tb x [(0, 12, 15, 13), (0, 12, 19, 15), (0, 12, 23, 17)]) (ho : ∀ a ∈ [(17, a0), (0, a1), (0, a2), (0, a3), (19, a4)], okv v a) : Gs x (sp_L_assign a0 a1 a2 a3 a4 v) v 0 0 0 (avArgs 0 [(17, a0), (0, a1), (0, a2), (0, a3), (19, a4)]) [] := by
  show Gs x _ v 0 0 0 [(0, (17, a0)), (1, (0, a1)), (2, (0, a2)), (3, (0, a3)), (4, (19, a4))] []
  unfold sp_L_assign
  refine g_aload F 4 rfl dL_assign_0 ?_
  refine g_iconst F 2 rfl dL_assign_2 ?_
  refine g_aload_n F rfl 0 rfl dL_assign_3 ?_
  refine g_iload_n F rfl 1 rfl rfl dL_assign_4 ?_
  refine g_iload_n F rfl 2 rfl rfl dL_assign_5 ?_
  refine g_iload_n F rfl 3 rfl rfl dL_assign_6 ?_
  refine g_chk (fun n2 => ?_)
  refine g_callX F hTb hx_L_assign (K := 7) (b := a0) [(0, a1), (0, a2), (0, a3)] [0, 0, 0] ml_RL_92 wi_X7_assign ws_X7_assign (c_X7_assign a0 a1 a2 a3 (Int.not_lt.mp (Int.not_lt.mpr n2))) mi_X7_assign (by decide) ⟨_, rfl, rfl⟩ (Int.not_lt.mp (Int.not_lt.mpr n2)) rfl rfl rfl (Nat.le_of_ble_eq_true rfl) (Nat.le_of_ble_eq_true rfl) (Nat.le_of_ble_eq_true rfl) (Nat.le_of_ble_eq_true rfl) (Nat.le_of_ble_eq_true rfl) dL_assign_7 (fun z1 v1 hz1 => ?_)
  refine g_i2l F rfl dL_assign_10 ?_
  refine g_chk (fun n3 => ?_)
  refine h_last F (n := 1) ak_9 rfl (Int.not_lt.mp (Int.not_lt.mpr n3)) (by decide) rfl dL_assign_11 (fun v4 => ?_)
  refine g_goto F (tgt := 27) rfl dL_assign_12 ?_
  refine g_iconst F 2 rfl dL_assign_27 ?_
  exact g_ireturn F rfl rfl rfl rfl (Nat.le_of_ble_eq_true rfl) (Nat.le_of_ble_eq_true rfl) dL_assign_28
theorem c_L_assign (a0 a1 a2 a3 a4 : Int) : ∀ l, CtW l yL_assign cL_assign 6 (some .int) [(0, 12, 15, 13), (0, 12, 19, 15), (0, 12, 23, 17)] ({ frames := 8, cells := 6, slots := 36, locals := 130 }) (some 0) [(17, a0), (0, a1), (0, a2), (0, a3), (19, a4)] (sp_L_assign a0 a1 a2 a3 a4) := g_methodW (by decide +kernel) (Nat.le_of_ble_eq_true rfl) (fun x v F hT ho => k_L_assign a0 a1 a2 a3 a4 x v F hT ho)
theorem hx_L_bars : HX RL cL_bars 7 9 [(0, 14, 17, 13), (0, 14, 21, 15)] [1, 2] := fun j e h => match j, h with
  | 0, h => by cases h; exact ⟨_, rfl, rfl, by decide, gw 145 _ (by decide +kernel) (by decide +kernel), gw 157 _ (by decide +kernel) (by decide +kernel), (fun z hz => by cases hz), ⟨rfl, Or.inl ⟨6, (Nat.le_of_ble_eq_true rfl), dL_bars_17, dL_bars_19, dL_bars_20⟩⟩⟩
  | 1, h => by cases h; exact ⟨_, rfl, rfl, by decide, gw 146 _ (by decide +kernel) (by decide +kernel), gw 229 _ (by decide +kernel) (by decide +kernel), (List.forall_mem_cons.mpr ⟨⟨by decide, "java/lang/IndexOutOfBoundsException", gw 145 _ (by decide +kernel) (by decide +kernel), by decide +kernel⟩, (fun z hz => by cases hz)⟩), ⟨rfl, Or.inl ⟨6, (Nat.le_of_ble_eq_true rfl), dL_bars_21, dL_bars_23, dL_bars_24⟩⟩⟩
  | n + 2, h => by cases h
def sp_L_bars (a0 a1 a2 a3 a4 a5 : Int) (v : V) : Res := (chk (0 ≤ a0) (rBx (sp_X7_bars a0 a1 a2 a3 a4 v) (fun z1 v1 => (chk (0 ≤ a5) (rLet (up v1 9 a5 0 z1) (fun v4 => (rOk 0 v4))))) (kxAt 1 [1, 2])))
set_option maxRecDepth 100000 in
set_option maxHeartbeats 4000000 in
theorem k_L_bars (a0 a1 a2 a3 a4 a5 : Int) (x : Cx) (v : V) (F : Fx x cL_bars RL "bars" ({ frames := 9, cells := 5, slots := 30, locals := 153 }) 7 (some 0) (some .int) 2) (hTb : Tb x [(0, 14, 17, 13), (0, 14, 21, 15)]) (ho : ∀ a ∈ [(17, a0), (0, a1), (0, a2), (0, a3), (0, a4), (19, a5)], okv v a) : Gs x (sp_L_bars a0 a1 a2 a3 a4 a5 v) v 0 0 0 (avArgs 0 [(17, a0), (0, a1), (0, a2), (0, a3), (0, a4), (19, a5)]) [] := by
  show Gs x _ v 0 0 0 [(0, (17, a0)), (1, (0, a1)), (2, (0, a2)), (3, (0, a3)), (4, (0, a4)), (5, (19, a5))] []
  unfold sp_L_bars
  refine g_aload F 5 rfl dL_bars_0 ?_
  refine g_iconst F 2 rfl dL_bars_2 ?_
  refine g_aload_n F rfl 0 rfl dL_bars_3 ?_
  refine g_iload_n F rfl 1 rfl rfl dL_bars_4 ?_
  refine g_iload_n F rfl 2 rfl rfl dL_bars_5 ?_
  refine g_iload_n F rfl 3 rfl rfl dL_bars_6 ?_
  refine g_iload F 4 rfl rfl dL_bars_7 ?_
  refine g_chk (fun n2 => ?_)
  refine g_callX F hTb hx_L_bars (K := 7) (b := a0) [(0, a1), (0, a2), (0, a3), (0, a4)] [0, 0, 0, 0] ml_RL_95 wi_X7_bars ws_X7_bars (c_X7_bars a0 a1 a2 a3 a4 (Int.not_lt.mp (Int.not_lt.mpr n2))) mi_X7_bars (by decide) ⟨_, rfl, rfl⟩ (Int.not_lt.mp (Int.not_lt.mpr n2)) rfl rfl rfl (Nat.le_of_ble_eq_true rfl) (Nat.le_of_ble_eq_true rfl) (Nat.le_of_ble_eq_true rfl) (Nat.le_of_ble_eq_true rfl) (Nat.le_of_ble_eq_true rfl) dL_bars_9 (fun z1 v1 hz1 => ?_)
  refine g_i2l F rfl dL_bars_12 ?_
  refine g_chk (fun n3 => ?_)
  refine h_last F (n := 1) ak_9 rfl (Int.not_lt.mp (Int.not_lt.mpr n3)) (by decide) rfl dL_bars_13 (fun v4 => ?_)
  refine g_goto F (tgt := 25) rfl dL_bars_14 ?_
  refine g_iconst F 2 rfl dL_bars_25 ?_
  exact g_ireturn F rfl rfl rfl rfl (Nat.le_of_ble_eq_true rfl) (Nat.le_of_ble_eq_true rfl) dL_bars_26
theorem c_L_bars (a0 a1 a2 a3 a4 a5 : Int) : ∀ l, CtW l yL_bars cL_bars 7 (some .int) [(0, 14, 17, 13), (0, 14, 21, 15)] ({ frames := 9, cells := 5, slots := 30, locals := 153 }) (some 0) [(17, a0), (0, a1), (0, a2), (0, a3), (0, a4), (19, a5)] (sp_L_bars a0 a1 a2 a3 a4 a5) := g_methodW (by decide +kernel) (Nat.le_of_ble_eq_true rfl) (fun x v F hT ho => k_L_bars a0 a1 a2 a3 a4 a5 x v F hT ho)
theorem hx_L_barredBy : HX RL cL_barredBy 7 9 [(0, 14, 17, 13), (0, 14, 21, 15)] [1, 2] := fun j e h => match j, h with
  | 0, h => by cases h; exact ⟨_, rfl, rfl, by decide, gw 145 _ (by decide +kernel) (by decide +kernel), gw 157 _ (by decide +kernel) (by decide +kernel), (fun z hz => by cases hz), ⟨rfl, Or.inl ⟨6, (Nat.le_of_ble_eq_true rfl), dL_barredBy_17, dL_barredBy_19, dL_barredBy_20⟩⟩⟩
  | 1, h => by cases h; exact ⟨_, rfl, rfl, by decide, gw 146 _ (by decide +kernel) (by decide +kernel), gw 229 _ (by decide +kernel) (by decide +kernel), (List.forall_mem_cons.mpr ⟨⟨by decide, "java/lang/IndexOutOfBoundsException", gw 145 _ (by decide +kernel) (by decide +kernel), by decide +kernel⟩, (fun z hz => by cases hz)⟩), ⟨rfl, Or.inl ⟨6, (Nat.le_of_ble_eq_true rfl), dL_barredBy_21, dL_barredBy_23, dL_barredBy_24⟩⟩⟩
  | n + 2, h => by cases h
def sp_L_barredBy (a0 a1 a2 a3 a4 a5 : Int) (v : V) : Res := (chk (0 ≤ a0) (rBx (sp_X7_barredBy a0 a1 a2 a3 a4 v) (fun z1 v1 => (chk (0 ≤ a5) (rLet (up v1 9 a5 0 z1) (fun v4 => (rOk 0 v4))))) (kxAt 1 [1, 2])))
set_option maxRecDepth 100000 in
set_option maxHeartbeats 4000000 in
theorem k_L_barredBy (a0 a1 a2 a3 a4 a5 : Int) (x : Cx) (v : V) (F : Fx x cL_barredBy RL "barredBy" ({ frames := 9, cells := 5, slots := 30, locals := 153 }) 7 (some 0) (some .int) 2) (hTb : Tb x [(0, 14, 17, 13), (0, 14, 21, 15)]) (ho : ∀ a ∈ [(17, a0), (0, a1), (0, a2), (0, a3), (0, a4), (19, a5)], okv v a) : Gs x (sp_L_barredBy a0 a1 a2 a3 a4 a5 v) v 0 0 0 (avArgs 0 [(17, a0), (0, a1), (0, a2), (0, a3), (0, a4), (19, a5)]) [] := by
  show Gs x _ v 0 0 0 [(0, (17, a0)), (1, (0, a1)), (2, (0, a2)), (3, (0, a3)), (4, (0, a4)), (5, (19, a5))] []
  unfold sp_L_barredBy
  refine g_aload F 5 rfl dL_barredBy_0 ?_
  refine g_iconst F 2 rfl dL_barredBy_2 ?_
  refine g_aload_n F rfl 0 rfl dL_barredBy_3 ?_
  refine g_iload_n F rfl 1 rfl rfl dL_barredBy_4 ?_
  refine g_iload_n F rfl 2 rfl rfl dL_barredBy_5 ?_
  refine g_iload_n F rfl 3 rfl rfl dL_barredBy_6 ?_
  refine g_iload F 4 rfl rfl dL_barredBy_7 ?_
  refine g_chk (fun n2 => ?_)
  refine g_callX F hTb hx_L_barredBy (K := 7) (b := a0) [(0, a1), (0, a2), (0, a3), (0, a4)] [0, 0, 0, 0] ml_RL_98 wi_X7_barredBy ws_X7_barredBy (c_X7_barredBy a0 a1 a2 a3 a4 (Int.not_lt.mp (Int.not_lt.mpr n2))) mi_X7_barredBy (by decide) ⟨_, rfl, rfl⟩ (Int.not_lt.mp (Int.not_lt.mpr n2)) rfl rfl rfl (Nat.le_of_ble_eq_true rfl) (Nat.le_of_ble_eq_true rfl) (Nat.le_of_ble_eq_true rfl) (Nat.le_of_ble_eq_true rfl) (Nat.le_of_ble_eq_true rfl) dL_barredBy_9 (fun z1 v1 hz1 => ?_)
  refine g_i2l F rfl dL_barredBy_12 ?_
  refine g_chk (fun n3 => ?_)
  refine h_last F (n := 1) ak_9 rfl (Int.not_lt.mp (Int.not_lt.mpr n3)) (by decide) rfl dL_barredBy_13 (fun v4 => ?_)
  refine g_goto F (tgt := 25) rfl dL_barredBy_14 ?_
  refine g_iconst F 2 rfl dL_barredBy_25 ?_
  exact g_ireturn F rfl rfl rfl rfl (Nat.le_of_ble_eq_true rfl) (Nat.le_of_ble_eq_true rfl) dL_barredBy_26
theorem c_L_barredBy (a0 a1 a2 a3 a4 a5 : Int) : ∀ l, CtW l yL_barredBy cL_barredBy 7 (some .int) [(0, 14, 17, 13), (0, 14, 21, 15)] ({ frames := 9, cells := 5, slots := 30, locals := 153 }) (some 0) [(17, a0), (0, a1), (0, a2), (0, a3), (0, a4), (19, a5)] (sp_L_barredBy a0 a1 a2 a3 a4 a5) := g_methodW (by decide +kernel) (Nat.le_of_ble_eq_true rfl) (fun x v F hT ho => k_L_barredBy a0 a1 a2 a3 a4 a5 x v F hT ho)
theorem hx_L_price : HX RL cL_price 5 5 [(0, 10, 13, 13)] [1] := fun j e h => match j, h with
  | 0, h => by cases h; exact ⟨_, rfl, rfl, by decide, gw 145 _ (by decide +kernel) (by decide +kernel), gw 157 _ (by decide +kernel) (by decide +kernel), (fun z hz => by cases hz), ⟨rfl, Or.inl ⟨4, (Nat.le_of_ble_eq_true rfl), dL_price_13, dL_price_15, dL_price_16⟩⟩⟩
  | n + 1, h => by cases h
def sp_L_price (a0 a1 a2 a3 : Int) (v : V) : Res := (chk (0 ≤ a0) (rBx (sp_X7_price a0 a1 a2 v) (fun z1 v1 => (chk (0 ≤ a3) (rLet (up v1 9 a3 0 z1) (fun v4 => (rOk 0 v4))))) (kxAt 1 [1])))
set_option maxRecDepth 100000 in
set_option maxHeartbeats 4000000 in
theorem k_L_price (a0 a1 a2 a3 : Int) (x : Cx) (v : V) (F : Fx x cL_price RL "price" ({ frames := 8, cells := 2, slots := 12, locals := 127 }) 5 (some 0) (some .int) 2) (hTb : Tb x [(0, 10, 13, 13)]) (ho : ∀ a ∈ [(17, a0), (0, a1), (0, a2), (19, a3)], okv v a) : Gs x (sp_L_price a0 a1 a2 a3 v) v 0 0 0 (avArgs 0 [(17, a0), (0, a1), (0, a2), (19, a3)]) [] := by
  show Gs x _ v 0 0 0 [(0, (17, a0)), (1, (0, a1)), (2, (0, a2)), (3, (19, a3))] []
  unfold sp_L_price
  refine g_aload_n F rfl 3 rfl dL_price_0 ?_
  refine g_iconst F 2 rfl dL_price_1 ?_
  refine g_aload_n F rfl 0 rfl dL_price_2 ?_
  refine g_iload_n F rfl 1 rfl rfl dL_price_3 ?_
  refine g_iload_n F rfl 2 rfl rfl dL_price_4 ?_
  refine g_chk (fun n2 => ?_)
  refine g_callX F hTb hx_L_price (K := 7) (b := a0) [(0, a1), (0, a2)] [0, 0] ml_RL_101 wi_X7_price ws_X7_price (c_X7_price a0 a1 a2 (Int.not_lt.mp (Int.not_lt.mpr n2))) mi_X7_price (by decide) ⟨_, rfl, rfl⟩ (Int.not_lt.mp (Int.not_lt.mpr n2)) rfl rfl rfl (Nat.le_of_ble_eq_true rfl) (Nat.le_of_ble_eq_true rfl) (Nat.le_of_ble_eq_true rfl) (Nat.le_of_ble_eq_true rfl) (Nat.le_of_ble_eq_true rfl) dL_price_5 (fun z1 v1 hz1 => ?_)
  refine g_i2l F rfl dL_price_8 ?_
  refine g_chk (fun n3 => ?_)
  refine h_last F (n := 1) ak_9 rfl (Int.not_lt.mp (Int.not_lt.mpr n3)) (by decide) rfl dL_price_9 (fun v4 => ?_)
  refine g_goto F (tgt := 17) rfl dL_price_10 ?_
  refine g_iconst F 2 rfl dL_price_17 ?_
  exact g_ireturn F rfl rfl rfl rfl (Nat.le_of_ble_eq_true rfl) (Nat.le_of_ble_eq_true rfl) dL_price_18
theorem c_L_price (a0 a1 a2 a3 : Int) : ∀ l, CtW l yL_price cL_price 5 (some .int) [(0, 10, 13, 13)] ({ frames := 8, cells := 2, slots := 12, locals := 127 }) (some 0) [(17, a0), (0, a1), (0, a2), (19, a3)] (sp_L_price a0 a1 a2 a3) := g_methodW (by decide +kernel) (Nat.le_of_ble_eq_true rfl) (fun x v F hT ho => k_L_price a0 a1 a2 a3 x v F hT ho)
theorem hx_L_ofParty : HX RL cL_ofParty 5 5 [(0, 10, 13, 13), (0, 10, 17, 15)] [1, 2] := fun j e h => match j, h with
  | 0, h => by cases h; exact ⟨_, rfl, rfl, by decide, gw 145 _ (by decide +kernel) (by decide +kernel), gw 157 _ (by decide +kernel) (by decide +kernel), (fun z hz => by cases hz), ⟨rfl, Or.inl ⟨4, (Nat.le_of_ble_eq_true rfl), dL_ofParty_13, dL_ofParty_15, dL_ofParty_16⟩⟩⟩
  | 1, h => by cases h; exact ⟨_, rfl, rfl, by decide, gw 146 _ (by decide +kernel) (by decide +kernel), gw 229 _ (by decide +kernel) (by decide +kernel), (List.forall_mem_cons.mpr ⟨⟨by decide, "java/lang/IndexOutOfBoundsException", gw 145 _ (by decide +kernel) (by decide +kernel), by decide +kernel⟩, (fun z hz => by cases hz)⟩), ⟨rfl, Or.inl ⟨4, (Nat.le_of_ble_eq_true rfl), dL_ofParty_17, dL_ofParty_19, dL_ofParty_20⟩⟩⟩
  | n + 2, h => by cases h
def sp_L_ofParty (a0 a1 a2 a3 : Int) (v : V) : Res := (chk (0 ≤ a0) (rBx (sp_X7_ofParty a0 a1 a2 v) (fun z1 v1 => (chk (0 ≤ a3) (rLet (up v1 9 a3 0 z1) (fun v4 => (rOk 0 v4))))) (kxAt 1 [1, 2])))
set_option maxRecDepth 100000 in
set_option maxHeartbeats 4000000 in
theorem k_L_ofParty (a0 a1 a2 a3 : Int) (x : Cx) (v : V) (F : Fx x cL_ofParty RL "ofParty" ({ frames := 8, cells := 2, slots := 12, locals := 127 }) 5 (some 0) (some .int) 2) (hTb : Tb x [(0, 10, 13, 13), (0, 10, 17, 15)]) (ho : ∀ a ∈ [(17, a0), (0, a1), (0, a2), (19, a3)], okv v a) : Gs x (sp_L_ofParty a0 a1 a2 a3 v) v 0 0 0 (avArgs 0 [(17, a0), (0, a1), (0, a2), (19, a3)]) [] := by
  show Gs x _ v 0 0 0 [(0, (17, a0)), (1, (0, a1)), (2, (0, a2)), (3, (19, a3))] []
  unfold sp_L_ofParty
  refine g_aload_n F rfl 3 rfl dL_ofParty_0 ?_
  refine g_iconst F 2 rfl dL_ofParty_1 ?_
  refine g_aload_n F rfl 0 rfl dL_ofParty_2 ?_
  refine g_iload_n F rfl 1 rfl rfl dL_ofParty_3 ?_
  refine g_iload_n F rfl 2 rfl rfl dL_ofParty_4 ?_
  refine g_chk (fun n2 => ?_)
  refine g_callX F hTb hx_L_ofParty (K := 7) (b := a0) [(0, a1), (0, a2)] [0, 0] ml_RL_104 wi_X7_ofParty ws_X7_ofParty (c_X7_ofParty a0 a1 a2 (Int.not_lt.mp (Int.not_lt.mpr n2))) mi_X7_ofParty (by decide) ⟨_, rfl, rfl⟩ (Int.not_lt.mp (Int.not_lt.mpr n2)) rfl rfl rfl (Nat.le_of_ble_eq_true rfl) (Nat.le_of_ble_eq_true rfl) (Nat.le_of_ble_eq_true rfl) (Nat.le_of_ble_eq_true rfl) (Nat.le_of_ble_eq_true rfl) dL_ofParty_5 (fun z1 v1 hz1 => ?_)
  refine g_i2l F rfl dL_ofParty_8 ?_
  refine g_chk (fun n3 => ?_)
  refine h_last F (n := 1) ak_9 rfl (Int.not_lt.mp (Int.not_lt.mpr n3)) (by decide) rfl dL_ofParty_9 (fun v4 => ?_)
  refine g_goto F (tgt := 21) rfl dL_ofParty_10 ?_
  refine g_iconst F 2 rfl dL_ofParty_21 ?_
  exact g_ireturn F rfl rfl rfl rfl (Nat.le_of_ble_eq_true rfl) (Nat.le_of_ble_eq_true rfl) dL_ofParty_22
theorem c_L_ofParty (a0 a1 a2 a3 : Int) : ∀ l, CtW l yL_ofParty cL_ofParty 5 (some .int) [(0, 10, 13, 13), (0, 10, 17, 15)] ({ frames := 8, cells := 2, slots := 12, locals := 127 }) (some 0) [(17, a0), (0, a1), (0, a2), (19, a3)] (sp_L_ofParty a0 a1 a2 a3) := g_methodW (by decide +kernel) (Nat.le_of_ble_eq_true rfl) (fun x v F hT ho => k_L_ofParty a0 a1 a2 a3 x v F hT ho)
theorem hx_L_ofWork : HX RL cL_ofWork 5 5 [(0, 10, 13, 13), (0, 10, 17, 15)] [1, 2] := fun j e h => match j, h with
  | 0, h => by cases h; exact ⟨_, rfl, rfl, by decide, gw 145 _ (by decide +kernel) (by decide +kernel), gw 157 _ (by decide +kernel) (by decide +kernel), (fun z hz => by cases hz), ⟨rfl, Or.inl ⟨4, (Nat.le_of_ble_eq_true rfl), dL_ofWork_13, dL_ofWork_15, dL_ofWork_16⟩⟩⟩
  | 1, h => by cases h; exact ⟨_, rfl, rfl, by decide, gw 146 _ (by decide +kernel) (by decide +kernel), gw 229 _ (by decide +kernel) (by decide +kernel), (List.forall_mem_cons.mpr ⟨⟨by decide, "java/lang/IndexOutOfBoundsException", gw 145 _ (by decide +kernel) (by decide +kernel), by decide +kernel⟩, (fun z hz => by cases hz)⟩), ⟨rfl, Or.inl ⟨4, (Nat.le_of_ble_eq_true rfl), dL_ofWork_17, dL_ofWork_19, dL_ofWork_20⟩⟩⟩
  | n + 2, h => by cases h
def sp_L_ofWork (a0 a1 a2 a3 : Int) (v : V) : Res := (chk (0 ≤ a0) (rBx (sp_X7_ofWork a0 a1 a2 v) (fun z1 v1 => (chk (0 ≤ a3) (rLet (up v1 9 a3 0 z1) (fun v4 => (rOk 0 v4))))) (kxAt 1 [1, 2])))
set_option maxRecDepth 100000 in
set_option maxHeartbeats 4000000 in
theorem k_L_ofWork (a0 a1 a2 a3 : Int) (x : Cx) (v : V) (F : Fx x cL_ofWork RL "ofWork" ({ frames := 8, cells := 2, slots := 12, locals := 127 }) 5 (some 0) (some .int) 2) (hTb : Tb x [(0, 10, 13, 13), (0, 10, 17, 15)]) (ho : ∀ a ∈ [(17, a0), (0, a1), (0, a2), (19, a3)], okv v a) : Gs x (sp_L_ofWork a0 a1 a2 a3 v) v 0 0 0 (avArgs 0 [(17, a0), (0, a1), (0, a2), (19, a3)]) [] := by
  show Gs x _ v 0 0 0 [(0, (17, a0)), (1, (0, a1)), (2, (0, a2)), (3, (19, a3))] []
  unfold sp_L_ofWork
  refine g_aload_n F rfl 3 rfl dL_ofWork_0 ?_
  refine g_iconst F 2 rfl dL_ofWork_1 ?_
  refine g_aload_n F rfl 0 rfl dL_ofWork_2 ?_
  refine g_iload_n F rfl 1 rfl rfl dL_ofWork_3 ?_
  refine g_iload_n F rfl 2 rfl rfl dL_ofWork_4 ?_
  refine g_chk (fun n2 => ?_)
  refine g_callX F hTb hx_L_ofWork (K := 7) (b := a0) [(0, a1), (0, a2)] [0, 0] ml_RL_107 wi_X7_ofWork ws_X7_ofWork (c_X7_ofWork a0 a1 a2 (Int.not_lt.mp (Int.not_lt.mpr n2))) mi_X7_ofWork (by decide) ⟨_, rfl, rfl⟩ (Int.not_lt.mp (Int.not_lt.mpr n2)) rfl rfl rfl (Nat.le_of_ble_eq_true rfl) (Nat.le_of_ble_eq_true rfl) (Nat.le_of_ble_eq_true rfl) (Nat.le_of_ble_eq_true rfl) (Nat.le_of_ble_eq_true rfl) dL_ofWork_5 (fun z1 v1 hz1 => ?_)
  refine g_i2l F rfl dL_ofWork_8 ?_
  refine g_chk (fun n3 => ?_)
  refine h_last F (n := 1) ak_9 rfl (Int.not_lt.mp (Int.not_lt.mpr n3)) (by decide) rfl dL_ofWork_9 (fun v4 => ?_)
  refine g_goto F (tgt := 21) rfl dL_ofWork_10 ?_
  refine g_iconst F 2 rfl dL_ofWork_21 ?_
  exact g_ireturn F rfl rfl rfl rfl (Nat.le_of_ble_eq_true rfl) (Nat.le_of_ble_eq_true rfl) dL_ofWork_22
theorem c_L_ofWork (a0 a1 a2 a3 : Int) : ∀ l, CtW l yL_ofWork cL_ofWork 5 (some .int) [(0, 10, 13, 13), (0, 10, 17, 15)] ({ frames := 8, cells := 2, slots := 12, locals := 127 }) (some 0) [(17, a0), (0, a1), (0, a2), (19, a3)] (sp_L_ofWork a0 a1 a2 a3) := g_methodW (by decide +kernel) (Nat.le_of_ble_eq_true rfl) (fun x v F hT ho => k_L_ofWork a0 a1 a2 a3 x v F hT ho)
theorem hx_L_ofLot : HX RL cL_ofLot 5 5 [(0, 10, 13, 13), (0, 10, 17, 15)] [1, 2] := fun j e h => match j, h with
  | 0, h => by cases h; exact ⟨_, rfl, rfl, by decide, gw 145 _ (by decide +kernel) (by decide +kernel), gw 157 _ (by decide +kernel) (by decide +kernel), (fun z hz => by cases hz), ⟨rfl, Or.inl ⟨4, (Nat.le_of_ble_eq_true rfl), dL_ofLot_13, dL_ofLot_15, dL_ofLot_16⟩⟩⟩
  | 1, h => by cases h; exact ⟨_, rfl, rfl, by decide, gw 146 _ (by decide +kernel) (by decide +kernel), gw 229 _ (by decide +kernel) (by decide +kernel), (List.forall_mem_cons.mpr ⟨⟨by decide, "java/lang/IndexOutOfBoundsException", gw 145 _ (by decide +kernel) (by decide +kernel), by decide +kernel⟩, (fun z hz => by cases hz)⟩), ⟨rfl, Or.inl ⟨4, (Nat.le_of_ble_eq_true rfl), dL_ofLot_17, dL_ofLot_19, dL_ofLot_20⟩⟩⟩
  | n + 2, h => by cases h
def sp_L_ofLot (a0 a1 a2 a3 : Int) (v : V) : Res := (chk (0 ≤ a0) (rBx (sp_X7_ofLot a0 a1 a2 v) (fun z1 v1 => (chk (0 ≤ a3) (rLet (up v1 9 a3 0 z1) (fun v4 => (rOk 0 v4))))) (kxAt 1 [1, 2])))
set_option maxRecDepth 100000 in
set_option maxHeartbeats 4000000 in
theorem k_L_ofLot (a0 a1 a2 a3 : Int) (x : Cx) (v : V) (F : Fx x cL_ofLot RL "ofLot" ({ frames := 8, cells := 2, slots := 12, locals := 127 }) 5 (some 0) (some .int) 2) (hTb : Tb x [(0, 10, 13, 13), (0, 10, 17, 15)]) (ho : ∀ a ∈ [(17, a0), (0, a1), (0, a2), (19, a3)], okv v a) : Gs x (sp_L_ofLot a0 a1 a2 a3 v) v 0 0 0 (avArgs 0 [(17, a0), (0, a1), (0, a2), (19, a3)]) [] := by
  show Gs x _ v 0 0 0 [(0, (17, a0)), (1, (0, a1)), (2, (0, a2)), (3, (19, a3))] []
  unfold sp_L_ofLot
  refine g_aload_n F rfl 3 rfl dL_ofLot_0 ?_
  refine g_iconst F 2 rfl dL_ofLot_1 ?_
  refine g_aload_n F rfl 0 rfl dL_ofLot_2 ?_
  refine g_iload_n F rfl 1 rfl rfl dL_ofLot_3 ?_
  refine g_iload_n F rfl 2 rfl rfl dL_ofLot_4 ?_
  refine g_chk (fun n2 => ?_)
  refine g_callX F hTb hx_L_ofLot (K := 7) (b := a0) [(0, a1), (0, a2)] [0, 0] ml_RL_110 wi_X7_ofLot ws_X7_ofLot (c_X7_ofLot a0 a1 a2 (Int.not_lt.mp (Int.not_lt.mpr n2))) mi_X7_ofLot (by decide) ⟨_, rfl, rfl⟩ (Int.not_lt.mp (Int.not_lt.mpr n2)) rfl rfl rfl (Nat.le_of_ble_eq_true rfl) (Nat.le_of_ble_eq_true rfl) (Nat.le_of_ble_eq_true rfl) (Nat.le_of_ble_eq_true rfl) (Nat.le_of_ble_eq_true rfl) dL_ofLot_5 (fun z1 v1 hz1 => ?_)
  refine g_i2l F rfl dL_ofLot_8 ?_
  refine g_chk (fun n3 => ?_)
  refine h_last F (n := 1) ak_9 rfl (Int.not_lt.mp (Int.not_lt.mpr n3)) (by decide) rfl dL_ofLot_9 (fun v4 => ?_)
  refine g_goto F (tgt := 21) rfl dL_ofLot_10 ?_
  refine g_iconst F 2 rfl dL_ofLot_21 ?_
  exact g_ireturn F rfl rfl rfl rfl (Nat.le_of_ble_eq_true rfl) (Nat.le_of_ble_eq_true rfl) dL_ofLot_22
theorem c_L_ofLot (a0 a1 a2 a3 : Int) : ∀ l, CtW l yL_ofLot cL_ofLot 5 (some .int) [(0, 10, 13, 13), (0, 10, 17, 15)] ({ frames := 8, cells := 2, slots := 12, locals := 127 }) (some 0) [(17, a0), (0, a1), (0, a2), (19, a3)] (sp_L_ofLot a0 a1 a2 a3) := g_methodW (by decide +kernel) (Nat.le_of_ble_eq_true rfl) (fun x v F hT ho => k_L_ofLot a0 a1 a2 a3 x v F hT ho)
theorem hx_L_ofLoan : HX RL cL_ofLoan 5 5 [(0, 10, 13, 13), (0, 10, 17, 15)] [1, 2] := fun j e h => match j, h with
  | 0, h => by cases h; exact ⟨_, rfl, rfl, by decide, gw 145 _ (by decide +kernel) (by decide +kernel), gw 157 _ (by decide +kernel) (by decide +kernel), (fun z hz => by cases hz), ⟨rfl, Or.inl ⟨4, (Nat.le_of_ble_eq_true rfl), dL_ofLoan_13, dL_ofLoan_15, dL_ofLoan_16⟩⟩⟩
  | 1, h => by cases h; exact ⟨_, rfl, rfl, by decide, gw 146 _ (by decide +kernel) (by decide +kernel), gw 229 _ (by decide +kernel) (by decide +kernel), (List.forall_mem_cons.mpr ⟨⟨by decide, "java/lang/IndexOutOfBoundsException", gw 145 _ (by decide +kernel) (by decide +kernel), by decide +kernel⟩, (fun z hz => by cases hz)⟩), ⟨rfl, Or.inl ⟨4, (Nat.le_of_ble_eq_true rfl), dL_ofLoan_17, dL_ofLoan_19, dL_ofLoan_20⟩⟩⟩
  | n + 2, h => by cases h
def sp_L_ofLoan (a0 a1 a2 a3 : Int) (v : V) : Res := (chk (0 ≤ a0) (rBx (sp_X7_ofLoan a0 a1 a2 v) (fun z1 v1 => (chk (0 ≤ a3) (rLet (up v1 9 a3 0 z1) (fun v4 => (rOk 0 v4))))) (kxAt 1 [1, 2])))
set_option maxRecDepth 100000 in
set_option maxHeartbeats 4000000 in
theorem k_L_ofLoan (a0 a1 a2 a3 : Int) (x : Cx) (v : V) (F : Fx x cL_ofLoan RL "ofLoan" ({ frames := 8, cells := 2, slots := 12, locals := 135 }) 5 (some 0) (some .int) 2) (hTb : Tb x [(0, 10, 13, 13), (0, 10, 17, 15)]) (ho : ∀ a ∈ [(17, a0), (0, a1), (0, a2), (19, a3)], okv v a) : Gs x (sp_L_ofLoan a0 a1 a2 a3 v) v 0 0 0 (avArgs 0 [(17, a0), (0, a1), (0, a2), (19, a3)]) [] := by
  show Gs x _ v 0 0 0 [(0, (17, a0)), (1, (0, a1)), (2, (0, a2)), (3, (19, a3))] []
  unfold sp_L_ofLoan
  refine g_aload_n F rfl 3 rfl dL_ofLoan_0 ?_
  refine g_iconst F 2 rfl dL_ofLoan_1 ?_
  refine g_aload_n F rfl 0 rfl dL_ofLoan_2 ?_
  refine g_iload_n F rfl 1 rfl rfl dL_ofLoan_3 ?_
  refine g_iload_n F rfl 2 rfl rfl dL_ofLoan_4 ?_
  refine g_chk (fun n2 => ?_)
  refine g_callX F hTb hx_L_ofLoan (K := 7) (b := a0) [(0, a1), (0, a2)] [0, 0] ml_RL_113 wi_X7_ofLoan ws_X7_ofLoan (c_X7_ofLoan a0 a1 a2 (Int.not_lt.mp (Int.not_lt.mpr n2))) mi_X7_ofLoan (by decide) ⟨_, rfl, rfl⟩ (Int.not_lt.mp (Int.not_lt.mpr n2)) rfl rfl rfl (Nat.le_of_ble_eq_true rfl) (Nat.le_of_ble_eq_true rfl) (Nat.le_of_ble_eq_true rfl) (Nat.le_of_ble_eq_true rfl) (Nat.le_of_ble_eq_true rfl) dL_ofLoan_5 (fun z1 v1 hz1 => ?_)
  refine g_i2l F rfl dL_ofLoan_8 ?_
  refine g_chk (fun n3 => ?_)
  refine h_last F (n := 1) ak_9 rfl (Int.not_lt.mp (Int.not_lt.mpr n3)) (by decide) rfl dL_ofLoan_9 (fun v4 => ?_)
  refine g_goto F (tgt := 21) rfl dL_ofLoan_10 ?_
  refine g_iconst F 2 rfl dL_ofLoan_21 ?_
  exact g_ireturn F rfl rfl rfl rfl (Nat.le_of_ble_eq_true rfl) (Nat.le_of_ble_eq_true rfl) dL_ofLoan_22
theorem c_L_ofLoan (a0 a1 a2 a3 : Int) : ∀ l, CtW l yL_ofLoan cL_ofLoan 5 (some .int) [(0, 10, 13, 13), (0, 10, 17, 15)] ({ frames := 8, cells := 2, slots := 12, locals := 135 }) (some 0) [(17, a0), (0, a1), (0, a2), (19, a3)] (sp_L_ofLoan a0 a1 a2 a3) := g_methodW (by decide +kernel) (Nat.le_of_ble_eq_true rfl) (fun x v F hT ho => k_L_ofLoan a0 a1 a2 a3 x v F hT ho)
theorem hx_L_doubt : HX RL cL_doubt 5 5 [(0, 10, 13, 13), (0, 10, 17, 15)] [1, 2] := fun j e h => match j, h with
  | 0, h => by cases h; exact ⟨_, rfl, rfl, by decide, gw 145 _ (by decide +kernel) (by decide +kernel), gw 157 _ (by decide +kernel) (by decide +kernel), (fun z hz => by cases hz), ⟨rfl, Or.inl ⟨4, (Nat.le_of_ble_eq_true rfl), dL_doubt_13, dL_doubt_15, dL_doubt_16⟩⟩⟩
  | 1, h => by cases h; exact ⟨_, rfl, rfl, by decide, gw 146 _ (by decide +kernel) (by decide +kernel), gw 229 _ (by decide +kernel) (by decide +kernel), (List.forall_mem_cons.mpr ⟨⟨by decide, "java/lang/IndexOutOfBoundsException", gw 145 _ (by decide +kernel) (by decide +kernel), by decide +kernel⟩, (fun z hz => by cases hz)⟩), ⟨rfl, Or.inl ⟨4, (Nat.le_of_ble_eq_true rfl), dL_doubt_17, dL_doubt_19, dL_doubt_20⟩⟩⟩
  | n + 2, h => by cases h
def sp_L_doubt (a0 a1 a2 a3 : Int) (v : V) : Res := (chk (0 ≤ a0) (rBx (sp_X7_doubt a0 a1 a2 v) (fun z1 v1 => (chk (0 ≤ a3) (rLet (up v1 9 a3 0 z1) (fun v4 => (rOk 0 v4))))) (kxAt 1 [1, 2])))
set_option maxRecDepth 100000 in
set_option maxHeartbeats 4000000 in
theorem k_L_doubt (a0 a1 a2 a3 : Int) (x : Cx) (v : V) (F : Fx x cL_doubt RL "doubt" ({ frames := 8, cells := 2, slots := 12, locals := 127 }) 5 (some 0) (some .int) 2) (hTb : Tb x [(0, 10, 13, 13), (0, 10, 17, 15)]) (ho : ∀ a ∈ [(17, a0), (0, a1), (0, a2), (19, a3)], okv v a) : Gs x (sp_L_doubt a0 a1 a2 a3 v) v 0 0 0 (avArgs 0 [(17, a0), (0, a1), (0, a2), (19, a3)]) [] := by
  show Gs x _ v 0 0 0 [(0, (17, a0)), (1, (0, a1)), (2, (0, a2)), (3, (19, a3))] []
  unfold sp_L_doubt
  refine g_aload_n F rfl 3 rfl dL_doubt_0 ?_
  refine g_iconst F 2 rfl dL_doubt_1 ?_
  refine g_aload_n F rfl 0 rfl dL_doubt_2 ?_
  refine g_iload_n F rfl 1 rfl rfl dL_doubt_3 ?_
  refine g_iload_n F rfl 2 rfl rfl dL_doubt_4 ?_
  refine g_chk (fun n2 => ?_)
  refine g_callX F hTb hx_L_doubt (K := 7) (b := a0) [(0, a1), (0, a2)] [0, 0] ml_RL_116 wi_X7_doubt ws_X7_doubt (c_X7_doubt a0 a1 a2 (Int.not_lt.mp (Int.not_lt.mpr n2))) mi_X7_doubt (by decide) ⟨_, rfl, rfl⟩ (Int.not_lt.mp (Int.not_lt.mpr n2)) rfl rfl rfl (Nat.le_of_ble_eq_true rfl) (Nat.le_of_ble_eq_true rfl) (Nat.le_of_ble_eq_true rfl) (Nat.le_of_ble_eq_true rfl) (Nat.le_of_ble_eq_true rfl) dL_doubt_5 (fun z1 v1 hz1 => ?_)
  refine g_i2l F rfl dL_doubt_8 ?_
  refine g_chk (fun n3 => ?_)
  refine h_last F (n := 1) ak_9 rfl (Int.not_lt.mp (Int.not_lt.mpr n3)) (by decide) rfl dL_doubt_9 (fun v4 => ?_)
  refine g_goto F (tgt := 21) rfl dL_doubt_10 ?_
  refine g_iconst F 2 rfl dL_doubt_21 ?_
  exact g_ireturn F rfl rfl rfl rfl (Nat.le_of_ble_eq_true rfl) (Nat.le_of_ble_eq_true rfl) dL_doubt_22
theorem c_L_doubt (a0 a1 a2 a3 : Int) : ∀ l, CtW l yL_doubt cL_doubt 5 (some .int) [(0, 10, 13, 13), (0, 10, 17, 15)] ({ frames := 8, cells := 2, slots := 12, locals := 127 }) (some 0) [(17, a0), (0, a1), (0, a2), (19, a3)] (sp_L_doubt a0 a1 a2 a3) := g_methodW (by decide +kernel) (Nat.le_of_ble_eq_true rfl) (fun x v F hT ho => k_L_doubt a0 a1 a2 a3 x v F hT ho)
theorem hx_L_gaps : HX RL cL_gaps 6 7 [(0, 12, 15, 13), (0, 12, 19, 15)] [1, 2] := fun j e h => match j, h with
  | 0, h => by cases h; exact ⟨_, rfl, rfl, by decide, gw 145 _ (by decide +kernel) (by decide +kernel), gw 157 _ (by decide +kernel) (by decide +kernel), (fun z hz => by cases hz), ⟨rfl, Or.inl ⟨5, (Nat.le_of_ble_eq_true rfl), dL_gaps_15, dL_gaps_17, dL_gaps_18⟩⟩⟩
  | 1, h => by cases h; exact ⟨_, rfl, rfl, by decide, gw 146 _ (by decide +kernel) (by decide +kernel), gw 229 _ (by decide +kernel) (by decide +kernel), (List.forall_mem_cons.mpr ⟨⟨by decide, "java/lang/IndexOutOfBoundsException", gw 145 _ (by decide +kernel) (by decide +kernel), by decide +kernel⟩, (fun z hz => by cases hz)⟩), ⟨rfl, Or.inl ⟨5, (Nat.le_of_ble_eq_true rfl), dL_gaps_19, dL_gaps_21, dL_gaps_22⟩⟩⟩
  | n + 2, h => by cases h
def sp_L_gaps (a0 a1 a2 a3 a4 : Int) (v : V) : Res := (chk (0 ≤ a0) (rBx (sp_X7_gaps a0 a1 a2 a3 v) (fun z1 v1 => (chk (0 ≤ a4) (rLet (up v1 9 a4 0 z1) (fun v4 => (rOk 0 v4))))) (kxAt 1 [1, 2])))
set_option maxRecDepth 100000 in
set_option maxHeartbeats 4000000 in
theorem k_L_gaps (a0 a1 a2 a3 a4 : Int) (x : Cx) (v : V) (F : Fx x cL_gaps RL "gaps" ({ frames := 9, cells := 3, slots := 18, locals := 151 }) 6 (some 0) (some .int) 2) (hTb : Tb x [(0, 12, 15, 13), (0, 12, 19, 15)]) (ho : ∀ a ∈ [(17, a0), (0, a1), (0, a2), (0, a3), (19, a4)], okv v a) : Gs x (sp_L_gaps a0 a1 a2 a3 a4 v) v 0 0 0 (avArgs 0 [(17, a0), (0, a1), (0, a2), (0, a3), (19, a4)]) [] := by
  show Gs x _ v 0 0 0 [(0, (17, a0)), (1, (0, a1)), (2, (0, a2)), (3, (0, a3)), (4, (19, a4))] []
  unfold sp_L_gaps
  refine g_aload F 4 rfl dL_gaps_0 ?_
  refine g_iconst F 2 rfl dL_gaps_2 ?_
  refine g_aload_n F rfl 0 rfl dL_gaps_3 ?_
  refine g_iload_n F rfl 1 rfl rfl dL_gaps_4 ?_
  refine g_iload_n F rfl 2 rfl rfl dL_gaps_5 ?_
  refine g_iload_n F rfl 3 rfl rfl dL_gaps_6 ?_
  refine g_chk (fun n2 => ?_)
  refine g_callX F hTb hx_L_gaps (K := 7) (b := a0) [(0, a1), (0, a2), (0, a3)] [0, 0, 0] ml_RL_119 wi_X7_gaps ws_X7_gaps (c_X7_gaps a0 a1 a2 a3 (Int.not_lt.mp (Int.not_lt.mpr n2))) mi_X7_gaps (by decide) ⟨_, rfl, rfl⟩ (Int.not_lt.mp (Int.not_lt.mpr n2)) rfl rfl rfl (Nat.le_of_ble_eq_true rfl) (Nat.le_of_ble_eq_true rfl) (Nat.le_of_ble_eq_true rfl) (Nat.le_of_ble_eq_true rfl) (Nat.le_of_ble_eq_true rfl) dL_gaps_7 (fun z1 v1 hz1 => ?_)
  refine g_i2l F rfl dL_gaps_10 ?_
  refine g_chk (fun n3 => ?_)
  refine h_last F (n := 1) ak_9 rfl (Int.not_lt.mp (Int.not_lt.mpr n3)) (by decide) rfl dL_gaps_11 (fun v4 => ?_)
  refine g_goto F (tgt := 23) rfl dL_gaps_12 ?_
  refine g_iconst F 2 rfl dL_gaps_23 ?_
  exact g_ireturn F rfl rfl rfl rfl (Nat.le_of_ble_eq_true rfl) (Nat.le_of_ble_eq_true rfl) dL_gaps_24
theorem c_L_gaps (a0 a1 a2 a3 a4 : Int) : ∀ l, CtW l yL_gaps cL_gaps 6 (some .int) [(0, 12, 15, 13), (0, 12, 19, 15)] ({ frames := 9, cells := 3, slots := 18, locals := 151 }) (some 0) [(17, a0), (0, a1), (0, a2), (0, a3), (19, a4)] (sp_L_gaps a0 a1 a2 a3 a4) := g_methodW (by decide +kernel) (Nat.le_of_ble_eq_true rfl) (fun x v F hT ho => k_L_gaps a0 a1 a2 a3 a4 x v F hT ho)
