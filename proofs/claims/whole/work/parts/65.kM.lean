theorem fgM_77 : xk_F RM 77 4 0 := ⟨RM, TM, 31, rfl, by decide, i_M, (xk_mem 557 (by decide +kernel) (by decide))⟩
theorem fgM_7 : xk_F RM 7 4 1 := ⟨RM, TM, 31, rfl, by decide, i_M, (xk_mem 558 (by decide +kernel) (by decide))⟩
set_option maxRecDepth 100000 in
theorem kbM_80 : xk_CB RM 80 yM_free cM_free 2 (some .int) 0 := ⟨(xk_mem 691 (by rfl) rfl), (xk_mem 42 (by decide +kernel) (by decide)), (xk_mem 688 (by decide +kernel) (by decide)), by decide +kernel⟩
theorem kcM_80 : Cond.instanceMethod yM_free ∈ xk_gt ∧ Cond.selects (yM_free).cls yM_free yM_free ∈ xk_gt := ⟨(xk_mem 690 (by decide +kernel) (by decide)), (xk_mem 18 (by decide +kernel) (by decide))⟩
theorem fgM_84 : xk_F RM 84 4 7 := ⟨RM, TM, 31, rfl, by decide, i_M, (xk_mem 564 (by decide +kernel) (by decide))⟩
theorem fpM_84 : xk_FP RM 84 4 7 false (.int) := ⟨RM, TM, 31, rfl, by decide, i_M, (xk_mem 564 (by decide +kernel) (by decide)), ⟨tM, tM_ok⟩, nM_ok, rfl, by decide +kernel, fun h => by cases h⟩
theorem fgM_13 : xk_F RM 13 4 2 := ⟨RM, TM, 31, rfl, by decide, i_M, (xk_mem 559 (by decide +kernel) (by decide))⟩
theorem fgM_17 : xk_F RM 17 4 3 := ⟨RM, TM, 31, rfl, by decide, i_M, (xk_mem 560 (by decide +kernel) (by decide))⟩
theorem fgM_21 : xk_F RM 21 4 4 := ⟨RM, TM, 31, rfl, by decide, i_M, (xk_mem 561 (by decide +kernel) (by decide))⟩
theorem fgM_24 : xk_F RM 24 4 5 := ⟨RM, TM, 31, rfl, by decide, i_M, (xk_mem 562 (by decide +kernel) (by decide))⟩
theorem fpM_87 : xk_FP RM 87 4 20 false (.int) := ⟨RM, TM, 31, rfl, by decide, i_M, (xk_mem 577 (by decide +kernel) (by decide)), ⟨tM, tM_ok⟩, nM_ok, rfl, by decide +kernel, fun h => by cases h⟩
theorem fgM_53 : xk_F RM 53 4 21 := ⟨RM, TM, 31, rfl, by decide, i_M, (xk_mem 578 (by decide +kernel) (by decide))⟩
theorem fgM_56 : xk_F RM 56 4 22 := ⟨RM, TM, 31, rfl, by decide, i_M, (xk_mem 579 (by decide +kernel) (by decide))⟩
theorem fgM_59 : xk_F RM 59 4 23 := ⟨RM, TM, 31, rfl, by decide, i_M, (xk_mem 580 (by decide +kernel) (by decide))⟩
theorem fgM_87 : xk_F RM 87 4 20 := ⟨RM, TM, 31, rfl, by decide, i_M, (xk_mem 577 (by decide +kernel) (by decide))⟩
theorem fgM_44 : xk_F RM 44 4 17 := ⟨RM, TM, 31, rfl, by decide, i_M, (xk_mem 574 (by decide +kernel) (by decide))⟩
theorem fgM_47 : xk_F RM 47 4 18 := ⟨RM, TM, 31, rfl, by decide, i_M, (xk_mem 575 (by decide +kernel) (by decide))⟩
theorem fgM_50 : xk_F RM 50 4 19 := ⟨RM, TM, 31, rfl, by decide, i_M, (xk_mem 576 (by decide +kernel) (by decide))⟩
set_option maxRecDepth 100000 in
theorem kbM_90 : xk_CB RM 90 yM_go cM_go 8 none 1 := ⟨(xk_mem 683 (by rfl) rfl), (xk_mem 42 (by decide +kernel) (by decide)), (xk_mem 680 (by decide +kernel) (by decide)), by decide +kernel⟩
theorem kcM_90 : Cond.instanceMethod yM_go ∈ xk_gt ∧ Cond.selects (yM_go).cls yM_go yM_go ∈ xk_gt := ⟨(xk_mem 682 (by decide +kernel) (by decide)), (xk_mem 16 (by decide +kernel) (by decide))⟩
theorem fpM_77 : xk_FP RM 77 4 0 false (.int) := ⟨RM, TM, 31, rfl, by decide, i_M, (xk_mem 557 (by decide +kernel) (by decide)), ⟨tM, tM_ok⟩, nM_ok, rfl, by decide +kernel, fun h => by cases h⟩
theorem fpM_94 : xk_FP RM 94 4 9 false (.int) := ⟨RM, TM, 31, rfl, by decide, i_M, (xk_mem 566 (by decide +kernel) (by decide)), ⟨tM, tM_ok⟩, nM_ok, rfl, by decide +kernel, fun h => by cases h⟩
theorem klM_99 : Cond.constantLong RM 99 (31) ∈ xk_gt := (xk_mem 668 (by decide +kernel) (by decide))
theorem klM_97 : Cond.constantLong RM 97 (200) ∈ xk_gt := (xk_mem 667 (by decide +kernel) (by decide))
theorem fgM_31 : xk_F RM 31 4 8 := ⟨RM, TM, 31, rfl, by decide, i_M, (xk_mem 565 (by decide +kernel) (by decide))⟩
theorem fgM_94 : xk_F RM 94 4 9 := ⟨RM, TM, 31, rfl, by decide, i_M, (xk_mem 566 (by decide +kernel) (by decide))⟩
set_option maxRecDepth 100000 in
theorem kbM_101 : xk_CB RM 101 yM_depthOf cM_depthOf 4 (some .int) 1 := ⟨(xk_mem 679 (by rfl) rfl), (xk_mem 42 (by decide +kernel) (by decide)), (xk_mem 676 (by decide +kernel) (by decide)), by decide +kernel⟩
theorem kcM_101 : Cond.instanceMethod yM_depthOf ∈ xk_gt ∧ Cond.selects (yM_depthOf).cls yM_depthOf yM_depthOf ∈ xk_gt := ⟨(xk_mem 678 (by decide +kernel) (by decide)), (xk_mem 15 (by decide +kernel) (by decide))⟩
set_option maxRecDepth 100000 in
theorem kbM_105 : xk_CB RM 105 yM_isArg cM_isArg 3 (some .boolean) 2 := ⟨(xk_mem 666 (by rfl) rfl), (xk_mem 42 (by decide +kernel) (by decide)), (xk_mem 664 (by decide +kernel) (by decide)), by decide +kernel⟩
theorem kcM_105 : Cond.static yM_isArg ∈ xk_gt := (xk_mem 665 (by decide +kernel) (by decide))
set_option maxRecDepth 100000 in
theorem kbM_109 : xk_CB RM 109 yM_takes cM_takes 1 (some .int) 1 := ⟨(xk_mem 671 (by rfl) rfl), (xk_mem 42 (by decide +kernel) (by decide)), (xk_mem 669 (by decide +kernel) (by decide)), by decide +kernel⟩
theorem kcM_109 : Cond.static yM_takes ∈ xk_gt := (xk_mem 670 (by decide +kernel) (by decide))
set_option maxRecDepth 100000 in
theorem kbM_112 : xk_CB RM 112 yM_deepest cM_deepest 5 (some .int) 1 := ⟨(xk_mem 675 (by rfl) rfl), (xk_mem 42 (by decide +kernel) (by decide)), (xk_mem 672 (by decide +kernel) (by decide)), by decide +kernel⟩
theorem kcM_112 : Cond.instanceMethod yM_deepest ∈ xk_gt ∧ Cond.selects (yM_deepest).cls yM_deepest yM_deepest ∈ xk_gt := ⟨(xk_mem 674 (by decide +kernel) (by decide)), (xk_mem 14 (by decide +kernel) (by decide))⟩
set_option maxRecDepth 100000 in
theorem kbM_115 : xk_CB RM 115 yM_make cM_make 5 (some .int) 2 := ⟨(xk_mem 687 (by rfl) rfl), (xk_mem 42 (by decide +kernel) (by decide)), (xk_mem 684 (by decide +kernel) (by decide)), by decide +kernel⟩
theorem kcM_115 : Cond.instanceMethod yM_make ∈ xk_gt ∧ Cond.selects (yM_make).cls yM_make yM_make ∈ xk_gt := ⟨(xk_mem 686 (by decide +kernel) (by decide)), (xk_mem 17 (by decide +kernel) (by decide))⟩
theorem fgM_27 : xk_F RM 27 4 6 := ⟨RM, TM, 31, rfl, by decide, i_M, (xk_mem 563 (by decide +kernel) (by decide))⟩
set_option maxRecDepth 100000 in
theorem kbM_119 : xk_CB RM 119 yM_append cM_append 6 none 3 := ⟨(xk_mem 699 (by rfl) rfl), (xk_mem 42 (by decide +kernel) (by decide)), (xk_mem 696 (by decide +kernel) (by decide)), by decide +kernel⟩
theorem kcM_119 : Cond.instanceMethod yM_append ∈ xk_gt ∧ Cond.selects (yM_append).cls yM_append yM_append ∈ xk_gt := ⟨(xk_mem 698 (by decide +kernel) (by decide)), (xk_mem 19 (by decide +kernel) (by decide))⟩
theorem klM_123 : Cond.constantLong RM 123 (64) ∈ xk_gt := (xk_mem 704 (by decide +kernel) (by decide))
set_option maxRecDepth 100000 in
theorem kbM_125 : xk_CB RM 125 yM_release cM_release 2 none 1 := ⟨(xk_mem 712 (by rfl) rfl), (xk_mem 42 (by decide +kernel) (by decide)), (xk_mem 709 (by decide +kernel) (by decide)), by decide +kernel⟩
theorem kcM_125 : Cond.instanceMethod yM_release ∈ xk_gt ∧ Cond.selects (yM_release).cls yM_release yM_release ∈ xk_gt := ⟨(xk_mem 711 (by decide +kernel) (by decide)), (xk_mem 20 (by decide +kernel) (by decide))⟩
theorem fgM_65 : xk_F RM 65 4 27 := ⟨RM, TM, 31, rfl, by decide, i_M, (xk_mem 584 (by decide +kernel) (by decide))⟩
theorem klM_128 : Cond.constantLong RM 128 (127) ∈ xk_gt := (xk_mem 737 (by decide +kernel) (by decide))
theorem klM_130 : Cond.constantLong RM 130 (128) ∈ xk_gt := (xk_mem 738 (by decide +kernel) (by decide))
theorem klM_132 : Cond.constantLong RM 132 (-64) ∈ xk_gt := (xk_mem 743 (by decide +kernel) (by decide))
theorem klM_134 : Cond.constantLong RM 134 (63) ∈ xk_gt := (xk_mem 744 (by decide +kernel) (by decide))
set_option maxRecDepth 100000 in
theorem kbM_140 : xk_CB RM 140 yM_lengthS cM_lengthS 6 (some .int) 1 := ⟨(xk_mem 742 (by rfl) rfl), (xk_mem 42 (by decide +kernel) (by decide)), (xk_mem 739 (by decide +kernel) (by decide)), by decide +kernel⟩
theorem kcM_140 : Cond.instanceMethod yM_lengthS ∈ xk_gt ∧ Cond.selects (yM_lengthS).cls yM_lengthS yM_lengthS ∈ xk_gt := ⟨(xk_mem 741 (by decide +kernel) (by decide)), (xk_mem 24 (by decide +kernel) (by decide))⟩
set_option maxRecDepth 100000 in
theorem kbM_136 : xk_CB RM 136 yM_lengthU cM_lengthU 6 (some .int) 1 := ⟨(xk_mem 736 (by rfl) rfl), (xk_mem 42 (by decide +kernel) (by decide)), (xk_mem 733 (by decide +kernel) (by decide)), by decide +kernel⟩
theorem kcM_136 : Cond.instanceMethod yM_lengthU ∈ xk_gt ∧ Cond.selects (yM_lengthU).cls yM_lengthU yM_lengthU ∈ xk_gt := ⟨(xk_mem 735 (by decide +kernel) (by decide)), (xk_mem 23 (by decide +kernel) (by decide))⟩
set_option maxRecDepth 100000 in
theorem kbM_143 : xk_CB RM 143 yM_lengthOf cM_lengthOf 3 (some .int) 1 := ⟨(xk_mem 732 (by rfl) rfl), (xk_mem 42 (by decide +kernel) (by decide)), (xk_mem 729 (by decide +kernel) (by decide)), by decide +kernel⟩
theorem kcM_143 : Cond.instanceMethod yM_lengthOf ∈ xk_gt ∧ Cond.selects (yM_lengthOf).cls yM_lengthOf yM_lengthOf ∈ xk_gt := ⟨(xk_mem 731 (by decide +kernel) (by decide)), (xk_mem 22 (by decide +kernel) (by decide))⟩
theorem fgM_34 : xk_F RM 34 4 10 := ⟨RM, TM, 31, rfl, by decide, i_M, (xk_mem 567 (by decide +kernel) (by decide))⟩
theorem fgM_146 : xk_F RM 146 4 11 := ⟨RM, TM, 31, rfl, by decide, i_M, (xk_mem 568 (by decide +kernel) (by decide))⟩
theorem fpM_146 : xk_FP RM 146 4 11 false (.int) := ⟨RM, TM, 31, rfl, by decide, i_M, (xk_mem 568 (by decide +kernel) (by decide)), ⟨tM, tM_ok⟩, nM_ok, rfl, by decide +kernel, fun h => by cases h⟩
set_option maxRecDepth 100000 in
theorem kbM_149 : xk_CB RM 149 yM_lay cM_lay 3 none 1 := ⟨(xk_mem 752 (by rfl) rfl), (xk_mem 42 (by decide +kernel) (by decide)), (xk_mem 749 (by decide +kernel) (by decide)), by decide +kernel⟩
theorem kcM_149 : Cond.instanceMethod yM_lay ∈ xk_gt ∧ Cond.selects (yM_lay).cls yM_lay yM_lay ∈ xk_gt := ⟨(xk_mem 751 (by decide +kernel) (by decide)), (xk_mem 26 (by decide +kernel) (by decide))⟩
set_option maxRecDepth 100000 in
theorem kbM_153 : xk_CB RM 153 yM_lengthOfTerm cM_lengthOfTerm 4 (some .int) 1 := ⟨(xk_mem 728 (by rfl) rfl), (xk_mem 42 (by decide +kernel) (by decide)), (xk_mem 725 (by decide +kernel) (by decide)), by decide +kernel⟩
theorem kcM_153 : Cond.instanceMethod yM_lengthOfTerm ∈ xk_gt ∧ Cond.selects (yM_lengthOfTerm).cls yM_lengthOfTerm yM_lengthOfTerm ∈ xk_gt := ⟨(xk_mem 727 (by decide +kernel) (by decide)), (xk_mem 21 (by decide +kernel) (by decide))⟩
set_option maxRecDepth 100000 in
theorem kbM_156 : xk_CB RM 156 yM_layNode cM_layNode 6 none 1 := ⟨(xk_mem 748 (by rfl) rfl), (xk_mem 42 (by decide +kernel) (by decide)), (xk_mem 745 (by decide +kernel) (by decide)), by decide +kernel⟩
theorem kcM_156 : Cond.instanceMethod yM_layNode ∈ xk_gt ∧ Cond.selects (yM_layNode).cls yM_layNode yM_layNode ∈ xk_gt := ⟨(xk_mem 747 (by decide +kernel) (by decide)), (xk_mem 25 (by decide +kernel) (by decide))⟩
theorem fgM_159 : xk_F RM 159 4 13 := ⟨RM, TM, 31, rfl, by decide, i_M, (xk_mem 570 (by decide +kernel) (by decide))⟩
theorem fgM_37 : xk_F RM 37 4 12 := ⟨RM, TM, 31, rfl, by decide, i_M, (xk_mem 569 (by decide +kernel) (by decide))⟩
theorem fpM_159 : xk_FP RM 159 4 13 false (.int) := ⟨RM, TM, 31, rfl, by decide, i_M, (xk_mem 570 (by decide +kernel) (by decide)), ⟨tM, tM_ok⟩, nM_ok, rfl, by decide +kernel, fun h => by cases h⟩
theorem fpM_162 : xk_FP RM 162 4 14 false (.int) := ⟨RM, TM, 31, rfl, by decide, i_M, (xk_mem 571 (by decide +kernel) (by decide)), ⟨tM, tM_ok⟩, nM_ok, rfl, by decide +kernel, fun h => by cases h⟩
theorem fgM_165 : xk_F RM 165 4 15 := ⟨RM, TM, 31, rfl, by decide, i_M, (xk_mem 572 (by decide +kernel) (by decide))⟩
theorem fpM_165 : xk_FP RM 165 4 15 false (.int) := ⟨RM, TM, 31, rfl, by decide, i_M, (xk_mem 572 (by decide +kernel) (by decide)), ⟨tM, tM_ok⟩, nM_ok, rfl, by decide +kernel, fun h => by cases h⟩
theorem fpM_40 : xk_FP RM 40 4 16 false (.int) := ⟨RM, TM, 31, rfl, by decide, i_M, (xk_mem 573 (by decide +kernel) (by decide)), ⟨tM, tM_ok⟩, nM_ok, rfl, by decide +kernel, fun h => by cases h⟩
theorem fgM_168 : xk_F RM 168 4 24 := ⟨RM, TM, 31, rfl, by decide, i_M, (xk_mem 581 (by decide +kernel) (by decide))⟩
theorem fpM_168 : xk_FP RM 168 4 24 false (.int) := ⟨RM, TM, 31, rfl, by decide, i_M, (xk_mem 581 (by decide +kernel) (by decide)), ⟨tM, tM_ok⟩, nM_ok, rfl, by decide +kernel, fun h => by cases h⟩
set_option maxRecDepth 100000 in
theorem kbM_171 : xk_CB RM 171 yM_wrong cM_wrong 3 (some .int) 2 := ⟨(xk_mem 784 (by rfl) rfl), (xk_mem 42 (by decide +kernel) (by decide)), (xk_mem 781 (by decide +kernel) (by decide)), by decide +kernel⟩
theorem kcM_171 : Cond.instanceMethod yM_wrong ∈ xk_gt ∧ Cond.selects (yM_wrong).cls yM_wrong yM_wrong ∈ xk_gt := ⟨(xk_mem 783 (by decide +kernel) (by decide)), (xk_mem 29 (by decide +kernel) (by decide))⟩
theorem klM_178 : Cond.constantLong RM 178 (2147483647) ∈ xk_gt := (xk_mem 793 (by decide +kernel) (by decide))
set_option maxRecDepth 100000 in
theorem kbM_175 : xk_CB RM 175 yM_next cM_next 1 (some .int) 0 := ⟨(xk_mem 780 (by rfl) rfl), (xk_mem 42 (by decide +kernel) (by decide)), (xk_mem 777 (by decide +kernel) (by decide)), by decide +kernel⟩
theorem kcM_175 : Cond.instanceMethod yM_next ∈ xk_gt ∧ Cond.selects (yM_next).cls yM_next yM_next ∈ xk_gt := ⟨(xk_mem 779 (by decide +kernel) (by decide)), (xk_mem 28 (by decide +kernel) (by decide))⟩
theorem klM_180 : Cond.constantLong RM 180 (-1) ∈ xk_gt := (xk_mem 800 (by decide +kernel) (by decide))
set_option maxRecDepth 100000 in
theorem kbM_182 : xk_CB RM 182 yM_must cM_must 3 none 1 := ⟨(xk_mem 788 (by rfl) rfl), (xk_mem 42 (by decide +kernel) (by decide)), (xk_mem 785 (by decide +kernel) (by decide)), by decide +kernel⟩
theorem kcM_182 : Cond.instanceMethod yM_must ∈ xk_gt ∧ Cond.selects (yM_must).cls yM_must yM_must ∈ xk_gt := ⟨(xk_mem 787 (by decide +kernel) (by decide)), (xk_mem 30 (by decide +kernel) (by decide))⟩
theorem fgM_62 : xk_F RM 62 4 25 := ⟨RM, TM, 31, rfl, by decide, i_M, (xk_mem 582 (by decide +kernel) (by decide))⟩
theorem fgM_186 : xk_F RM 186 4 26 := ⟨RM, TM, 31, rfl, by decide, i_M, (xk_mem 583 (by decide +kernel) (by decide))⟩
theorem fgM_68 : xk_F RM 68 4 28 := ⟨RM, TM, 31, rfl, by decide, i_M, (xk_mem 585 (by decide +kernel) (by decide))⟩
theorem fgM_71 : xk_F RM 71 4 29 := ⟨RM, TM, 31, rfl, by decide, i_M, (xk_mem 586 (by decide +kernel) (by decide))⟩
theorem fgM_74 : xk_F RM 74 4 30 := ⟨RM, TM, 31, rfl, by decide, i_M, (xk_mem 587 (by decide +kernel) (by decide))⟩
theorem fpM_186 : xk_FP RM 186 4 26 false (.int) := ⟨RM, TM, 31, rfl, by decide, i_M, (xk_mem 583 (by decide +kernel) (by decide)), ⟨tM, tM_ok⟩, nM_ok, rfl, by decide +kernel, fun h => by cases h⟩
set_option maxRecDepth 100000 in
theorem kbM_189 : xk_CB RM 189 yM_readU cM_readU 5 (some .long) 0 := ⟨(xk_mem 792 (by rfl) rfl), (xk_mem 42 (by decide +kernel) (by decide)), (xk_mem 789 (by decide +kernel) (by decide)), by decide +kernel⟩
theorem kcM_189 : Cond.instanceMethod yM_readU ∈ xk_gt ∧ Cond.selects (yM_readU).cls yM_readU yM_readU ∈ xk_gt := ⟨(xk_mem 791 (by decide +kernel) (by decide)), (xk_mem 31 (by decide +kernel) (by decide))⟩
theorem klM_193 : Cond.constantLong RM 193 (32) ∈ xk_gt := (xk_mem 794 (by decide +kernel) (by decide))
set_option maxRecDepth 100000 in
theorem kbM_197 : xk_CB RM 197 yM_readS cM_readS 8 (some .long) 0 := ⟨(xk_mem 799 (by rfl) rfl), (xk_mem 42 (by decide +kernel) (by decide)), (xk_mem 796 (by decide +kernel) (by decide)), by decide +kernel⟩
theorem kcM_197 : Cond.instanceMethod yM_readS ∈ xk_gt ∧ Cond.selects (yM_readS).cls yM_readS yM_readS ∈ xk_gt := ⟨(xk_mem 798 (by decide +kernel) (by decide)), (xk_mem 32 (by decide +kernel) (by decide))⟩
theorem klM_195 : Cond.constantLong RM 195 (2) ∈ xk_gt := (xk_mem 795 (by decide +kernel) (by decide))
theorem fgM_162 : xk_F RM 162 4 14 := ⟨RM, TM, 31, rfl, by decide, i_M, (xk_mem 571 (by decide +kernel) (by decide))⟩
set_option maxRecDepth 100000 in
theorem kbM_200 : xk_CB RM 200 yM_readNode cM_readNode 9 none 1 := ⟨(xk_mem 776 (by rfl) rfl), (xk_mem 42 (by decide +kernel) (by decide)), (xk_mem 773 (by decide +kernel) (by decide)), by decide +kernel⟩
theorem kcM_200 : Cond.instanceMethod yM_readNode ∈ xk_gt ∧ Cond.selects (yM_readNode).cls yM_readNode yM_readNode ∈ xk_gt := ⟨(xk_mem 775 (by decide +kernel) (by decide)), (xk_mem 27 (by decide +kernel) (by decide))⟩
set_option maxRecDepth 100000 in
theorem kbM_203 : xk_CB RM 203 yM_open cM_open 2 (some .int) 0 := ⟨(xk_mem 804 (by rfl) rfl), (xk_mem 42 (by decide +kernel) (by decide)), (xk_mem 801 (by decide +kernel) (by decide)), by decide +kernel⟩
theorem kcM_203 : Cond.instanceMethod yM_open ∈ xk_gt ∧ Cond.selects (yM_open).cls yM_open yM_open ∈ xk_gt := ⟨(xk_mem 803 (by decide +kernel) (by decide)), (xk_mem 33 (by decide +kernel) (by decide))⟩
set_option maxRecDepth 100000 in
theorem kbM_206 : xk_CB RM 206 yM_isNode cM_isNode 2 (some .boolean) 1 := ⟨(xk_mem 812 (by rfl) rfl), (xk_mem 42 (by decide +kernel) (by decide)), (xk_mem 809 (by decide +kernel) (by decide)), by decide +kernel⟩
theorem kcM_206 : Cond.instanceMethod yM_isNode ∈ xk_gt ∧ Cond.selects (yM_isNode).cls yM_isNode yM_isNode ∈ xk_gt := ⟨(xk_mem 811 (by decide +kernel) (by decide)), (xk_mem 34 (by decide +kernel) (by decide))⟩
set_option maxRecDepth 100000 in
theorem kbM_210 : xk_CB RM 210 yM_sizeOf cM_sizeOf 3 (some .int) 1 := ⟨(xk_mem 816 (by rfl) rfl), (xk_mem 42 (by decide +kernel) (by decide)), (xk_mem 813 (by decide +kernel) (by decide)), by decide +kernel⟩
theorem kcM_210 : Cond.instanceMethod yM_sizeOf ∈ xk_gt ∧ Cond.selects (yM_sizeOf).cls yM_sizeOf yM_sizeOf ∈ xk_gt := ⟨(xk_mem 815 (by decide +kernel) (by decide)), (xk_mem 35 (by decide +kernel) (by decide))⟩
set_option maxRecDepth 100000 in
theorem kbM_213 : xk_CB RM 213 yM_lambdas cM_lambdas 5 (some .int) 2 := ⟨(xk_mem 820 (by rfl) rfl), (xk_mem 42 (by decide +kernel) (by decide)), (xk_mem 817 (by decide +kernel) (by decide)), by decide +kernel⟩
theorem kcM_213 : Cond.instanceMethod yM_lambdas ∈ xk_gt ∧ Cond.selects (yM_lambdas).cls yM_lambdas yM_lambdas ∈ xk_gt := ⟨(xk_mem 819 (by decide +kernel) (by decide)), (xk_mem 36 (by decide +kernel) (by decide))⟩
theorem fgM_40 : xk_F RM 40 4 16 := ⟨RM, TM, 31, rfl, by decide, i_M, (xk_mem 573 (by decide +kernel) (by decide))⟩
