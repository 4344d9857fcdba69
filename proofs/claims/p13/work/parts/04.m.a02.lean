theorem tw_2905 : (.instanceMethod yX12_isWordAt : Cond) ∈ TW := tw_in (tb_11 (List.mem_of_getElem? (i := 30) rfl)) (by decide +kernel)
theorem tw_2906 : (.code yX12_isWordAt cX12_isWordAt 2 (some (.boolean)) : Cond) ∈ TW := tw_in (tb_11 (List.mem_of_getElem? (i := 31) rfl)) (by decide +kernel)
theorem tw_2907 : (.methodLink "PatternWorkshopModel" 601 yX12_isWord : Cond) ∈ TW := tw_in (tb_11 (List.mem_of_getElem? (i := 32) rfl)) (by decide +kernel)
theorem tw_2908 : (.static yX12_isWord : Cond) ∈ TW := tw_in (tb_11 (List.mem_of_getElem? (i := 33) rfl)) (by decide +kernel)
theorem tw_2909 : (.code yX12_isWord cX12_isWord 1 (some (.boolean)) : Cond) ∈ TW := tw_in (tb_11 (List.mem_of_getElem? (i := 34) rfl)) (by decide +kernel)
theorem tw_2910 : (.methodLink "PatternWorkshopModel" 635 yX12_isBack : Cond) ∈ TW := tw_in (tb_11 (List.mem_of_getElem? (i := 35) rfl)) (by decide +kernel)
theorem tw_2912 : (.instanceMethod yX12_isBack : Cond) ∈ TW := tw_in (tb_11 (List.mem_of_getElem? (i := 37) rfl)) (by decide +kernel)
theorem tw_2913 : (.code yX12_isBack cX12_isBack 8 (some (.boolean)) : Cond) ∈ TW := tw_in (tb_11 (List.mem_of_getElem? (i := 38) rfl)) (by decide +kernel)
theorem tw_2914 : (.methodLink "PatternWorkshopModel" 620 yX12_choose : Cond) ∈ TW := tw_in (tb_11 (List.mem_of_getElem? (i := 39) rfl)) (by decide +kernel)
theorem tw_2916 : (.instanceMethod yX12_choose : Cond) ∈ TW := tw_in (tb_11 (List.mem_of_getElem? (i := 41) rfl)) (by decide +kernel)
theorem tw_2917 : (.code yX12_choose cX12_choose 4 none : Cond) ∈ TW := tw_in (tb_11 (List.mem_of_getElem? (i := 42) rfl)) (by decide +kernel)
theorem tw_2918 : (.methodLink "PatternWorkshopModel" 614 yX12_set : Cond) ∈ TW := tw_in (tb_11 (List.mem_of_getElem? (i := 43) rfl)) (by decide +kernel)
theorem tw_2920 : (.instanceMethod yX12_set : Cond) ∈ TW := tw_in (tb_11 (List.mem_of_getElem? (i := 45) rfl)) (by decide +kernel)
theorem tw_2921 : (.code yX12_set cX12_set 3 none : Cond) ∈ TW := tw_in (tb_11 (List.mem_of_getElem? (i := 46) rfl)) (by decide +kernel)
theorem tw_2922 : (.methodLink "PatternWorkshopModel" 638 yX12_testLoop : Cond) ∈ TW := tw_in (tb_11 (List.mem_of_getElem? (i := 47) rfl)) (by decide +kernel)
theorem tw_2924 : (.instanceMethod yX12_testLoop : Cond) ∈ TW := tw_in (tb_11 (List.mem_of_getElem? (i := 49) rfl)) (by decide +kernel)
theorem tw_2925 : (.code yX12_testLoop cX12_testLoop 6 none : Cond) ∈ TW := tw_in (tb_11 (List.mem_of_getElem? (i := 50) rfl)) (by decide +kernel)
theorem tw_2926 : (.methodLink "PatternWorkshopModel" 623 yX12_beginTurn : Cond) ∈ TW := tw_in (tb_11 (List.mem_of_getElem? (i := 51) rfl)) (by decide +kernel)
theorem tw_2928 : (.instanceMethod yX12_beginTurn : Cond) ∈ TW := tw_in (tb_11 (List.mem_of_getElem? (i := 53) rfl)) (by decide +kernel)
theorem tw_2929 : (.code yX12_beginTurn cX12_beginTurn 2 none : Cond) ∈ TW := tw_in (tb_11 (List.mem_of_getElem? (i := 54) rfl)) (by decide +kernel)
theorem tw_2930 : (.methodLink "PatternWorkshopModel" 641 yX12_beginLook : Cond) ∈ TW := tw_in (tb_11 (List.mem_of_getElem? (i := 55) rfl)) (by decide +kernel)
theorem tw_2932 : (.instanceMethod yX12_beginLook : Cond) ∈ TW := tw_in (tb_11 (List.mem_of_getElem? (i := 57) rfl)) (by decide +kernel)
theorem tw_2933 : (.code yX12_beginLook cX12_beginLook 4 none : Cond) ∈ TW := tw_in (tb_11 (List.mem_of_getElem? (i := 58) rfl)) (by decide +kernel)
theorem tw_2934 : (.methodLink "PatternWorkshopModel" 626 yX12_tryBehind : Cond) ∈ TW := tw_in (tb_11 (List.mem_of_getElem? (i := 59) rfl)) (by decide +kernel)
theorem tw_2936 : (.instanceMethod yX12_tryBehind : Cond) ∈ TW := tw_in (tb_11 (List.mem_of_getElem? (i := 61) rfl)) (by decide +kernel)
theorem tw_2937 : (.code yX12_tryBehind cX12_tryBehind 3 none : Cond) ∈ TW := tw_in (tb_11 (List.mem_of_getElem? (i := 62) rfl)) (by decide +kernel)
theorem tw_2938 : (.methodLink "PatternWorkshopModel" 650 yX12_goesBack : Cond) ∈ TW := tw_in (tb_11 (List.mem_of_getElem? (i := 63) rfl)) (by decide +kernel)
theorem tw_2940 : (.instanceMethod yX12_goesBack : Cond) ∈ TW := tw_in (tb_11 (List.mem_of_getElem? (i := 65) rfl)) (by decide +kernel)
theorem tw_2941 : (.code yX12_goesBack cX12_goesBack 1 (some (.boolean)) : Cond) ∈ TW := tw_in (tb_11 (List.mem_of_getElem? (i := 66) rfl)) (by decide +kernel)
theorem tw_2942 : (.methodLink "PatternWorkshopModel" 684 yX12_keepSpan : Cond) ∈ TW := tw_in (tb_11 (List.mem_of_getElem? (i := 67) rfl)) (by decide +kernel)
theorem tw_2944 : (.instanceMethod yX12_keepSpan : Cond) ∈ TW := tw_in (tb_11 (List.mem_of_getElem? (i := 69) rfl)) (by decide +kernel)
theorem tw_2945 : (.code yX12_keepSpan cX12_keepSpan 4 none : Cond) ∈ TW := tw_in (tb_11 (List.mem_of_getElem? (i := 70) rfl)) (by decide +kernel)
theorem tw_2949 : (.code yX12_goOn cX12_goOn 2 (some (.int)) : Cond) ∈ TW := tw_in (tb_11 (List.mem_of_getElem? (i := 74) rfl)) (by decide +kernel)
theorem tw_2953 : (.code yX12_span cX12_span 3 (some (.int)) : Cond) ∈ TW := tw_in (tb_11 (List.mem_of_getElem? (i := 78) rfl)) (by decide +kernel)
theorem tw_2957 : (.code yX12_named cX12_named 4 (some (.int)) : Cond) ∈ TW := tw_in (tb_11 (List.mem_of_getElem? (i := 82) rfl)) (by decide +kernel)
theorem tw_2961 : (.code yX12_whole cX12_whole 6 (some (.int)) : Cond) ∈ TW := tw_in (tb_11 (List.mem_of_getElem? (i := 86) rfl)) (by decide +kernel)
theorem tw_2965 : (.code yX12_all cX12_all 6 (some (.int)) : Cond) ∈ TW := tw_in (tb_11 (List.mem_of_getElem? (i := 90) rfl)) (by decide +kernel)
theorem tw_2966 : (.methodLink "PatternWorkshopModel" 699 yX12_findAll : Cond) ∈ TW := tw_in (tb_11 (List.mem_of_getElem? (i := 91) rfl)) (by decide +kernel)
theorem tw_2968 : (.instanceMethod yX12_findAll : Cond) ∈ TW := tw_in (tb_11 (List.mem_of_getElem? (i := 93) rfl)) (by decide +kernel)
theorem tw_2969 : (.code yX12_findAll cX12_findAll 7 (some (.int)) : Cond) ∈ TW := tw_in (tb_11 (List.mem_of_getElem? (i := 94) rfl)) (by decide +kernel)
theorem tw_2973 : (.code yX12_replace cX12_replace 9 (some (.int)) : Cond) ∈ TW := tw_in (tb_11 (List.mem_of_getElem? (i := 98) rfl)) (by decide +kernel)
theorem tw_2974 : (.methodLink "PatternWorkshopModel" 708 yX12_isReplacing : Cond) ∈ TW := tw_in (tb_11 (List.mem_of_getElem? (i := 99) rfl)) (by decide +kernel)
theorem tw_2976 : (.instanceMethod yX12_isReplacing : Cond) ∈ TW := tw_in (tb_11 (List.mem_of_getElem? (i := 101) rfl)) (by decide +kernel)
theorem tw_2977 : (.code yX12_isReplacing cX12_isReplacing 4 (some (.boolean)) : Cond) ∈ TW := tw_in (tb_11 (List.mem_of_getElem? (i := 102) rfl)) (by decide +kernel)
theorem tw_2978 : (.methodLink "PatternWorkshopModel" 711 yX12_makePart : Cond) ∈ TW := tw_in (tb_11 (List.mem_of_getElem? (i := 103) rfl)) (by decide +kernel)
theorem tw_2980 : (.instanceMethod yX12_makePart : Cond) ∈ TW := tw_in (tb_11 (List.mem_of_getElem? (i := 105) rfl)) (by decide +kernel)
theorem tw_2981 : (.code yX12_makePart cX12_makePart 5 none : Cond) ∈ TW := tw_in (tb_11 (List.mem_of_getElem? (i := 106) rfl)) (by decide +kernel)
theorem tw_2982 : (.methodLink "PatternWorkshopModel" 705 yX12_makeSign : Cond) ∈ TW := tw_in (tb_11 (List.mem_of_getElem? (i := 107) rfl)) (by decide +kernel)
theorem tw_2984 : (.instanceMethod yX12_makeSign : Cond) ∈ TW := tw_in (tb_11 (List.mem_of_getElem? (i := 109) rfl)) (by decide +kernel)
theorem tw_2985 : (.code yX12_makeSign cX12_makeSign 2 none : Cond) ∈ TW := tw_in (tb_11 (List.mem_of_getElem? (i := 110) rfl)) (by decide +kernel)
theorem tw_2989 : (.code yX12_first cX12_first 12 (some (.int)) : Cond) ∈ TW := tw_in (tb_11 (List.mem_of_getElem? (i := 114) rfl)) (by decide +kernel)
theorem tw_2993 : (.code yX12_steps cX12_steps 1 (some (.int)) : Cond) ∈ TW := tw_in (tb_11 (List.mem_of_getElem? (i := 118) rfl)) (by decide +kernel)
theorem tw_2997 : (.code yX12_table cX12_table 3 (some (.int)) : Cond) ∈ TW := tw_in (tb_11 (List.mem_of_getElem? (i := 122) rfl)) (by decide +kernel)
theorem tw_2998 : (.methodLink "PatternWorkshopModel" 730 yX12_tabled : Cond) ∈ TW := tw_in (tb_11 (List.mem_of_getElem? (i := 123) rfl)) (by decide +kernel)
theorem tw_3000 : (.instanceMethod yX12_tabled : Cond) ∈ TW := tw_in (tb_11 (List.mem_of_getElem? (i := 125) rfl)) (by decide +kernel)
theorem tw_3001 : (.code yX12_tabled cX12_tabled 3 (some (.int)) : Cond) ∈ TW := tw_in (tb_11 (List.mem_of_getElem? (i := 126) rfl)) (by decide +kernel)
theorem tw_3002 : (.methodLink "PatternWorkshopModel" 727 yX12_makeTable : Cond) ∈ TW := tw_in (tb_11 (List.mem_of_getElem? (i := 127) rfl)) (by decide +kernel)
theorem tw_3004 : (.instanceMethod yX12_makeTable : Cond) ∈ TW := tw_in (tb_11 (List.mem_of_getElem? (i := 129) rfl)) (by decide +kernel)
theorem tw_3005 : (.code yX12_makeTable cX12_makeTable 15 (some (.int)) : Cond) ∈ TW := tw_in (tb_11 (List.mem_of_getElem? (i := 130) rfl)) (by decide +kernel)
theorem tw_3006 : (.methodLink "PatternWorkshopModel" 724 yX12_reach : Cond) ∈ TW := tw_in (tb_11 (List.mem_of_getElem? (i := 131) rfl)) (by decide +kernel)
theorem tw_3008 : (.instanceMethod yX12_reach : Cond) ∈ TW := tw_in (tb_11 (List.mem_of_getElem? (i := 133) rfl)) (by decide +kernel)
theorem tw_3009 : (.code yX12_reach cX12_reach 4 none : Cond) ∈ TW := tw_in (tb_11 (List.mem_of_getElem? (i := 134) rfl)) (by decide +kernel)
theorem tw_3013 : (.code yX12_least cX12_least 7 (some (.int)) : Cond) ∈ TW := tw_in (tb_11 (List.mem_of_getElem? (i := 138) rfl)) (by decide +kernel)
theorem tw_3014 : (.methodLink "PatternWorkshopModel" 733 yX12_isAlike : Cond) ∈ TW := tw_in (tb_11 (List.mem_of_getElem? (i := 139) rfl)) (by decide +kernel)
theorem tw_3016 : (.instanceMethod yX12_isAlike : Cond) ∈ TW := tw_in (tb_11 (List.mem_of_getElem? (i := 141) rfl)) (by decide +kernel)
theorem tw_3017 : (.code yX12_isAlike cX12_isAlike 5 (some (.boolean)) : Cond) ∈ TW := tw_in (tb_11 (List.mem_of_getElem? (i := 142) rfl)) (by decide +kernel)
theorem tw_3021 : (.code yX12_prefix cX12_prefix 8 (some (.int)) : Cond) ∈ TW := tw_in (tb_11 (List.mem_of_getElem? (i := 146) rfl)) (by decide +kernel)
theorem tw_3022 : (.methodLink "PatternWorkshopModel" 736 yX12_findLive : Cond) ∈ TW := tw_in (tb_11 (List.mem_of_getElem? (i := 147) rfl)) (by decide +kernel)
theorem tw_3024 : (.instanceMethod yX12_findLive : Cond) ∈ TW := tw_in (tb_11 (List.mem_of_getElem? (i := 149) rfl)) (by decide +kernel)
theorem tw_3025 : (.code yX12_findLive cX12_findLive 4 none : Cond) ∈ TW := tw_in (tb_11 (List.mem_of_getElem? (i := 150) rfl)) (by decide +kernel)
theorem tw_3029 : (.code yX12_compare cX12_compare 7 (some (.int)) : Cond) ∈ TW := tw_in (tb_11 (List.mem_of_getElem? (i := 154) rfl)) (by decide +kernel)
theorem tw_3030 : (.methodLink "PatternWorkshopModel" 752 yX12_bothBars : Cond) ∈ TW := tw_in (tb_11 (List.mem_of_getElem? (i := 155) rfl)) (by decide +kernel)
theorem tw_3032 : (.instanceMethod yX12_bothBars : Cond) ∈ TW := tw_in (tb_11 (List.mem_of_getElem? (i := 157) rfl)) (by decide +kernel)
theorem tw_3033 : (.code yX12_bothBars cX12_bothBars 4 (some (.int)) : Cond) ∈ TW := tw_in (tb_11 (List.mem_of_getElem? (i := 158) rfl)) (by decide +kernel)
theorem tw_3034 : (.methodLink "PatternWorkshopModel" 739 yX12_findSorts : Cond) ∈ TW := tw_in (tb_11 (List.mem_of_getElem? (i := 159) rfl)) (by decide +kernel)
theorem tw_3036 : (.instanceMethod yX12_findSorts : Cond) ∈ TW := tw_in (tb_11 (List.mem_of_getElem? (i := 161) rfl)) (by decide +kernel)
theorem tw_3037 : (.code yX12_findSorts cX12_findSorts 5 none : Cond) ∈ TW := tw_in (tb_11 (List.mem_of_getElem? (i := 162) rfl)) (by decide +kernel)
theorem tw_3038 : (.methodLink "PatternWorkshopModel" 755 yX12_findPairs : Cond) ∈ TW := tw_in (tb_11 (List.mem_of_getElem? (i := 163) rfl)) (by decide +kernel)
theorem tw_3040 : (.instanceMethod yX12_findPairs : Cond) ∈ TW := tw_in (tb_11 (List.mem_of_getElem? (i := 165) rfl)) (by decide +kernel)
theorem tw_3041 : (.code yX12_findPairs cX12_findPairs 3 none : Cond) ∈ TW := tw_in (tb_11 (List.mem_of_getElem? (i := 166) rfl)) (by decide +kernel)
theorem tw_3042 : (.methodLink "PatternWorkshopModel" 748 yX12_meet : Cond) ∈ TW := tw_in (tb_11 (List.mem_of_getElem? (i := 167) rfl)) (by decide +kernel)
theorem tw_3044 : (.instanceMethod yX12_meet : Cond) ∈ TW := tw_in (tb_11 (List.mem_of_getElem? (i := 169) rfl)) (by decide +kernel)
theorem tw_3045 : (.code yX12_meet cX12_meet 5 none : Cond) ∈ TW := tw_in (tb_11 (List.mem_of_getElem? (i := 170) rfl)) (by decide +kernel)
theorem tw_3046 : (.methodLink "PatternWorkshopModel" 758 yX12_isParted : Cond) ∈ TW := tw_in (tb_11 (List.mem_of_getElem? (i := 171) rfl)) (by decide +kernel)
theorem tw_3048 : (.instanceMethod yX12_isParted : Cond) ∈ TW := tw_in (tb_11 (List.mem_of_getElem? (i := 173) rfl)) (by decide +kernel)
theorem tw_3049 : (.code yX12_isParted cX12_isParted 2 (some (.boolean)) : Cond) ∈ TW := tw_in (tb_11 (List.mem_of_getElem? (i := 174) rfl)) (by decide +kernel)
theorem tw_3053 : (.code yX12_parting cX12_parting 7 (some (.int)) : Cond) ∈ TW := tw_in (tb_11 (List.mem_of_getElem? (i := 178) rfl)) (by decide +kernel)
theorem tw_3057 : (.code yX12_out cX12_out 2 (some (.int)) : Cond) ∈ TW := tw_in (tb_11 (List.mem_of_getElem? (i := 182) rfl)) (by decide +kernel)
theorem tw_3061 : (.code yX12_finding cX12_finding 1 (some (.int)) : Cond) ∈ TW := tw_in (tb_11 (List.mem_of_getElem? (i := 186) rfl)) (by decide +kernel)
theorem tw_3065 : (.code yX12_told cX12_told 5 (some (.int)) : Cond) ∈ TW := tw_in (tb_11 (List.mem_of_getElem? (i := 190) rfl)) (by decide +kernel)
theorem tw_3069 : (.code yX12_clear cX12_clear 3 (some (.int)) : Cond) ∈ TW := tw_in (tb_11 (List.mem_of_getElem? (i := 194) rfl)) (by decide +kernel)
theorem gw_X12_addNode : GoodIn TW (WS yX12_addNode cX12_addNode 2 none) := goodC tw_2636
theorem gw_X12_addPart : GoodIn TW (WS yX12_addPart cX12_addPart 3 none) := goodC tw_2656
theorem gw_X12_all : GoodIn TW (WS yX12_all cX12_all 6 (some (.int))) := goodC tw_2965
theorem gw_X12_bars : GoodIn TW (WS yX12_bars cX12_bars 4 (some (.int))) := goodC tw_2833
theorem gw_X12_beginGroup : GoodIn TW (WS yX12_beginGroup cX12_beginGroup 3 none) := goodC tw_2585
theorem gw_X12_beginLook : GoodIn TW (WS yX12_beginLook cX12_beginLook 4 none) := goodC tw_2933
theorem gw_X12_beginRow : GoodIn TW (WS yX12_beginRow cX12_beginRow 1 none) := goodC tw_2589
theorem gw_X12_beginTurn : GoodIn TW (WS yX12_beginTurn cX12_beginTurn 2 none) := goodC tw_2929
theorem gw_X12_begins : GoodIn TW (WS yX12_begins cX12_begins 3 (some (.int))) := goodC tw_2771
theorem gw_X12_bothBars : GoodIn TW (WS yX12_bothBars cX12_bothBars 4 (some (.int))) := goodC tw_3033
theorem gw_X12_capped : GoodIn TW (WS yX12_capped cX12_capped 1 (some (.int))) := goodC tw_2693
theorem gw_X12_captureOf : GoodIn TW (WS yX12_captureOf cX12_captureOf 3 (some (.int))) := goodC tw_2644
theorem gw_X12_choose : GoodIn TW (WS yX12_choose cX12_choose 4 none) := goodC tw_2917
theorem gw_X12_clear : GoodIn TW (WS yX12_clear cX12_clear 3 (some (.int))) := goodC tw_3069
theorem gw_X12_closeChoice : GoodIn TW (WS yX12_closeChoice cX12_closeChoice 2 (some (.int))) := goodC tw_2613
theorem gw_X12_closeGroup : GoodIn TW (WS yX12_closeGroup cX12_closeGroup 4 none) := goodC tw_2605
theorem gw_X12_closeRow : GoodIn TW (WS yX12_closeRow cX12_closeRow 2 none) := goodC tw_2597
theorem gw_X12_compare : GoodIn TW (WS yX12_compare cX12_compare 7 (some (.int))) := goodC tw_3029
theorem gw_X12_compile : GoodIn TW (WS yX12_compile cX12_compile 5 none) := goodC tw_2849
theorem gw_X12_compileChoice : GoodIn TW (WS yX12_compileChoice cX12_compileChoice 5 none) := goodC tw_2861
theorem gw_X12_compileCopies : GoodIn TW (WS yX12_compileCopies cX12_compileCopies 6 none) := goodC tw_2869
theorem gw_X12_compileLook : GoodIn TW (WS yX12_compileLook cX12_compileLook 5 none) := goodC tw_2877
theorem gw_X12_compileLoop : GoodIn TW (WS yX12_compileLoop cX12_compileLoop 6 none) := goodC tw_2873
theorem gw_X12_compileNode : GoodIn TW (WS yX12_compileNode cX12_compileNode 8 none) := goodC tw_2857
theorem gw_X12_countItem : GoodIn TW (WS yX12_countItem cX12_countItem 2 none) := goodC tw_2625
theorem gw_X12_dead : GoodIn TW (WS yX12_dead cX12_dead 9 (some (.int))) := goodC tw_2763
theorem gw_X12_drop : GoodIn TW (WS yX12_drop cX12_drop 3 (some (.int))) := goodC tw_2813
theorem gw_X12_escaped : GoodIn TW (WS yX12_escaped cX12_escaped 6 (some (.int))) := goodC tw_2652
theorem gw_X12_fail : GoodIn TW (WS yX12_fail cX12_fail 3 none) := goodC tw_2609
theorem gw_X12_feed : GoodIn TW (WS yX12_feed cX12_feed 6 (some (.int))) := goodC tw_2569
theorem gw_X12_find : GoodIn TW (WS yX12_find cX12_find 8 (some (.int))) := goodC tw_2825
theorem gw_X12_findAll : GoodIn TW (WS yX12_findAll cX12_findAll 7 (some (.int))) := goodC tw_2969
theorem gw_X12_findBegun : GoodIn TW (WS yX12_findBegun cX12_findBegun 10 none) := goodC tw_2776
theorem gw_X12_findBounds : GoodIn TW (WS yX12_findBounds cX12_findBounds 2 none) := goodC tw_2799
theorem gw_X12_findLive : GoodIn TW (WS yX12_findLive cX12_findLive 4 none) := goodC tw_3025
theorem gw_X12_findPairs : GoodIn TW (WS yX12_findPairs cX12_findPairs 3 none) := goodC tw_3041
theorem gw_X12_findSorts : GoodIn TW (WS yX12_findSorts cX12_findSorts 5 none) := goodC tw_3037
theorem gw_X12_finding : GoodIn TW (WS yX12_finding cX12_finding 1 (some (.int))) := goodC tw_3061
theorem gw_X12_first : GoodIn TW (WS yX12_first cX12_first 12 (some (.int))) := goodC tw_2989
theorem gw_X12_forget : GoodIn TW (WS yX12_forget cX12_forget 2 (some (.int))) := goodC tw_2701
theorem gw_X12_goOn : GoodIn TW (WS yX12_goOn cX12_goOn 2 (some (.int))) := goodC tw_2949
theorem gw_X12_goes : GoodIn TW (WS yX12_goes cX12_goes 3 (some (.int))) := goodC tw_2845
theorem gw_X12_goesBack : GoodIn TW (WS yX12_goesBack cX12_goesBack 1 (some (.boolean))) := goodC tw_2941
theorem gw_X12_hexes : GoodIn TW (WS yX12_hexes cX12_hexes 5 (some (.int))) := goodC tw_2668
theorem gw_X12_holding : GoodIn TW (WS yX12_holding cX12_holding 5 (some (.int))) := goodC tw_2617
theorem gw_X12_in : GoodIn TW (WS yX12_in cX12_in 3 (some (.boolean))) := goodC tw_2572
theorem gw_X12_isAlike : GoodIn TW (WS yX12_isAlike cX12_isAlike 5 (some (.boolean))) := goodC tw_3017
theorem gw_X12_isBack : GoodIn TW (WS yX12_isBack cX12_isBack 8 (some (.boolean))) := goodC tw_2913
theorem gw_X12_isDigit : GoodIn TW (WS yX12_isDigit cX12_isDigit 1 (some (.boolean))) := goodC tw_2632
theorem gw_X12_isDone : GoodIn TW (WS yX12_isDone cX12_isDone 5 (some (.boolean))) := goodC tw_2890
theorem gw_X12_isEdge : GoodIn TW (WS yX12_isEdge cX12_isEdge 3 (some (.boolean))) := goodC tw_2902
theorem gw_X12_isEndless : GoodIn TW (WS yX12_isEndless cX12_isEndless 2 (some (.boolean))) := goodC tw_2804
theorem gw_X12_isHex : GoodIn TW (WS yX12_isHex cX12_isHex 1 (some (.boolean))) := goodC tw_2671
theorem gw_X12_isInParts : GoodIn TW (WS yX12_isInParts cX12_isInParts 5 (some (.boolean))) := goodC tw_2787
theorem gw_X12_isLetter : GoodIn TW (WS yX12_isLetter cX12_isLetter 1 (some (.boolean))) := goodC tw_2674
theorem gw_X12_isMark : GoodIn TW (WS yX12_isMark cX12_isMark 1 (some (.boolean))) := goodC tw_2740
theorem gw_X12_isParted : GoodIn TW (WS yX12_isParted cX12_isParted 2 (some (.boolean))) := goodC tw_3049
theorem gw_X12_isPlain : GoodIn TW (WS yX12_isPlain cX12_isPlain 1 (some (.boolean))) := goodC tw_2747
theorem gw_X12_isReplacing : GoodIn TW (WS yX12_isReplacing cX12_isReplacing 4 (some (.boolean))) := goodC tw_2977
theorem gw_X12_isSamePrint : GoodIn TW (WS yX12_isSamePrint cX12_isSamePrint 7 (some (.boolean))) := goodC tw_2767
theorem gw_X12_isStep : GoodIn TW (WS yX12_isStep cX12_isStep 1 (some (.boolean))) := goodC tw_2894
theorem gw_X12_isWord : GoodIn TW (WS yX12_isWord cX12_isWord 1 (some (.boolean))) := goodC tw_2909
theorem gw_X12_isWordAt : GoodIn TW (WS yX12_isWordAt cX12_isWordAt 2 (some (.boolean))) := goodC tw_2906
theorem gw_X12_isWrapped : GoodIn TW (WS yX12_isWrapped cX12_isWrapped 6 (some (.boolean))) := goodC tw_2733
theorem gw_X12_joinParts : GoodIn TW (WS yX12_joinParts cX12_joinParts 6 none) := goodC tw_2664
theorem gw_X12_keepPattern : GoodIn TW (WS yX12_keepPattern cX12_keepPattern 9 none) := goodC tw_2686
theorem gw_X12_keepSpan : GoodIn TW (WS yX12_keepSpan cX12_keepSpan 4 none) := goodC tw_2945
theorem gw_X12_kindBars : GoodIn TW (WS yX12_kindBars cX12_kindBars 8 (some (.int))) := goodC tw_2837
theorem gw_X12_later : GoodIn TW (WS yX12_later cX12_later 4 none) := goodC tw_2853
theorem gw_X12_least : GoodIn TW (WS yX12_least cX12_least 7 (some (.int))) := goodC tw_3013
theorem gw_X12_looped : GoodIn TW (WS yX12_looped cX12_looped 5 (some (.int))) := goodC tw_2621
theorem gw_X12_made : GoodIn TW (WS yX12_made cX12_made 4 (some (.int))) := goodC tw_2601
theorem gw_X12_makePart : GoodIn TW (WS yX12_makePart cX12_makePart 5 none) := goodC tw_2981
theorem gw_X12_makeSign : GoodIn TW (WS yX12_makeSign cX12_makeSign 2 none) := goodC tw_2985
theorem gw_X12_makeTable : GoodIn TW (WS yX12_makeTable cX12_makeTable 15 (some (.int))) := goodC tw_3005
theorem gw_X12_markBounds : GoodIn TW (WS yX12_markBounds cX12_markBounds 6 none) := goodC tw_2795
theorem gw_X12_measure : GoodIn TW (WS yX12_measure cX12_measure 11 none) := goodC tw_2690
theorem gw_X12_meet : GoodIn TW (WS yX12_meet cX12_meet 5 none) := goodC tw_3045
theorem gw_X12_member : GoodIn TW (WS yX12_member cX12_member 4 none) := goodC tw_2682
theorem gw_X12_named : GoodIn TW (WS yX12_named cX12_named 4 (some (.int))) := goodC tw_2957
theorem gw_X12_newLabel : GoodIn TW (WS yX12_newLabel cX12_newLabel 1 (some (.int))) := goodC tw_2865
theorem gw_X12_node : GoodIn TW (WS yX12_node cX12_node 6 (some (.int))) := goodC tw_2709
theorem gw_X12_numberFrom : GoodIn TW (WS yX12_numberFrom cX12_numberFrom 5 (some (.int))) := goodC tw_2629
theorem gw_X12_openGroup : GoodIn TW (WS yX12_openGroup cX12_openGroup 4 none) := goodC tw_2640
theorem gw_X12_otherCase : GoodIn TW (WS yX12_otherCase cX12_otherCase 1 (some (.int))) := goodC tw_2783
theorem gw_X12_otherSort : GoodIn TW (WS yX12_otherSort cX12_otherSort 1 (some (.int))) := goodC tw_2713
theorem gw_X12_out : GoodIn TW (WS yX12_out cX12_out 2 (some (.int))) := goodC tw_3057
theorem gw_X12_part : GoodIn TW (WS yX12_part cX12_part 6 (some (.int))) := goodC tw_2717
theorem gw_X12_parting : GoodIn TW (WS yX12_parting cX12_parting 7 (some (.int))) := goodC tw_3053
theorem gw_X12_pattern : GoodIn TW (WS yX12_pattern cX12_pattern 3 (some (.int))) := goodC tw_2577
theorem gw_X12_place : GoodIn TW (WS yX12_place cX12_place 1 (some (.int))) := goodC tw_2697
theorem gw_X12_prefix : GoodIn TW (WS yX12_prefix cX12_prefix 8 (some (.int))) := goodC tw_3021
theorem gw_X12_print : GoodIn TW (WS yX12_print cX12_print 3 (some (.int))) := goodC tw_2721
theorem gw_X12_printFrom : GoodIn TW (WS yX12_printFrom cX12_printFrom 7 none) := goodC tw_2725
theorem gw_X12_printHead : GoodIn TW (WS yX12_printHead cX12_printHead 6 none) := goodC tw_2729
theorem gw_X12_printTail : GoodIn TW (WS yX12_printTail cX12_printTail 6 none) := goodC tw_2755
theorem gw_X12_put : GoodIn TW (WS yX12_put cX12_put 2 none) := goodC tw_2737
theorem gw_X12_putHex : GoodIn TW (WS yX12_putHex cX12_putHex 4 none) := goodC tw_2744
theorem gw_X12_putMember : GoodIn TW (WS yX12_putMember cX12_putMember 2 none) := goodC tw_2751
theorem gw_X12_putNumber : GoodIn TW (WS yX12_putNumber cX12_putNumber 2 none) := goodC tw_2759
theorem gw_X12_put_ : GoodIn TW (WS yX12_put_ cX12_put_ 7 (some (.int))) := goodC tw_2808
theorem gw_X12_reach : GoodIn TW (WS yX12_reach cX12_reach 4 none) := goodC tw_3009
theorem gw_X12_readAll : GoodIn TW (WS yX12_readAll cX12_readAll 2 (some (.int))) := goodC tw_2581
theorem gw_X12_readOne : GoodIn TW (WS yX12_readOne cX12_readOne 3 none) := goodC tw_2648
theorem gw_X12_readSet : GoodIn TW (WS yX12_readSet cX12_readSet 8 (some (.int))) := goodC tw_2678
theorem gw_X12_replace : GoodIn TW (WS yX12_replace cX12_replace 9 (some (.int))) := goodC tw_2973
theorem gw_X12_risky : GoodIn TW (WS yX12_risky cX12_risky 7 (some (.int))) := goodC tw_2791
theorem gw_X12_searched : GoodIn TW (WS yX12_searched cX12_searched 10 (some (.int))) := goodC tw_2881
theorem gw_X12_set : GoodIn TW (WS yX12_set cX12_set 3 none) := goodC tw_2921
theorem gw_X12_setNode : GoodIn TW (WS yX12_setNode cX12_setNode 4 (some (.int))) := goodC tw_2660
theorem gw_X12_sign : GoodIn TW (WS yX12_sign cX12_sign 3 (some (.char))) := goodC tw_2821
theorem gw_X12_signAt : GoodIn TW (WS yX12_signAt cX12_signAt 2 (some (.int))) := goodC tw_2593
theorem gw_X12_signOf : GoodIn TW (WS yX12_signOf cX12_signOf 2 (some (.int))) := goodC tw_2898
theorem gw_X12_sizeBars : GoodIn TW (WS yX12_sizeBars cX12_sizeBars 4 (some (.int))) := goodC tw_2841
theorem gw_X12_span : GoodIn TW (WS yX12_span cX12_span 3 (some (.int))) := goodC tw_2953
theorem gw_X12_steps : GoodIn TW (WS yX12_steps cX12_steps 1 (some (.int))) := goodC tw_2993
theorem gw_X12_table : GoodIn TW (WS yX12_table cX12_table 3 (some (.int))) := goodC tw_2997
theorem gw_X12_tabled : GoodIn TW (WS yX12_tabled cX12_tabled 3 (some (.int))) := goodC tw_3001
theorem gw_X12_takes : GoodIn TW (WS yX12_takes cX12_takes 4 (some (.boolean))) := goodC tw_2780
theorem gw_X12_testLoop : GoodIn TW (WS yX12_testLoop cX12_testLoop 6 none) := goodC tw_2925
theorem gw_X12_told : GoodIn TW (WS yX12_told cX12_told 5 (some (.int))) := goodC tw_3065
theorem gw_X12_tried : GoodIn TW (WS yX12_tried cX12_tried 6 (some (.int))) := goodC tw_2886
theorem gw_X12_tryBehind : GoodIn TW (WS yX12_tryBehind cX12_tryBehind 3 none) := goodC tw_2937
theorem gw_X12_whole : GoodIn TW (WS yX12_whole cX12_whole 6 (some (.int))) := goodC tw_2961
theorem gw_X12_wrongBoth : GoodIn TW (WS yX12_wrongBoth cX12_wrongBoth 4 (some (.int))) := goodC tw_2829
theorem gw_X12_wrongSlot : GoodIn TW (WS yX12_wrongSlot cX12_wrongSlot 2 (some (.int))) := goodC tw_2705
theorem gw_X12_wrongSubject : GoodIn TW (WS yX12_wrongSubject cX12_wrongSubject 2 (some (.int))) := goodC tw_2817
