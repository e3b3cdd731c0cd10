set_option maxRecDepth 100000 in
theorem km_0 : Cond.selects rr_PQ yy_PQ_append yy_PQ_append ∈ zT := zm 0 (by decide +kernel) (by decide +kernel)
set_option maxRecDepth 100000 in
theorem km_1 : Cond.selects rr_Reader yy_Reader_begin yy_Reader_begin ∈ zT := zm 1 (by decide +kernel) (by decide +kernel)
set_option maxRecDepth 100000 in
theorem km_2 : Cond.selects rr_Tokens yy_Tokens_takeToken yy_Tokens_takeToken ∈ zT := zm 2 (by decide +kernel) (by decide +kernel)
set_option maxRecDepth 100000 in
theorem km_3 : Cond.selects rr_Tokens yy_Tokens_nameKind yy_Tokens_nameKind ∈ zT := zm 3 (by decide +kernel) (by decide +kernel)
set_option maxRecDepth 100000 in
theorem km_4 : Cond.selects rr_Tokens yy_Tokens_numberKind yy_Tokens_numberKind ∈ zT := zm 4 (by decide +kernel) (by decide +kernel)
set_option maxRecDepth 100000 in
theorem km_5 : Cond.selects rr_Tokens yy_Tokens_letterKind yy_Tokens_letterKind ∈ zT := zm 5 (by decide +kernel) (by decide +kernel)
set_option maxRecDepth 100000 in
theorem km_6 : Cond.selects rr_Tokens yy_Tokens_numberedKind yy_Tokens_numberedKind ∈ zT := zm 6 (by decide +kernel) (by decide +kernel)
set_option maxRecDepth 100000 in
theorem km_7 : Cond.selects rr_Tokens yy_Tokens_wordKind yy_Tokens_wordKind ∈ zT := zm 7 (by decide +kernel) (by decide +kernel)
set_option maxRecDepth 100000 in
theorem km_8 : Cond.selects rr_Tokens yy_Tokens_isSame yy_Tokens_isSame ∈ zT := zm 8 (by decide +kernel) (by decide +kernel)
set_option maxRecDepth 100000 in
theorem km_9 : Cond.selects rr_Tokens yy_Tokens_signKind yy_Tokens_signKind ∈ zT := zm 9 (by decide +kernel) (by decide +kernel)
set_option maxRecDepth 100000 in
theorem km_10 : Cond.selects rr_Reader yy_Reader_take yy_Reader_take ∈ zT := zm 10 (by decide +kernel) (by decide +kernel)
set_option maxRecDepth 100000 in
theorem km_11 : Cond.selects rr_Reader yy_Reader_fail yy_Reader_fail ∈ zT := zm 11 (by decide +kernel) (by decide +kernel)
set_option maxRecDepth 100000 in
theorem km_12 : Cond.selects rr_Reader yy_Reader_failAt yy_Reader_failAt ∈ zT := zm 12 (by decide +kernel) (by decide +kernel)
set_option maxRecDepth 100000 in
theorem km_13 : Cond.selects rr_Reader yy_Reader_takeHead yy_Reader_takeHead ∈ zT := zm 13 (by decide +kernel) (by decide +kernel)
set_option maxRecDepth 100000 in
theorem km_14 : Cond.selects rr_Reader yy_Reader_takeInNode yy_Reader_takeInNode ∈ zT := zm 14 (by decide +kernel) (by decide +kernel)
set_option maxRecDepth 100000 in
theorem km_15 : Cond.selects rr_Reader yy_Reader_nameNode yy_Reader_nameNode ∈ zT := zm 15 (by decide +kernel) (by decide +kernel)
set_option maxRecDepth 100000 in
theorem km_16 : Cond.selects rr_Reader yy_Reader_tellNode yy_Reader_tellNode ∈ zT := zm 16 (by decide +kernel) (by decide +kernel)
set_option maxRecDepth 100000 in
theorem km_17 : Cond.selects rr_Reader yy_Reader_takeSlot yy_Reader_takeSlot ∈ zT := zm 17 (by decide +kernel) (by decide +kernel)
set_option maxRecDepth 100000 in
theorem km_18 : Cond.selects rr_Reader yy_Reader_makeKnown yy_Reader_makeKnown ∈ zT := zm 18 (by decide +kernel) (by decide +kernel)
set_option maxRecDepth 100000 in
theorem km_19 : Cond.selects rr_Reader yy_Reader_closeNode yy_Reader_closeNode ∈ zT := zm 19 (by decide +kernel) (by decide +kernel)
set_option maxRecDepth 100000 in
theorem km_20 : Cond.selects rr_Reader yy_Reader_takeAfterNode yy_Reader_takeAfterNode ∈ zT := zm 20 (by decide +kernel) (by decide +kernel)
set_option maxRecDepth 100000 in
theorem km_21 : Cond.selects rr_Reader yy_Reader_openWay yy_Reader_openWay ∈ zT := zm 21 (by decide +kernel) (by decide +kernel)
set_option maxRecDepth 100000 in
theorem km_22 : Cond.selects rr_Reader yy_Reader_passOn yy_Reader_passOn ∈ zT := zm 22 (by decide +kernel) (by decide +kernel)
set_option maxRecDepth 100000 in
theorem km_23 : Cond.selects rr_Reader yy_Reader_openGive yy_Reader_openGive ∈ zT := zm 23 (by decide +kernel) (by decide +kernel)
set_option maxRecDepth 100000 in
theorem km_24 : Cond.selects rr_Reader yy_Reader_takeInWay yy_Reader_takeInWay ∈ zT := zm 24 (by decide +kernel) (by decide +kernel)
set_option maxRecDepth 100000 in
theorem km_25 : Cond.selects rr_Reader yy_Reader_nameLeast yy_Reader_nameLeast ∈ zT := zm 25 (by decide +kernel) (by decide +kernel)
set_option maxRecDepth 100000 in
theorem km_26 : Cond.selects rr_Reader yy_Reader_takeStep yy_Reader_takeStep ∈ zT := zm 26 (by decide +kernel) (by decide +kernel)
set_option maxRecDepth 100000 in
theorem km_27 : Cond.selects rr_Way yy_Way_settlePending yy_Way_settlePending ∈ zT := zm 27 (by decide +kernel) (by decide +kernel)
set_option maxRecDepth 100000 in
theorem km_28 : Cond.selects rr_Way yy_Way_lead yy_Way_lead ∈ zT := zm 28 (by decide +kernel) (by decide +kernel)
set_option maxRecDepth 100000 in
theorem km_29 : Cond.selects rr_Reader yy_Reader_addStep yy_Reader_addStep ∈ zT := zm 29 (by decide +kernel) (by decide +kernel)
set_option maxRecDepth 100000 in
theorem km_30 : Cond.selects rr_Reader yy_Reader_takeAfterStep yy_Reader_takeAfterStep ∈ zT := zm 30 (by decide +kernel) (by decide +kernel)
set_option maxRecDepth 100000 in
theorem km_31 : Cond.selects rr_Reader yy_Reader_takeFact yy_Reader_takeFact ∈ zT := zm 31 (by decide +kernel) (by decide +kernel)
set_option maxRecDepth 100000 in
theorem km_32 : Cond.selects rr_Reader yy_Reader_takeAfterFact yy_Reader_takeAfterFact ∈ zT := zm 32 (by decide +kernel) (by decide +kernel)
set_option maxRecDepth 100000 in
theorem km_33 : Cond.selects rr_Operators yy_Operators_popOpen yy_Operators_popOpen ∈ zT := zm 33 (by decide +kernel) (by decide +kernel)
set_option maxRecDepth 100000 in
theorem km_34 : Cond.selects rr_Reader yy_Reader_takeUnit yy_Reader_takeUnit ∈ zT := zm 34 (by decide +kernel) (by decide +kernel)
set_option maxRecDepth 100000 in
theorem km_35 : Cond.selects rr_Reader yy_Reader_findVariable yy_Reader_findVariable ∈ zT := zm 35 (by decide +kernel) (by decide +kernel)
set_option maxRecDepth 100000 in
theorem km_36 : Cond.selects rr_Reader yy_Reader_takeAfterVariable yy_Reader_takeAfterVariable ∈ zT := zm 36 (by decide +kernel) (by decide +kernel)
set_option maxRecDepth 100000 in
theorem km_37 : Cond.selects rr_Reader yy_Reader_takeAfterUnit yy_Reader_takeAfterUnit ∈ zT := zm 37 (by decide +kernel) (by decide +kernel)
set_option maxRecDepth 100000 in
theorem km_38 : Cond.selects rr_Reader yy_Reader_takeComparison yy_Reader_takeComparison ∈ zT := zm 38 (by decide +kernel) (by decide +kernel)
set_option maxRecDepth 100000 in
theorem km_39 : Cond.selects rr_Reader yy_Reader_takeItem yy_Reader_takeItem ∈ zT := zm 39 (by decide +kernel) (by decide +kernel)
set_option maxRecDepth 100000 in
theorem km_40 : Cond.selects rr_Reader yy_Reader_takeTail yy_Reader_takeTail ∈ zT := zm 40 (by decide +kernel) (by decide +kernel)
set_option maxRecDepth 100000 in
theorem km_41 : Cond.selects rr_Reader yy_Reader_takeLimit yy_Reader_takeLimit ∈ zT := zm 41 (by decide +kernel) (by decide +kernel)
set_option maxRecDepth 100000 in
theorem km_42 : Cond.selects rr_Reader yy_Reader_givenSlot yy_Reader_givenSlot ∈ zT := zm 42 (by decide +kernel) (by decide +kernel)
set_option maxRecDepth 100000 in
theorem km_43 : Cond.selects rr_Reader yy_Reader_checkLast yy_Reader_checkLast ∈ zT := zm 43 (by decide +kernel) (by decide +kernel)
set_option maxRecDepth 100000 in
theorem km_44 : Cond.selects rr_RuleBook yy_RuleBook_workOfAll yy_RuleBook_workOfAll ∈ zT := zm 44 (by decide +kernel) (by decide +kernel)
set_option maxRecDepth 100000 in
theorem km_45 : Cond.selects rr_RuleBook yy_RuleBook_isOneLarge yy_RuleBook_isOneLarge ∈ zT := zm 45 (by decide +kernel) (by decide +kernel)
set_option maxRecDepth 100000 in
theorem km_46 : Cond.selects rr_RuleBook yy_RuleBook_goRound yy_RuleBook_goRound ∈ zT := zm 46 (by decide +kernel) (by decide +kernel)
set_option maxRecDepth 100000 in
theorem km_47 : Cond.selects rr_Finder yy_Finder_measureFrom yy_Finder_measureFrom ∈ zT := zm 47 (by decide +kernel) (by decide +kernel)
set_option maxRecDepth 100000 in
theorem km_48 : Cond.selects rr_Finder yy_Finder_goFirst yy_Finder_goFirst ∈ zT := zm 48 (by decide +kernel) (by decide +kernel)
set_option maxRecDepth 100000 in
theorem km_49 : Cond.selects rr_Finder yy_Finder_goOn yy_Finder_goOn ∈ zT := zm 49 (by decide +kernel) (by decide +kernel)
set_option maxRecDepth 100000 in
theorem km_50 : Cond.selects rr_Finder yy_Finder_spread yy_Finder_spread ∈ zT := zm 50 (by decide +kernel) (by decide +kernel)
set_option maxRecDepth 100000 in
theorem km_51 : Cond.selects rr_Search yy_Search_candidates yy_Search_candidates ∈ zT := zm 51 (by decide +kernel) (by decide +kernel)
set_option maxRecDepth 100000 in
theorem km_52 : Cond.selects rr_Search yy_Search_knownFit yy_Search_knownFit ∈ zT := zm 52 (by decide +kernel) (by decide +kernel)
set_option maxRecDepth 100000 in
theorem km_53 : Cond.selects rr_Finder yy_Finder_load yy_Finder_load ∈ zT := zm 53 (by decide +kernel) (by decide +kernel)
set_option maxRecDepth 100000 in
theorem km_54 : Cond.selects rr_RuleBook yy_RuleBook_linkAll yy_RuleBook_linkAll ∈ zT := zm 54 (by decide +kernel) (by decide +kernel)
set_option maxRecDepth 100000 in
theorem km_55 : Cond.selects rr_Collector yy_Collector_gather yy_Collector_gather ∈ zT := zm 55 (by decide +kernel) (by decide +kernel)
set_option maxRecDepth 100000 in
theorem km_56 : Cond.selects rr_Rows yy_Rows_merge yy_Rows_merge ∈ zT := zm 56 (by decide +kernel) (by decide +kernel)
set_option maxRecDepth 100000 in
theorem km_57 : Cond.selects rr_Collector yy_Collector_fold yy_Collector_fold ∈ zT := zm 57 (by decide +kernel) (by decide +kernel)
set_option maxRecDepth 100000 in
theorem km_58 : Cond.selects rr_Collector yy_Collector_addTo yy_Collector_addTo ∈ zT := zm 58 (by decide +kernel) (by decide +kernel)
set_option maxRecDepth 100000 in
theorem km_59 : Cond.selects rr_Mo yy_Mo_feedOne yy_Mo_feedOne ∈ zT := zm 59 (by decide +kernel) (by decide +kernel)
set_option maxRecDepth 100000 in
theorem km_60 : Cond.selects rr_Mo yy_Mo_changed yy_Mo_changed ∈ zT := zm 60 (by decide +kernel) (by decide +kernel)
set_option maxRecDepth 100000 in
theorem km_61 : Cond.selects rr_Mo yy_Mo_ruleCount yy_Mo_ruleCount ∈ zT := zm 61 (by decide +kernel) (by decide +kernel)
set_option maxRecDepth 100000 in
theorem km_62 : Cond.selects rr_Mo yy_Mo_readQuestion yy_Mo_readQuestion ∈ zT := zm 62 (by decide +kernel) (by decide +kernel)
set_option maxRecDepth 100000 in
theorem km_63 : Cond.selects rr_Mo yy_Mo_begin yy_Mo_begin ∈ zT := zm 63 (by decide +kernel) (by decide +kernel)
set_option maxRecDepth 100000 in
theorem km_64 : Cond.selects rr_Mo yy_Mo_cutTokens yy_Mo_cutTokens ∈ zT := zm 64 (by decide +kernel) (by decide +kernel)
set_option maxRecDepth 100000 in
theorem km_65 : Cond.selects rr_Mo yy_Mo_at yy_Mo_at ∈ zT := zm 65 (by decide +kernel) (by decide +kernel)
set_option maxRecDepth 100000 in
theorem km_66 : Cond.selects rr_Mo yy_Mo_wordToken yy_Mo_wordToken ∈ zT := zm 66 (by decide +kernel) (by decide +kernel)
set_option maxRecDepth 100000 in
theorem km_67 : Cond.selects rr_Mo yy_Mo_patterns yy_Mo_patterns ∈ zT := zm 67 (by decide +kernel) (by decide +kernel)
set_option maxRecDepth 100000 in
theorem km_68 : Cond.selects rr_Mo yy_Mo_need yy_Mo_need ∈ zT := zm 68 (by decide +kernel) (by decide +kernel)
set_option maxRecDepth 100000 in
theorem km_69 : Cond.selects rr_Mo yy_Mo_takes yy_Mo_takes ∈ zT := zm 69 (by decide +kernel) (by decide +kernel)
set_option maxRecDepth 100000 in
theorem km_70 : Cond.selects rr_Mo yy_Mo_kind yy_Mo_kind ∈ zT := zm 70 (by decide +kernel) (by decide +kernel)
set_option maxRecDepth 100000 in
theorem km_71 : Cond.selects rr_Mo yy_Mo_refuse yy_Mo_refuse ∈ zT := zm 71 (by decide +kernel) (by decide +kernel)
set_option maxRecDepth 100000 in
theorem km_72 : Cond.selects rr_Mo yy_Mo_pass yy_Mo_pass ∈ zT := zm 72 (by decide +kernel) (by decide +kernel)
set_option maxRecDepth 100000 in
theorem km_73 : Cond.selects rr_Mo yy_Mo_stands yy_Mo_stands ∈ zT := zm 73 (by decide +kernel) (by decide +kernel)
set_option maxRecDepth 100000 in
theorem km_74 : Cond.selects rr_Mo yy_Mo_wrong yy_Mo_wrong ∈ zT := zm 74 (by decide +kernel) (by decide +kernel)
set_option maxRecDepth 100000 in
theorem km_75 : Cond.selects rr_Mo yy_Mo_pattern yy_Mo_pattern ∈ zT := zm 75 (by decide +kernel) (by decide +kernel)
set_option maxRecDepth 100000 in
theorem km_76 : Cond.selects rr_Mo yy_Mo_nodeOf yy_Mo_nodeOf ∈ zT := zm 76 (by decide +kernel) (by decide +kernel)
set_option maxRecDepth 100000 in
theorem km_77 : Cond.selects rr_Mo yy_Mo_meaning yy_Mo_meaning ∈ zT := zm 77 (by decide +kernel) (by decide +kernel)
set_option maxRecDepth 100000 in
theorem km_78 : Cond.selects rr_Mo yy_Mo_oneMore yy_Mo_oneMore ∈ zT := zm 78 (by decide +kernel) (by decide +kernel)
set_option maxRecDepth 100000 in
theorem km_79 : Cond.selects rr_Mo yy_Mo_newSlot yy_Mo_newSlot ∈ zT := zm 79 (by decide +kernel) (by decide +kernel)
set_option maxRecDepth 100000 in
theorem km_80 : Cond.selects rr_Mo yy_Mo_learn yy_Mo_learn ∈ zT := zm 80 (by decide +kernel) (by decide +kernel)
set_option maxRecDepth 100000 in
theorem km_81 : Cond.selects rr_Mo yy_Mo_way yy_Mo_way ∈ zT := zm 81 (by decide +kernel) (by decide +kernel)
set_option maxRecDepth 100000 in
theorem km_82 : Cond.selects rr_Mo yy_Mo_rows yy_Mo_rows ∈ zT := zm 82 (by decide +kernel) (by decide +kernel)
set_option maxRecDepth 100000 in
theorem km_83 : Cond.selects rr_Mo yy_Mo_open yy_Mo_open ∈ zT := zm 83 (by decide +kernel) (by decide +kernel)
set_option maxRecDepth 100000 in
theorem km_84 : Cond.selects rr_Mo yy_Mo_beginRow yy_Mo_beginRow ∈ zT := zm 84 (by decide +kernel) (by decide +kernel)
set_option maxRecDepth 100000 in
theorem km_85 : Cond.selects rr_Mo yy_Mo_within yy_Mo_within ∈ zT := zm 85 (by decide +kernel) (by decide +kernel)
set_option maxRecDepth 100000 in
theorem km_86 : Cond.selects rr_Mo yy_Mo_single yy_Mo_single ∈ zT := zm 86 (by decide +kernel) (by decide +kernel)
set_option maxRecDepth 100000 in
theorem km_87 : Cond.selects rr_Mo yy_Mo_step yy_Mo_step ∈ zT := zm 87 (by decide +kernel) (by decide +kernel)
set_option maxRecDepth 100000 in
theorem km_88 : Cond.selects rr_Mo yy_Mo_link yy_Mo_link ∈ zT := zm 88 (by decide +kernel) (by decide +kernel)
set_option maxRecDepth 100000 in
theorem km_89 : Cond.selects rr_Mo yy_Mo_endRow yy_Mo_endRow ∈ zT := zm 89 (by decide +kernel) (by decide +kernel)
set_option maxRecDepth 100000 in
theorem km_90 : Cond.selects rr_Mo yy_Mo_parse yy_Mo_parse ∈ zT := zm 90 (by decide +kernel) (by decide +kernel)
set_option maxRecDepth 100000 in
theorem km_91 : Cond.selects rr_Mo yy_Mo_frame yy_Mo_frame ∈ zT := zm 91 (by decide +kernel) (by decide +kernel)
set_option maxRecDepth 100000 in
theorem km_92 : Cond.selects rr_Mo yy_Mo_joined yy_Mo_joined ∈ zT := zm 92 (by decide +kernel) (by decide +kernel)
set_option maxRecDepth 100000 in
theorem km_93 : Cond.selects rr_Mo yy_Mo_code yy_Mo_code ∈ zT := zm 93 (by decide +kernel) (by decide +kernel)
set_option maxRecDepth 100000 in
theorem km_94 : Cond.selects rr_Mo yy_Mo_fact yy_Mo_fact ∈ zT := zm 94 (by decide +kernel) (by decide +kernel)
set_option maxRecDepth 100000 in
theorem km_95 : Cond.selects rr_Mo yy_Mo_factBegins yy_Mo_factBegins ∈ zT := zm 95 (by decide +kernel) (by decide +kernel)
set_option maxRecDepth 100000 in
theorem km_96 : Cond.selects rr_Mo yy_Mo_without yy_Mo_without ∈ zT := zm 96 (by decide +kernel) (by decide +kernel)
set_option maxRecDepth 100000 in
theorem km_97 : Cond.selects rr_Mo yy_Mo_reckoned yy_Mo_reckoned ∈ zT := zm 97 (by decide +kernel) (by decide +kernel)
set_option maxRecDepth 100000 in
theorem km_98 : Cond.selects rr_Mo yy_Mo_unit yy_Mo_unit ∈ zT := zm 98 (by decide +kernel) (by decide +kernel)
set_option maxRecDepth 100000 in
theorem km_99 : Cond.selects rr_Mo yy_Mo_variable yy_Mo_variable ∈ zT := zm 99 (by decide +kernel) (by decide +kernel)
set_option maxRecDepth 100000 in
theorem km_100 : Cond.selects rr_Mo yy_Mo_item yy_Mo_item ∈ zT := zm 100 (by decide +kernel) (by decide +kernel)
set_option maxRecDepth 100000 in
theorem km_101 : Cond.selects rr_Mo yy_Mo_ended yy_Mo_ended ∈ zT := zm 101 (by decide +kernel) (by decide +kernel)
set_option maxRecDepth 100000 in
theorem km_102 : Cond.selects rr_Mo yy_Mo_settle yy_Mo_settle ∈ zT := zm 102 (by decide +kernel) (by decide +kernel)
set_option maxRecDepth 100000 in
theorem km_103 : Cond.selects rr_Mo yy_Mo_readRule yy_Mo_readRule ∈ zT := zm 103 (by decide +kernel) (by decide +kernel)
set_option maxRecDepth 100000 in
theorem km_104 : Cond.selects rr_Mo yy_Mo_endOf yy_Mo_endOf ∈ zT := zm 104 (by decide +kernel) (by decide +kernel)
set_option maxRecDepth 100000 in
theorem km_105 : Cond.selects rr_Mo yy_Mo_workRules yy_Mo_workRules ∈ zT := zm 105 (by decide +kernel) (by decide +kernel)
set_option maxRecDepth 100000 in
theorem km_106 : Cond.selects rr_Mo yy_Mo_workOf yy_Mo_workOf ∈ zT := zm 106 (by decide +kernel) (by decide +kernel)
set_option maxRecDepth 100000 in
theorem km_107 : Cond.selects rr_Mo yy_Mo_round yy_Mo_round ∈ zT := zm 107 (by decide +kernel) (by decide +kernel)
set_option maxRecDepth 100000 in
theorem km_108 : Cond.selects rr_Mo yy_Mo_measureAll yy_Mo_measureAll ∈ zT := zm 108 (by decide +kernel) (by decide +kernel)
set_option maxRecDepth 100000 in
theorem km_109 : Cond.selects rr_Mo yy_Mo_measure yy_Mo_measure ∈ zT := zm 109 (by decide +kernel) (by decide +kernel)
set_option maxRecDepth 100000 in
theorem km_110 : Cond.selects rr_Mo yy_Mo_leadsBy yy_Mo_leadsBy ∈ zT := zm 110 (by decide +kernel) (by decide +kernel)
set_option maxRecDepth 100000 in
theorem km_111 : Cond.selects rr_Mo yy_Mo_firstRow yy_Mo_firstRow ∈ zT := zm 111 (by decide +kernel) (by decide +kernel)
set_option maxRecDepth 100000 in
theorem km_112 : Cond.selects rr_Mo yy_Mo_holds yy_Mo_holds ∈ zT := zm 112 (by decide +kernel) (by decide +kernel)
set_option maxRecDepth 100000 in
theorem km_113 : Cond.selects rr_Mo yy_Mo_fits yy_Mo_fits ∈ zT := zm 113 (by decide +kernel) (by decide +kernel)
set_option maxRecDepth 100000 in
theorem km_114 : Cond.selects rr_Mo yy_Mo_distance yy_Mo_distance ∈ zT := zm 114 (by decide +kernel) (by decide +kernel)
set_option maxRecDepth 100000 in
theorem km_115 : Cond.selects rr_Mo yy_Mo_work yy_Mo_work ∈ zT := zm 115 (by decide +kernel) (by decide +kernel)
set_option maxRecDepth 100000 in
theorem km_116 : Cond.selects rr_Mo yy_Mo_isWithout yy_Mo_isWithout ∈ zT := zm 116 (by decide +kernel) (by decide +kernel)
set_option maxRecDepth 100000 in
theorem km_117 : Cond.selects rr_Mo yy_Mo_goesOn yy_Mo_goesOn ∈ zT := zm 117 (by decide +kernel) (by decide +kernel)
set_option maxRecDepth 100000 in
theorem km_118 : Cond.selects rr_Mo yy_Mo_answered yy_Mo_answered ∈ zT := zm 118 (by decide +kernel) (by decide +kernel)
set_option maxRecDepth 100000 in
theorem km_119 : Cond.selects rr_Mo yy_Mo_collect yy_Mo_collect ∈ zT := zm 119 (by decide +kernel) (by decide +kernel)
set_option maxRecDepth 100000 in
theorem km_120 : Cond.selects rr_Mo yy_Mo_groupRows yy_Mo_groupRows ∈ zT := zm 120 (by decide +kernel) (by decide +kernel)
set_option maxRecDepth 100000 in
theorem km_121 : Cond.selects rr_Mo yy_Mo_sortRows yy_Mo_sortRows ∈ zT := zm 121 (by decide +kernel) (by decide +kernel)
set_option maxRecDepth 100000 in
theorem km_122 : Cond.selects rr_Mo yy_Mo_compareRows yy_Mo_compareRows ∈ zT := zm 122 (by decide +kernel) (by decide +kernel)
set_option maxRecDepth 100000 in
theorem km_123 : Cond.selects rr_Mo yy_Mo_together yy_Mo_together ∈ zT := zm 123 (by decide +kernel) (by decide +kernel)
set_option maxRecDepth 100000 in
theorem km_125 : Cond.initialized rr_PQ ∈ zT := zm 125 (by decide +kernel) (by decide +kernel)
set_option maxRecDepth 100000 in
theorem km_126 : Cond.initialized rr_Graph ∈ zT := zm 126 (by decide +kernel) (by decide +kernel)
set_option maxRecDepth 100000 in
theorem km_127 : Cond.initialized rr_Arrays ∈ zT := zm 127 (by decide +kernel) (by decide +kernel)
set_option maxRecDepth 100000 in
theorem km_128 : Cond.initialized rr_Text ∈ zT := zm 128 (by decide +kernel) (by decide +kernel)
set_option maxRecDepth 100000 in
theorem km_129 : Cond.initialized rr_Way ∈ zT := zm 129 (by decide +kernel) (by decide +kernel)
set_option maxRecDepth 100000 in
theorem km_130 : Cond.initialized rr_Reader ∈ zT := zm 130 (by decide +kernel) (by decide +kernel)
set_option maxRecDepth 100000 in
theorem km_131 : Cond.initialized rr_Tokens ∈ zT := zm 131 (by decide +kernel) (by decide +kernel)
set_option maxRecDepth 100000 in
theorem km_132 : Cond.initialized rr_Operators ∈ zT := zm 132 (by decide +kernel) (by decide +kernel)
set_option maxRecDepth 100000 in
theorem km_133 : Cond.initialized rr_Finder ∈ zT := zm 133 (by decide +kernel) (by decide +kernel)
set_option maxRecDepth 100000 in
theorem km_134 : Cond.initialized rr_Search ∈ zT := zm 134 (by decide +kernel) (by decide +kernel)
set_option maxRecDepth 100000 in
theorem km_135 : Cond.initialized rr_RuleBook ∈ zT := zm 135 (by decide +kernel) (by decide +kernel)
set_option maxRecDepth 100000 in
theorem km_136 : Cond.initialized rr_Collector ∈ zT := zm 136 (by decide +kernel) (by decide +kernel)
set_option maxRecDepth 100000 in
theorem km_137 : Cond.initialized rr_Rows ∈ zT := zm 137 (by decide +kernel) (by decide +kernel)
set_option maxRecDepth 100000 in
theorem km_138 : Cond.initialized rr_Mo ∈ zT := zm 138 (by decide +kernel) (by decide +kernel)
set_option maxRecDepth 100000 in
theorem km_139 : Cond.initialized rr_Math ∈ zT := zm 139 (by decide +kernel) (by decide +kernel)
set_option maxRecDepth 100000 in
theorem km_140 : Cond.initialized rr_String ∈ zT := zm 140 (by decide +kernel) (by decide +kernel)
set_option maxRecDepth 100000 in
theorem km_141 : Cond.initialized rr_StringLatin1 ∈ zT := zm 141 (by decide +kernel) (by decide +kernel)
set_option maxRecDepth 100000 in
theorem km_143 : Cond.initialized rr_Preconditions ∈ zT := zm 143 (by decide +kernel) (by decide +kernel)
set_option maxRecDepth 100000 in
theorem km_145 : Cond.initialized rr_Integer ∈ zT := zm 145 (by decide +kernel) (by decide +kernel)
set_option maxRecDepth 100000 in
theorem km_146 : Cond.initialized "java/lang/System" ∈ zT := zm 146 (by decide +kernel) (by decide +kernel)
set_option maxRecDepth 100000 in
theorem km_152 : Cond.methodLink rr_PQ 3 Lib.objectInit ∈ zT := zm 152 (by decide +kernel) (by decide +kernel)
set_option maxRecDepth 100000 in
theorem km_153 : Cond.instanceMethod Lib.objectInit ∈ zT := zm 153 (by decide +kernel) (by decide +kernel)
set_option maxRecDepth 100000 in
theorem km_154 : Cond.code Lib.objectInit ⟨#[0xb1]⟩ 1 none ∈ zT := zm 154 (by decide +kernel) (by decide +kernel)
set_option maxRecDepth 100000 in
theorem km_155 : Cond.classLink rr_PQ 13 rr_Graph ∈ zT := zm 155 (by decide +kernel) (by decide +kernel)
set_option maxRecDepth 100000 in
theorem km_156 : Cond.instantiable rr_Graph 10 ∈ zT := zm 156 (by decide +kernel) (by decide +kernel)
set_option maxRecDepth 100000 in
theorem km_157 : Cond.methodLink rr_PQ 15 yy_Graph_init ∈ zT := zm 157 (by decide +kernel) (by decide +kernel)
set_option maxRecDepth 100000 in
theorem km_158 : Cond.instanceMethod yy_Graph_init ∈ zT := zm 158 (by decide +kernel) (by decide +kernel)
set_option maxRecDepth 100000 in
theorem km_159 : Cond.code yy_Graph_init bb_Graph_init 1 none ∈ zT := zm 159 (by decide +kernel) (by decide +kernel)
set_option maxRecDepth 100000 in
theorem km_160 : Cond.methodLink rr_Graph 3 Lib.objectInit ∈ zT := zm 160 (by decide +kernel) (by decide +kernel)
set_option maxRecDepth 100000 in
theorem km_161 : Cond.methodLink rr_Graph 43 yy_Arrays_fill ∈ zT := zm 161 (by decide +kernel) (by decide +kernel)
set_option maxRecDepth 100000 in
theorem km_162 : Cond.static yy_Arrays_fill ∈ zT := zm 162 (by decide +kernel) (by decide +kernel)
set_option maxRecDepth 100000 in
theorem km_163 : Cond.code yy_Arrays_fill bb_Arrays_fill 4 none ∈ zT := zm 163 (by decide +kernel) (by decide +kernel)
set_option maxRecDepth 100000 in
theorem km_164 : Cond.fieldLink rr_Graph 9 "PathQueries$Graph" "marks" "[I" ∈ zT := zm 164 (by decide +kernel) (by decide +kernel)
set_option maxRecDepth 100000 in
theorem km_165 : Cond.fieldLink rr_Graph 15 "PathQueries$Graph" "columns" "[I" ∈ zT := zm 165 (by decide +kernel) (by decide +kernel)
set_option maxRecDepth 100000 in
theorem km_166 : Cond.fieldLink rr_Finder 110 "PathQueries$Graph" "columns" "[I" ∈ zT := zm 166 (by decide +kernel) (by decide +kernel)
set_option maxRecDepth 100000 in
theorem km_167 : Cond.fieldLink rr_Graph 18 "PathQueries$Graph" "from" "[I" ∈ zT := zm 167 (by decide +kernel) (by decide +kernel)
set_option maxRecDepth 100000 in
theorem km_168 : Cond.fieldLink rr_Graph 21 "PathQueries$Graph" "to" "[I" ∈ zT := zm 168 (by decide +kernel) (by decide +kernel)
set_option maxRecDepth 100000 in
theorem km_169 : Cond.fieldLink rr_Graph 24 "PathQueries$Graph" "label" "[I" ∈ zT := zm 169 (by decide +kernel) (by decide +kernel)
set_option maxRecDepth 100000 in
theorem km_170 : Cond.fieldLink rr_Graph 27 "PathQueries$Graph" "weight" "[I" ∈ zT := zm 170 (by decide +kernel) (by decide +kernel)
set_option maxRecDepth 100000 in
theorem km_171 : Cond.fieldLink rr_Graph 30 "PathQueries$Graph" "reach" "[I" ∈ zT := zm 171 (by decide +kernel) (by decide +kernel)
set_option maxRecDepth 100000 in
theorem km_172 : Cond.fieldLink rr_Finder 174 "PathQueries$Graph" "reach" "[I" ∈ zT := zm 172 (by decide +kernel) (by decide +kernel)
set_option maxRecDepth 100000 in
theorem km_173 : Cond.fieldLink rr_Graph 33 "PathQueries$Graph" "nodes" "I" ∈ zT := zm 173 (by decide +kernel) (by decide +kernel)
set_option maxRecDepth 100000 in
theorem km_174 : Cond.fieldLink rr_Search 84 "PathQueries$Graph" "nodes" "I" ∈ zT := zm 174 (by decide +kernel) (by decide +kernel)
set_option maxRecDepth 100000 in
theorem km_175 : Cond.fieldLink rr_RuleBook 69 "PathQueries$Graph" "nodes" "I" ∈ zT := zm 175 (by decide +kernel) (by decide +kernel)
set_option maxRecDepth 100000 in
theorem km_176 : Cond.fieldLink rr_Finder 143 "PathQueries$Graph" "nodes" "I" ∈ zT := zm 176 (by decide +kernel) (by decide +kernel)
set_option maxRecDepth 100000 in
theorem km_177 : Cond.fieldLink rr_PQ 115 "PathQueries$Graph" "nodes" "I" ∈ zT := zm 177 (by decide +kernel) (by decide +kernel)
set_option maxRecDepth 100000 in
theorem km_178 : Cond.fieldLink rr_Graph 37 "PathQueries$Graph" "arcs" "I" ∈ zT := zm 178 (by decide +kernel) (by decide +kernel)
set_option maxRecDepth 100000 in
theorem km_179 : Cond.fieldLink rr_PQ 112 "PathQueries$Graph" "arcs" "I" ∈ zT := zm 179 (by decide +kernel) (by decide +kernel)
set_option maxRecDepth 100000 in
theorem km_180 : Cond.fieldLink rr_Graph 40 "PathQueries$Graph" "version" "I" ∈ zT := zm 180 (by decide +kernel) (by decide +kernel)
set_option maxRecDepth 100000 in
theorem km_181 : Cond.fieldLink rr_RuleBook 44 "PathQueries$Graph" "version" "I" ∈ zT := zm 181 (by decide +kernel) (by decide +kernel)
set_option maxRecDepth 100000 in
theorem km_182 : Cond.fieldLink rr_Finder 137 "PathQueries$Graph" "version" "I" ∈ zT := zm 182 (by decide +kernel) (by decide +kernel)
set_option maxRecDepth 100000 in
theorem km_183 : Cond.fieldLink rr_PQ 148 "PathQueries$Graph" "version" "I" ∈ zT := zm 183 (by decide +kernel) (by decide +kernel)
set_option maxRecDepth 100000 in
theorem km_205 : Cond.arrayClass .byte ∈ zT := zm 205 (by decide +kernel) (by decide +kernel)
set_option maxRecDepth 100000 in
theorem km_206 : Cond.arrayClass .int ∈ zT := zm 206 (by decide +kernel) (by decide +kernel)
set_option maxRecDepth 100000 in
theorem km_207 : Cond.classLink rr_PQ 20 rr_Text ∈ zT := zm 207 (by decide +kernel) (by decide +kernel)
set_option maxRecDepth 100000 in
theorem km_208 : Cond.instantiable rr_Text 21 ∈ zT := zm 208 (by decide +kernel) (by decide +kernel)
set_option maxRecDepth 100000 in
theorem km_209 : Cond.methodLink rr_PQ 22 yy_Text_init ∈ zT := zm 209 (by decide +kernel) (by decide +kernel)
set_option maxRecDepth 100000 in
theorem km_210 : Cond.instanceMethod yy_Text_init ∈ zT := zm 210 (by decide +kernel) (by decide +kernel)
set_option maxRecDepth 100000 in
theorem km_211 : Cond.code yy_Text_init bb_Text_init 2 none ∈ zT := zm 211 (by decide +kernel) (by decide +kernel)
set_option maxRecDepth 100000 in
theorem km_212 : Cond.methodLink rr_Text 3 Lib.objectInit ∈ zT := zm 212 (by decide +kernel) (by decide +kernel)
set_option maxRecDepth 100000 in
theorem km_213 : Cond.classLink rr_Text 25 rr_Way ∈ zT := zm 213 (by decide +kernel) (by decide +kernel)
set_option maxRecDepth 100000 in
theorem km_215 : Cond.instantiable rr_Way 18 ∈ zT := zm 215 (by decide +kernel) (by decide +kernel)
set_option maxRecDepth 100000 in
theorem km_216 : Cond.methodLink rr_Text 80 yy_Way_init ∈ zT := zm 216 (by decide +kernel) (by decide +kernel)
set_option maxRecDepth 100000 in
theorem km_217 : Cond.instanceMethod yy_Way_init ∈ zT := zm 217 (by decide +kernel) (by decide +kernel)
set_option maxRecDepth 100000 in
theorem km_218 : Cond.code yy_Way_init bb_Way_init 1 none ∈ zT := zm 218 (by decide +kernel) (by decide +kernel)
set_option maxRecDepth 100000 in
theorem km_219 : Cond.methodLink rr_Way 3 Lib.objectInit ∈ zT := zm 219 (by decide +kernel) (by decide +kernel)
set_option maxRecDepth 100000 in
theorem km_220 : Cond.constantLong rr_Way 45 (-1) ∈ zT := zm 220 (by decide +kernel) (by decide +kernel)
set_option maxRecDepth 100000 in
theorem km_221 : Cond.fieldLink rr_Way 9 "PathQueries$Way" "from" "I" ∈ zT := zm 221 (by decide +kernel) (by decide +kernel)
set_option maxRecDepth 100000 in
theorem km_222 : Cond.fieldLink rr_Finder 113 "PathQueries$Way" "from" "I" ∈ zT := zm 222 (by decide +kernel) (by decide +kernel)
set_option maxRecDepth 100000 in
theorem km_223 : Cond.fieldLink rr_Search 99 "PathQueries$Way" "from" "I" ∈ zT := zm 223 (by decide +kernel) (by decide +kernel)
set_option maxRecDepth 100000 in
theorem km_224 : Cond.fieldLink rr_Way 15 "PathQueries$Way" "to" "I" ∈ zT := zm 224 (by decide +kernel) (by decide +kernel)
set_option maxRecDepth 100000 in
theorem km_225 : Cond.fieldLink rr_Finder 118 "PathQueries$Way" "to" "I" ∈ zT := zm 225 (by decide +kernel) (by decide +kernel)
set_option maxRecDepth 100000 in
theorem km_226 : Cond.fieldLink rr_Search 104 "PathQueries$Way" "to" "I" ∈ zT := zm 226 (by decide +kernel) (by decide +kernel)
set_option maxRecDepth 100000 in
theorem km_227 : Cond.fieldLink rr_Way 18 "PathQueries$Way" "leastSlot" "I" ∈ zT := zm 227 (by decide +kernel) (by decide +kernel)
set_option maxRecDepth 100000 in
theorem km_228 : Cond.fieldLink rr_Text 87 "PathQueries$Way" "leastSlot" "I" ∈ zT := zm 228 (by decide +kernel) (by decide +kernel)
set_option maxRecDepth 100000 in
theorem km_229 : Cond.fieldLink rr_Reader 247 "PathQueries$Way" "leastSlot" "I" ∈ zT := zm 229 (by decide +kernel) (by decide +kernel)
set_option maxRecDepth 100000 in
theorem km_230 : Cond.fieldLink rr_Way 21 "PathQueries$Way" "turned" "Z" ∈ zT := zm 230 (by decide +kernel) (by decide +kernel)
set_option maxRecDepth 100000 in
theorem km_231 : Cond.fieldLink rr_Reader 244 "PathQueries$Way" "turned" "Z" ∈ zT := zm 231 (by decide +kernel) (by decide +kernel)
set_option maxRecDepth 100000 in
theorem km_232 : Cond.fieldLink rr_PQ 207 "PathQueries$Way" "turned" "Z" ∈ zT := zm 232 (by decide +kernel) (by decide +kernel)
set_option maxRecDepth 100000 in
theorem km_233 : Cond.fieldLink rr_Way 25 "PathQueries$Way" "ruled" "Z" ∈ zT := zm 233 (by decide +kernel) (by decide +kernel)
set_option maxRecDepth 100000 in
theorem km_234 : Cond.fieldLink rr_RuleBook 120 "PathQueries$Way" "ruled" "Z" ∈ zT := zm 234 (by decide +kernel) (by decide +kernel)
set_option maxRecDepth 100000 in
theorem km_235 : Cond.fieldLink rr_Way 28 "PathQueries$Way" "steps" "I" ∈ zT := zm 235 (by decide +kernel) (by decide +kernel)
set_option maxRecDepth 100000 in
theorem km_236 : Cond.fieldLink rr_Finder 167 "PathQueries$Way" "steps" "I" ∈ zT := zm 236 (by decide +kernel) (by decide +kernel)
set_option maxRecDepth 100000 in
theorem km_237 : Cond.fieldLink rr_Reader 253 "PathQueries$Way" "steps" "I" ∈ zT := zm 237 (by decide +kernel) (by decide +kernel)
set_option maxRecDepth 100000 in
theorem km_238 : Cond.fieldLink rr_Way 31 "PathQueries$Way" "step" "[I" ∈ zT := zm 238 (by decide +kernel) (by decide +kernel)
set_option maxRecDepth 100000 in
theorem km_239 : Cond.fieldLink rr_Finder 177 "PathQueries$Way" "step" "[I" ∈ zT := zm 239 (by decide +kernel) (by decide +kernel)
set_option maxRecDepth 100000 in
theorem km_240 : Cond.fieldLink rr_Way 35 "PathQueries$Way" "follow" "[I" ∈ zT := zm 240 (by decide +kernel) (by decide +kernel)
set_option maxRecDepth 100000 in
theorem km_241 : Cond.fieldLink rr_Finder 186 "PathQueries$Way" "follow" "[I" ∈ zT := zm 241 (by decide +kernel) (by decide +kernel)
set_option maxRecDepth 100000 in
theorem km_242 : Cond.fieldLink rr_Way 38 "PathQueries$Way" "whole" "J" ∈ zT := zm 242 (by decide +kernel) (by decide +kernel)
set_option maxRecDepth 100000 in
theorem km_243 : Cond.fieldLink rr_Finder 150 "PathQueries$Way" "whole" "J" ∈ zT := zm 243 (by decide +kernel) (by decide +kernel)
set_option maxRecDepth 100000 in
theorem km_244 : Cond.fieldLink rr_Way 42 "PathQueries$Way" "level" "I" ∈ zT := zm 244 (by decide +kernel) (by decide +kernel)
set_option maxRecDepth 100000 in
theorem km_245 : Cond.fieldLink rr_Reader 268 "PathQueries$Way" "level" "I" ∈ zT := zm 245 (by decide +kernel) (by decide +kernel)
set_option maxRecDepth 100000 in
theorem km_246 : Cond.fieldLink rr_Way 47 "PathQueries$Way" "pending" "J" ∈ zT := zm 246 (by decide +kernel) (by decide +kernel)
set_option maxRecDepth 100000 in
theorem km_247 : Cond.fieldLink rr_Way 50 "PathQueries$Way" "either" "[J" ∈ zT := zm 247 (by decide +kernel) (by decide +kernel)
set_option maxRecDepth 100000 in
theorem km_248 : Cond.fieldLink rr_Way 54 "PathQueries$Way" "row" "[J" ∈ zT := zm 248 (by decide +kernel) (by decide +kernel)
set_option maxRecDepth 100000 in
theorem km_249 : Cond.fieldLink rr_Way 57 "PathQueries$Way" "arcs" "[I" ∈ zT := zm 249 (by decide +kernel) (by decide +kernel)
set_option maxRecDepth 100000 in
theorem km_250 : Cond.fieldLink rr_Way 60 "PathQueries$Way" "ahead" "[I" ∈ zT := zm 250 (by decide +kernel) (by decide +kernel)
set_option maxRecDepth 100000 in
theorem km_251 : Cond.fieldLink rr_Search 113 "PathQueries$Way" "ahead" "[I" ∈ zT := zm 251 (by decide +kernel) (by decide +kernel)
set_option maxRecDepth 100000 in
theorem km_252 : Cond.fieldLink rr_Finder 164 "PathQueries$Way" "ahead" "[I" ∈ zT := zm 252 (by decide +kernel) (by decide +kernel)
set_option maxRecDepth 100000 in
theorem km_253 : Cond.fieldLink rr_Way 63 "PathQueries$Way" "behind" "[I" ∈ zT := zm 253 (by decide +kernel) (by decide +kernel)
set_option maxRecDepth 100000 in
theorem km_254 : Cond.fieldLink rr_Search 110 "PathQueries$Way" "behind" "[I" ∈ zT := zm 254 (by decide +kernel) (by decide +kernel)
set_option maxRecDepth 100000 in
theorem km_255 : Cond.fieldLink rr_Way 66 "PathQueries$Way" "loops" "I" ∈ zT := zm 255 (by decide +kernel) (by decide +kernel)
set_option maxRecDepth 100000 in
theorem km_256 : Cond.fieldLink rr_Search 107 "PathQueries$Way" "loops" "I" ∈ zT := zm 256 (by decide +kernel) (by decide +kernel)
set_option maxRecDepth 100000 in
theorem km_257 : Cond.fieldLink rr_Way 69 "PathQueries$Way" "measuredAt" "I" ∈ zT := zm 257 (by decide +kernel) (by decide +kernel)
set_option maxRecDepth 100000 in
theorem km_258 : Cond.fieldLink rr_Finder 134 "PathQueries$Way" "measuredAt" "I" ∈ zT := zm 258 (by decide +kernel) (by decide +kernel)
set_option maxRecDepth 100000 in
theorem km_259 : Cond.fieldLink rr_RuleBook 125 "PathQueries$Way" "measuredAt" "I" ∈ zT := zm 259 (by decide +kernel) (by decide +kernel)
set_option maxRecDepth 100000 in
theorem km_297 : Cond.arrayClass .long ∈ zT := zm 297 (by decide +kernel) (by decide +kernel)
set_option maxRecDepth 100000 in
theorem km_298 : Cond.fieldLink rr_Text 9 "PathQueries$Text" "stands" "Z" ∈ zT := zm 298 (by decide +kernel) (by decide +kernel)
set_option maxRecDepth 100000 in
theorem km_299 : Cond.fieldLink rr_RuleBook 38 "PathQueries$Text" "stands" "Z" ∈ zT := zm 299 (by decide +kernel) (by decide +kernel)
set_option maxRecDepth 100000 in
theorem km_300 : Cond.fieldLink rr_Reader 112 "PathQueries$Text" "stands" "Z" ∈ zT := zm 300 (by decide +kernel) (by decide +kernel)
set_option maxRecDepth 100000 in
theorem km_301 : Cond.fieldLink rr_PQ 157 "PathQueries$Text" "stands" "Z" ∈ zT := zm 301 (by decide +kernel) (by decide +kernel)
set_option maxRecDepth 100000 in
theorem km_302 : Cond.fieldLink rr_Text 15 "PathQueries$Text" "label" "I" ∈ zT := zm 302 (by decide +kernel) (by decide +kernel)
set_option maxRecDepth 100000 in
theorem km_303 : Cond.fieldLink rr_RuleBook 41 "PathQueries$Text" "label" "I" ∈ zT := zm 303 (by decide +kernel) (by decide +kernel)
set_option maxRecDepth 100000 in
theorem km_304 : Cond.fieldLink rr_Reader 181 "PathQueries$Text" "label" "I" ∈ zT := zm 304 (by decide +kernel) (by decide +kernel)
set_option maxRecDepth 100000 in
theorem km_305 : Cond.fieldLink rr_PQ 141 "PathQueries$Text" "label" "I" ∈ zT := zm 305 (by decide +kernel) (by decide +kernel)
set_option maxRecDepth 100000 in
theorem km_306 : Cond.fieldLink rr_Text 19 "PathQueries$Text" "nodeSlots" "I" ∈ zT := zm 306 (by decide +kernel) (by decide +kernel)
set_option maxRecDepth 100000 in
theorem km_307 : Cond.fieldLink rr_Reader 199 "PathQueries$Text" "nodeSlots" "I" ∈ zT := zm 307 (by decide +kernel) (by decide +kernel)
set_option maxRecDepth 100000 in
theorem km_308 : Cond.fieldLink rr_Text 22 "PathQueries$Text" "ways" "I" ∈ zT := zm 308 (by decide +kernel) (by decide +kernel)
set_option maxRecDepth 100000 in
theorem km_309 : Cond.fieldLink rr_Finder 47 "PathQueries$Text" "ways" "I" ∈ zT := zm 309 (by decide +kernel) (by decide +kernel)
set_option maxRecDepth 100000 in
theorem km_310 : Cond.fieldLink rr_RuleBook 113 "PathQueries$Text" "ways" "I" ∈ zT := zm 310 (by decide +kernel) (by decide +kernel)
set_option maxRecDepth 100000 in
theorem km_311 : Cond.fieldLink rr_Reader 236 "PathQueries$Text" "ways" "I" ∈ zT := zm 311 (by decide +kernel) (by decide +kernel)
set_option maxRecDepth 100000 in
theorem km_312 : Cond.fieldLink rr_PQ 196 "PathQueries$Text" "ways" "I" ∈ zT := zm 312 (by decide +kernel) (by decide +kernel)
set_option maxRecDepth 100000 in
theorem km_313 : Cond.fieldLink rr_Text 27 "PathQueries$Text" "way" "[LPathQueries$Way;" ∈ zT := zm 313 (by decide +kernel) (by decide +kernel)
set_option maxRecDepth 100000 in
theorem km_314 : Cond.fieldLink rr_Reader 73 "PathQueries$Text" "way" "[LPathQueries$Way;" ∈ zT := zm 314 (by decide +kernel) (by decide +kernel)
set_option maxRecDepth 100000 in
theorem km_315 : Cond.fieldLink rr_Finder 53 "PathQueries$Text" "way" "[LPathQueries$Way;" ∈ zT := zm 315 (by decide +kernel) (by decide +kernel)
set_option maxRecDepth 100000 in
theorem km_316 : Cond.fieldLink rr_Search 95 "PathQueries$Text" "way" "[LPathQueries$Way;" ∈ zT := zm 316 (by decide +kernel) (by decide +kernel)
set_option maxRecDepth 100000 in
theorem km_317 : Cond.fieldLink rr_RuleBook 116 "PathQueries$Text" "way" "[LPathQueries$Way;" ∈ zT := zm 317 (by decide +kernel) (by decide +kernel)
set_option maxRecDepth 100000 in
theorem km_318 : Cond.fieldLink rr_PQ 199 "PathQueries$Text" "way" "[LPathQueries$Way;" ∈ zT := zm 318 (by decide +kernel) (by decide +kernel)
set_option maxRecDepth 100000 in
theorem km_319 : Cond.fieldLink rr_Text 31 "PathQueries$Text" "demands" "I" ∈ zT := zm 319 (by decide +kernel) (by decide +kernel)
set_option maxRecDepth 100000 in
theorem km_320 : Cond.fieldLink rr_Finder 61 "PathQueries$Text" "demands" "I" ∈ zT := zm 320 (by decide +kernel) (by decide +kernel)
set_option maxRecDepth 100000 in
theorem km_321 : Cond.fieldLink rr_Text 34 "PathQueries$Text" "demand" "[I" ∈ zT := zm 321 (by decide +kernel) (by decide +kernel)
set_option maxRecDepth 100000 in
theorem km_322 : Cond.fieldLink rr_Finder 67 "PathQueries$Text" "demand" "[I" ∈ zT := zm 322 (by decide +kernel) (by decide +kernel)
set_option maxRecDepth 100000 in
theorem km_323 : Cond.fieldLink rr_Search 89 "PathQueries$Text" "demand" "[I" ∈ zT := zm 323 (by decide +kernel) (by decide +kernel)
set_option maxRecDepth 100000 in
theorem km_324 : Cond.fieldLink rr_Text 38 "PathQueries$Text" "suited" "[I" ∈ zT := zm 324 (by decide +kernel) (by decide +kernel)
set_option maxRecDepth 100000 in
theorem km_325 : Cond.fieldLink rr_Finder 64 "PathQueries$Text" "suited" "[I" ∈ zT := zm 325 (by decide +kernel) (by decide +kernel)
set_option maxRecDepth 100000 in
theorem km_326 : Cond.fieldLink rr_Search 92 "PathQueries$Text" "suited" "[I" ∈ zT := zm 326 (by decide +kernel) (by decide +kernel)
set_option maxRecDepth 100000 in
theorem km_327 : Cond.fieldLink rr_Text 41 "PathQueries$Text" "groups" "I" ∈ zT := zm 327 (by decide +kernel) (by decide +kernel)
set_option maxRecDepth 100000 in
theorem km_328 : Cond.fieldLink rr_Reader 205 "PathQueries$Text" "groups" "I" ∈ zT := zm 328 (by decide +kernel) (by decide +kernel)
set_option maxRecDepth 100000 in
theorem km_329 : Cond.fieldLink rr_Text 44 "PathQueries$Text" "own" "[I" ∈ zT := zm 329 (by decide +kernel) (by decide +kernel)
set_option maxRecDepth 100000 in
theorem km_330 : Cond.fieldLink rr_Search 59 "PathQueries$Text" "own" "[I" ∈ zT := zm 330 (by decide +kernel) (by decide +kernel)
set_option maxRecDepth 100000 in
theorem km_331 : Cond.fieldLink rr_Reader 202 "PathQueries$Text" "own" "[I" ∈ zT := zm 331 (by decide +kernel) (by decide +kernel)
set_option maxRecDepth 100000 in
theorem km_332 : Cond.fieldLink rr_Text 47 "PathQueries$Text" "wayEnd" "[I" ∈ zT := zm 332 (by decide +kernel) (by decide +kernel)
set_option maxRecDepth 100000 in
theorem km_333 : Cond.fieldLink rr_Search 51 "PathQueries$Text" "wayEnd" "[I" ∈ zT := zm 333 (by decide +kernel) (by decide +kernel)
set_option maxRecDepth 100000 in
theorem km_334 : Cond.fieldLink rr_Text 50 "PathQueries$Text" "demandEnd" "[I" ∈ zT := zm 334 (by decide +kernel) (by decide +kernel)
set_option maxRecDepth 100000 in
theorem km_335 : Cond.fieldLink rr_Search 56 "PathQueries$Text" "demandEnd" "[I" ∈ zT := zm 335 (by decide +kernel) (by decide +kernel)
set_option maxRecDepth 100000 in
theorem km_336 : Cond.fieldLink rr_Text 53 "PathQueries$Text" "codeEnd" "I" ∈ zT := zm 336 (by decide +kernel) (by decide +kernel)
set_option maxRecDepth 100000 in
theorem km_337 : Cond.fieldLink rr_Operators 58 "PathQueries$Text" "codeEnd" "I" ∈ zT := zm 337 (by decide +kernel) (by decide +kernel)
set_option maxRecDepth 100000 in
theorem km_338 : Cond.fieldLink rr_Reader 295 "PathQueries$Text" "codeEnd" "I" ∈ zT := zm 338 (by decide +kernel) (by decide +kernel)
set_option maxRecDepth 100000 in
theorem km_339 : Cond.fieldLink rr_Text 56 "PathQueries$Text" "code" "[I" ∈ zT := zm 339 (by decide +kernel) (by decide +kernel)
set_option maxRecDepth 100000 in
theorem km_340 : Cond.fieldLink rr_Finder 91 "PathQueries$Text" "code" "[I" ∈ zT := zm 340 (by decide +kernel) (by decide +kernel)
set_option maxRecDepth 100000 in
theorem km_341 : Cond.fieldLink rr_Text 59 "PathQueries$Text" "condEnd" "I" ∈ zT := zm 341 (by decide +kernel) (by decide +kernel)
set_option maxRecDepth 100000 in
theorem km_342 : Cond.fieldLink rr_Finder 84 "PathQueries$Text" "condEnd" "I" ∈ zT := zm 342 (by decide +kernel) (by decide +kernel)
set_option maxRecDepth 100000 in
theorem km_343 : Cond.fieldLink rr_Reader 298 "PathQueries$Text" "condEnd" "I" ∈ zT := zm 343 (by decide +kernel) (by decide +kernel)
set_option maxRecDepth 100000 in
theorem km_344 : Cond.fieldLink rr_Text 62 "PathQueries$Text" "items" "I" ∈ zT := zm 344 (by decide +kernel) (by decide +kernel)
set_option maxRecDepth 100000 in
theorem km_345 : Cond.fieldLink rr_Collector 45 "PathQueries$Text" "items" "I" ∈ zT := zm 345 (by decide +kernel) (by decide +kernel)
set_option maxRecDepth 100000 in
theorem km_346 : Cond.fieldLink rr_PQ 138 "PathQueries$Text" "items" "I" ∈ zT := zm 346 (by decide +kernel) (by decide +kernel)
set_option maxRecDepth 100000 in
theorem km_347 : Cond.fieldLink rr_Reader 330 "PathQueries$Text" "items" "I" ∈ zT := zm 347 (by decide +kernel) (by decide +kernel)
set_option maxRecDepth 100000 in
theorem km_348 : Cond.fieldLink rr_Text 65 "PathQueries$Text" "itemKind" "[I" ∈ zT := zm 348 (by decide +kernel) (by decide +kernel)
set_option maxRecDepth 100000 in
theorem km_349 : Cond.fieldLink rr_Collector 92 "PathQueries$Text" "itemKind" "[I" ∈ zT := zm 349 (by decide +kernel) (by decide +kernel)
set_option maxRecDepth 100000 in
theorem km_350 : Cond.fieldLink rr_Text 68 "PathQueries$Text" "itemEnd" "[I" ∈ zT := zm 350 (by decide +kernel) (by decide +kernel)
set_option maxRecDepth 100000 in
theorem km_351 : Cond.fieldLink rr_Collector 99 "PathQueries$Text" "itemEnd" "[I" ∈ zT := zm 351 (by decide +kernel) (by decide +kernel)
set_option maxRecDepth 100000 in
theorem km_352 : Cond.fieldLink rr_Text 71 "PathQueries$Text" "limit" "I" ∈ zT := zm 352 (by decide +kernel) (by decide +kernel)
set_option maxRecDepth 100000 in
theorem km_353 : Cond.fieldLink rr_Collector 57 "PathQueries$Text" "limit" "I" ∈ zT := zm 353 (by decide +kernel) (by decide +kernel)
set_option maxRecDepth 100000 in
theorem km_354 : Cond.fieldLink rr_Reader 348 "PathQueries$Text" "limit" "I" ∈ zT := zm 354 (by decide +kernel) (by decide +kernel)
set_option maxRecDepth 100000 in
theorem km_355 : Cond.fieldLink rr_Text 74 "PathQueries$Text" "giveFrom" "I" ∈ zT := zm 355 (by decide +kernel) (by decide +kernel)
set_option maxRecDepth 100000 in
theorem km_356 : Cond.fieldLink rr_RuleBook 99 "PathQueries$Text" "giveFrom" "I" ∈ zT := zm 356 (by decide +kernel) (by decide +kernel)
set_option maxRecDepth 100000 in
theorem km_357 : Cond.fieldLink rr_Reader 342 "PathQueries$Text" "giveFrom" "I" ∈ zT := zm 357 (by decide +kernel) (by decide +kernel)
set_option maxRecDepth 100000 in
theorem km_358 : Cond.fieldLink rr_Text 77 "PathQueries$Text" "giveTo" "I" ∈ zT := zm 358 (by decide +kernel) (by decide +kernel)
set_option maxRecDepth 100000 in
theorem km_359 : Cond.fieldLink rr_RuleBook 102 "PathQueries$Text" "giveTo" "I" ∈ zT := zm 359 (by decide +kernel) (by decide +kernel)
set_option maxRecDepth 100000 in
theorem km_360 : Cond.fieldLink rr_Reader 345 "PathQueries$Text" "giveTo" "I" ∈ zT := zm 360 (by decide +kernel) (by decide +kernel)
set_option maxRecDepth 100000 in
theorem km_404 : Cond.classLink rr_PQ 27 rr_Reader ∈ zT := zm 404 (by decide +kernel) (by decide +kernel)
set_option maxRecDepth 100000 in
theorem km_405 : Cond.instantiable rr_Reader 20 ∈ zT := zm 405 (by decide +kernel) (by decide +kernel)
set_option maxRecDepth 100000 in
theorem km_406 : Cond.methodLink rr_PQ 29 yy_Reader_init ∈ zT := zm 406 (by decide +kernel) (by decide +kernel)
set_option maxRecDepth 100000 in
theorem km_407 : Cond.instanceMethod yy_Reader_init ∈ zT := zm 407 (by decide +kernel) (by decide +kernel)
set_option maxRecDepth 100000 in
theorem km_408 : Cond.code yy_Reader_init bb_Reader_init 2 none ∈ zT := zm 408 (by decide +kernel) (by decide +kernel)
set_option maxRecDepth 100000 in
theorem km_409 : Cond.methodLink rr_Reader 3 Lib.objectInit ∈ zT := zm 409 (by decide +kernel) (by decide +kernel)
set_option maxRecDepth 100000 in
theorem km_410 : Cond.classLink rr_Reader 15 rr_Tokens ∈ zT := zm 410 (by decide +kernel) (by decide +kernel)
set_option maxRecDepth 100000 in
theorem km_411 : Cond.instantiable rr_Tokens 6 ∈ zT := zm 411 (by decide +kernel) (by decide +kernel)
set_option maxRecDepth 100000 in
theorem km_412 : Cond.methodLink rr_Reader 17 yy_Tokens_init ∈ zT := zm 412 (by decide +kernel) (by decide +kernel)
set_option maxRecDepth 100000 in
theorem km_413 : Cond.instanceMethod yy_Tokens_init ∈ zT := zm 413 (by decide +kernel) (by decide +kernel)
set_option maxRecDepth 100000 in
theorem km_414 : Cond.code yy_Tokens_init bb_Tokens_init 1 none ∈ zT := zm 414 (by decide +kernel) (by decide +kernel)
set_option maxRecDepth 100000 in
theorem km_415 : Cond.methodLink rr_Tokens 3 Lib.objectInit ∈ zT := zm 415 (by decide +kernel) (by decide +kernel)
set_option maxRecDepth 100000 in
theorem km_416 : Cond.fieldLink rr_Tokens 9 "PathQueries$Tokens" "kind" "[I" ∈ zT := zm 416 (by decide +kernel) (by decide +kernel)
set_option maxRecDepth 100000 in
theorem km_417 : Cond.fieldLink rr_Reader 102 "PathQueries$Tokens" "kind" "[I" ∈ zT := zm 417 (by decide +kernel) (by decide +kernel)
set_option maxRecDepth 100000 in
theorem km_418 : Cond.fieldLink rr_Tokens 15 "PathQueries$Tokens" "value" "[I" ∈ zT := zm 418 (by decide +kernel) (by decide +kernel)
set_option maxRecDepth 100000 in
theorem km_419 : Cond.fieldLink rr_Reader 178 "PathQueries$Tokens" "value" "[I" ∈ zT := zm 419 (by decide +kernel) (by decide +kernel)
set_option maxRecDepth 100000 in
theorem km_420 : Cond.fieldLink rr_Tokens 18 "PathQueries$Tokens" "place" "[I" ∈ zT := zm 420 (by decide +kernel) (by decide +kernel)
set_option maxRecDepth 100000 in
theorem km_421 : Cond.fieldLink rr_Reader 130 "PathQueries$Tokens" "place" "[I" ∈ zT := zm 421 (by decide +kernel) (by decide +kernel)
set_option maxRecDepth 100000 in
theorem km_422 : Cond.fieldLink rr_Tokens 21 "PathQueries$Tokens" "count" "I" ∈ zT := zm 422 (by decide +kernel) (by decide +kernel)
set_option maxRecDepth 100000 in
theorem km_423 : Cond.fieldLink rr_Reader 99 "PathQueries$Tokens" "count" "I" ∈ zT := zm 423 (by decide +kernel) (by decide +kernel)
set_option maxRecDepth 100000 in
theorem km_424 : Cond.fieldLink rr_Tokens 25 "PathQueries$Tokens" "tape" "[B" ∈ zT := zm 424 (by decide +kernel) (by decide +kernel)
set_option maxRecDepth 100000 in
theorem km_425 : Cond.fieldLink rr_Tokens 29 "PathQueries$Tokens" "length" "I" ∈ zT := zm 425 (by decide +kernel) (by decide +kernel)
set_option maxRecDepth 100000 in
theorem km_439 : Cond.classLink rr_Reader 82 rr_Operators ∈ zT := zm 439 (by decide +kernel) (by decide +kernel)
set_option maxRecDepth 100000 in
theorem km_440 : Cond.instantiable rr_Operators 8 ∈ zT := zm 440 (by decide +kernel) (by decide +kernel)
set_option maxRecDepth 100000 in
theorem km_441 : Cond.methodLink rr_Reader 84 yy_Operators_init ∈ zT := zm 441 (by decide +kernel) (by decide +kernel)
set_option maxRecDepth 100000 in
theorem km_442 : Cond.instanceMethod yy_Operators_init ∈ zT := zm 442 (by decide +kernel) (by decide +kernel)
set_option maxRecDepth 100000 in
theorem km_443 : Cond.code yy_Operators_init bb_Operators_init 2 none ∈ zT := zm 443 (by decide +kernel) (by decide +kernel)
set_option maxRecDepth 100000 in
theorem km_444 : Cond.methodLink rr_Operators 3 Lib.objectInit ∈ zT := zm 444 (by decide +kernel) (by decide +kernel)
set_option maxRecDepth 100000 in
theorem km_445 : Cond.fieldLink rr_Operators 9 "PathQueries$Operators" "open" "I" ∈ zT := zm 445 (by decide +kernel) (by decide +kernel)
set_option maxRecDepth 100000 in
theorem km_446 : Cond.fieldLink rr_Reader 136 "PathQueries$Operators" "open" "I" ∈ zT := zm 446 (by decide +kernel) (by decide +kernel)
set_option maxRecDepth 100000 in
theorem km_447 : Cond.fieldLink rr_Operators 15 "PathQueries$Operators" "parens" "I" ∈ zT := zm 447 (by decide +kernel) (by decide +kernel)
set_option maxRecDepth 100000 in
theorem km_448 : Cond.fieldLink rr_Reader 315 "PathQueries$Operators" "parens" "I" ∈ zT := zm 448 (by decide +kernel) (by decide +kernel)
set_option maxRecDepth 100000 in
theorem km_449 : Cond.fieldLink rr_Operators 18 "PathQueries$Operators" "brackets" "I" ∈ zT := zm 449 (by decide +kernel) (by decide +kernel)
set_option maxRecDepth 100000 in
theorem km_450 : Cond.fieldLink rr_Reader 289 "PathQueries$Operators" "brackets" "I" ∈ zT := zm 450 (by decide +kernel) (by decide +kernel)
set_option maxRecDepth 100000 in
theorem km_451 : Cond.fieldLink rr_Operators 34 "PathQueries$Operators" "text" "LPathQueries$Text;" ∈ zT := zm 451 (by decide +kernel) (by decide +kernel)
set_option maxRecDepth 100000 in
theorem km_452 : Cond.fieldLink rr_Operators 21 "PathQueries$Operators" "top" "I" ∈ zT := zm 452 (by decide +kernel) (by decide +kernel)
set_option maxRecDepth 100000 in
theorem km_453 : Cond.fieldLink rr_Operators 24 "PathQueries$Operators" "rank" "[I" ∈ zT := zm 453 (by decide +kernel) (by decide +kernel)
set_option maxRecDepth 100000 in
theorem km_454 : Cond.fieldLink rr_Operators 28 "PathQueries$Operators" "op" "[I" ∈ zT := zm 454 (by decide +kernel) (by decide +kernel)
set_option maxRecDepth 100000 in
theorem km_455 : Cond.fieldLink rr_Operators 31 "PathQueries$Operators" "skip" "[I" ∈ zT := zm 455 (by decide +kernel) (by decide +kernel)
set_option maxRecDepth 100000 in
theorem km_473 : Cond.fieldLink rr_Reader 9 "PathQueries$Reader" "faultPlace" "I" ∈ zT := zm 473 (by decide +kernel) (by decide +kernel)
set_option maxRecDepth 100000 in
theorem km_474 : Cond.fieldLink rr_PQ 131 "PathQueries$Reader" "faultPlace" "I" ∈ zT := zm 474 (by decide +kernel) (by decide +kernel)
set_option maxRecDepth 100000 in
theorem km_475 : Cond.fieldLink rr_Reader 18 "PathQueries$Reader" "tokens" "LPathQueries$Tokens;" ∈ zT := zm 475 (by decide +kernel) (by decide +kernel)
set_option maxRecDepth 100000 in
theorem km_476 : Cond.fieldLink rr_Reader 87 "PathQueries$Reader" "operators" "LPathQueries$Operators;" ∈ zT := zm 476 (by decide +kernel) (by decide +kernel)
set_option maxRecDepth 100000 in
theorem km_477 : Cond.fieldLink rr_Reader 22 "PathQueries$Reader" "slotOf" "[I" ∈ zT := zm 477 (by decide +kernel) (by decide +kernel)
set_option maxRecDepth 100000 in
theorem km_478 : Cond.fieldLink rr_Reader 69 "PathQueries$Reader" "text" "LPathQueries$Text;" ∈ zT := zm 478 (by decide +kernel) (by decide +kernel)
set_option maxRecDepth 100000 in
theorem km_479 : Cond.fieldLink rr_Reader 79 "PathQueries$Reader" "way" "LPathQueries$Way;" ∈ zT := zm 479 (by decide +kernel) (by decide +kernel)
set_option maxRecDepth 100000 in
theorem km_480 : Cond.fieldLink rr_Reader 26 "PathQueries$Reader" "forRule" "Z" ∈ zT := zm 480 (by decide +kernel) (by decide +kernel)
set_option maxRecDepth 100000 in
theorem km_481 : Cond.fieldLink rr_Reader 30 "PathQueries$Reader" "at" "I" ∈ zT := zm 481 (by decide +kernel) (by decide +kernel)
set_option maxRecDepth 100000 in
theorem km_482 : Cond.fieldLink rr_Reader 33 "PathQueries$Reader" "state" "I" ∈ zT := zm 482 (by decide +kernel) (by decide +kernel)
set_option maxRecDepth 100000 in
theorem km_483 : Cond.fieldLink rr_Reader 36 "PathQueries$Reader" "fault" "I" ∈ zT := zm 483 (by decide +kernel) (by decide +kernel)
set_option maxRecDepth 100000 in
theorem km_484 : Cond.fieldLink rr_Reader 39 "PathQueries$Reader" "slots" "I" ∈ zT := zm 484 (by decide +kernel) (by decide +kernel)
set_option maxRecDepth 100000 in
theorem km_485 : Cond.fieldLink rr_Reader 42 "PathQueries$Reader" "known" "I" ∈ zT := zm 485 (by decide +kernel) (by decide +kernel)
set_option maxRecDepth 100000 in
theorem km_486 : Cond.fieldLink rr_Reader 45 "PathQueries$Reader" "leasts" "I" ∈ zT := zm 486 (by decide +kernel) (by decide +kernel)
set_option maxRecDepth 100000 in
theorem km_487 : Cond.fieldLink rr_Reader 48 "PathQueries$Reader" "knownOutside" "I" ∈ zT := zm 487 (by decide +kernel) (by decide +kernel)
set_option maxRecDepth 100000 in
theorem km_488 : Cond.fieldLink rr_Reader 51 "PathQueries$Reader" "opener" "I" ∈ zT := zm 488 (by decide +kernel) (by decide +kernel)
set_option maxRecDepth 100000 in
theorem km_489 : Cond.fieldLink rr_Reader 54 "PathQueries$Reader" "front" "I" ∈ zT := zm 489 (by decide +kernel) (by decide +kernel)
set_option maxRecDepth 100000 in
theorem km_490 : Cond.fieldLink rr_Reader 57 "PathQueries$Reader" "slot" "I" ∈ zT := zm 490 (by decide +kernel) (by decide +kernel)
set_option maxRecDepth 100000 in
theorem km_491 : Cond.fieldLink rr_Reader 60 "PathQueries$Reader" "marks" "I" ∈ zT := zm 491 (by decide +kernel) (by decide +kernel)
set_option maxRecDepth 100000 in
theorem km_492 : Cond.fieldLink rr_Reader 63 "PathQueries$Reader" "side" "I" ∈ zT := zm 492 (by decide +kernel) (by decide +kernel)
set_option maxRecDepth 100000 in
theorem km_493 : Cond.fieldLink rr_Reader 66 "PathQueries$Reader" "taken" "Z" ∈ zT := zm 493 (by decide +kernel) (by decide +kernel)
set_option maxRecDepth 100000 in
theorem km_535 : Cond.classLink rr_PQ 36 rr_Finder ∈ zT := zm 535 (by decide +kernel) (by decide +kernel)
set_option maxRecDepth 100000 in
theorem km_536 : Cond.instantiable rr_Finder 9 ∈ zT := zm 536 (by decide +kernel) (by decide +kernel)
set_option maxRecDepth 100000 in
theorem km_537 : Cond.methodLink rr_PQ 38 yy_Finder_init ∈ zT := zm 537 (by decide +kernel) (by decide +kernel)
set_option maxRecDepth 100000 in
theorem km_538 : Cond.instanceMethod yy_Finder_init ∈ zT := zm 538 (by decide +kernel) (by decide +kernel)
set_option maxRecDepth 100000 in
theorem km_539 : Cond.code yy_Finder_init bb_Finder_init 3 none ∈ zT := zm 539 (by decide +kernel) (by decide +kernel)
set_option maxRecDepth 100000 in
theorem km_540 : Cond.methodLink rr_Finder 3 Lib.objectInit ∈ zT := zm 540 (by decide +kernel) (by decide +kernel)
set_option maxRecDepth 100000 in
theorem km_541 : Cond.classLink rr_Finder 35 rr_Search ∈ zT := zm 541 (by decide +kernel) (by decide +kernel)
set_option maxRecDepth 100000 in
theorem km_542 : Cond.instantiable rr_Search 12 ∈ zT := zm 542 (by decide +kernel) (by decide +kernel)
set_option maxRecDepth 100000 in
theorem km_543 : Cond.methodLink rr_Finder 37 yy_Search_init ∈ zT := zm 543 (by decide +kernel) (by decide +kernel)
set_option maxRecDepth 100000 in
theorem km_544 : Cond.instanceMethod yy_Search_init ∈ zT := zm 544 (by decide +kernel) (by decide +kernel)
set_option maxRecDepth 100000 in
theorem km_545 : Cond.code yy_Search_init bb_Search_init 4 none ∈ zT := zm 545 (by decide +kernel) (by decide +kernel)
set_option maxRecDepth 100000 in
theorem km_546 : Cond.methodLink rr_Search 3 Lib.objectInit ∈ zT := zm 546 (by decide +kernel) (by decide +kernel)
set_option maxRecDepth 100000 in
theorem km_547 : Cond.fieldLink rr_Search 40 "PathQueries$Search" "graph" "LPathQueries$Graph;" ∈ zT := zm 547 (by decide +kernel) (by decide +kernel)
set_option maxRecDepth 100000 in
theorem km_548 : Cond.fieldLink rr_Search 48 "PathQueries$Search" "value" "[I" ∈ zT := zm 548 (by decide +kernel) (by decide +kernel)
set_option maxRecDepth 100000 in
theorem km_549 : Cond.fieldLink rr_Search 9 "PathQueries$Search" "order" "[I" ∈ zT := zm 549 (by decide +kernel) (by decide +kernel)
set_option maxRecDepth 100000 in
theorem km_550 : Cond.fieldLink rr_Search 15 "PathQueries$Search" "before" "[I" ∈ zT := zm 550 (by decide +kernel) (by decide +kernel)
set_option maxRecDepth 100000 in
theorem km_551 : Cond.fieldLink rr_Search 18 "PathQueries$Search" "left" "[I" ∈ zT := zm 551 (by decide +kernel) (by decide +kernel)
set_option maxRecDepth 100000 in
theorem km_552 : Cond.fieldLink rr_Search 44 "PathQueries$Search" "text" "LPathQueries$Text;" ∈ zT := zm 552 (by decide +kernel) (by decide +kernel)
set_option maxRecDepth 100000 in
theorem km_553 : Cond.fieldLink rr_Search 21 "PathQueries$Search" "firstWay" "I" ∈ zT := zm 553 (by decide +kernel) (by decide +kernel)
set_option maxRecDepth 100000 in
theorem km_554 : Cond.fieldLink rr_Search 25 "PathQueries$Search" "endWay" "I" ∈ zT := zm 554 (by decide +kernel) (by decide +kernel)
set_option maxRecDepth 100000 in
theorem km_555 : Cond.fieldLink rr_Search 28 "PathQueries$Search" "firstDemand" "I" ∈ zT := zm 555 (by decide +kernel) (by decide +kernel)
set_option maxRecDepth 100000 in
theorem km_556 : Cond.fieldLink rr_Search 31 "PathQueries$Search" "endDemand" "I" ∈ zT := zm 556 (by decide +kernel) (by decide +kernel)
set_option maxRecDepth 100000 in
theorem km_557 : Cond.fieldLink rr_Search 34 "PathQueries$Search" "count" "I" ∈ zT := zm 557 (by decide +kernel) (by decide +kernel)
set_option maxRecDepth 100000 in
theorem km_558 : Cond.fieldLink rr_Search 37 "PathQueries$Search" "depth" "I" ∈ zT := zm 558 (by decide +kernel) (by decide +kernel)
set_option maxRecDepth 100000 in
theorem km_584 : Cond.fieldLink rr_Finder 9 "PathQueries$Finder" "value" "[I" ∈ zT := zm 584 (by decide +kernel) (by decide +kernel)
set_option maxRecDepth 100000 in
theorem km_585 : Cond.fieldLink rr_RuleBook 96 "PathQueries$Finder" "value" "[I" ∈ zT := zm 585 (by decide +kernel) (by decide +kernel)
set_option maxRecDepth 100000 in
theorem km_586 : Cond.fieldLink rr_Finder 27 "PathQueries$Finder" "graph" "LPathQueries$Graph;" ∈ zT := zm 586 (by decide +kernel) (by decide +kernel)
set_option maxRecDepth 100000 in
theorem km_587 : Cond.fieldLink rr_Finder 40 "PathQueries$Finder" "matched" "LPathQueries$Search;" ∈ zT := zm 587 (by decide +kernel) (by decide +kernel)
set_option maxRecDepth 100000 in
theorem km_588 : Cond.fieldLink rr_Finder 44 "PathQueries$Finder" "absent" "LPathQueries$Search;" ∈ zT := zm 588 (by decide +kernel) (by decide +kernel)
set_option maxRecDepth 100000 in
theorem km_589 : Cond.fieldLink rr_Finder 15 "PathQueries$Finder" "stack" "[I" ∈ zT := zm 589 (by decide +kernel) (by decide +kernel)
set_option maxRecDepth 100000 in
theorem km_590 : Cond.fieldLink rr_Finder 18 "PathQueries$Finder" "now" "[I" ∈ zT := zm 590 (by decide +kernel) (by decide +kernel)
set_option maxRecDepth 100000 in
theorem km_591 : Cond.fieldLink rr_Finder 21 "PathQueries$Finder" "next" "[I" ∈ zT := zm 591 (by decide +kernel) (by decide +kernel)
set_option maxRecDepth 100000 in
theorem km_592 : Cond.fieldLink rr_Finder 24 "PathQueries$Finder" "seen" "[I" ∈ zT := zm 592 (by decide +kernel) (by decide +kernel)
set_option maxRecDepth 100000 in
theorem km_593 : Cond.fieldLink rr_Finder 31 "PathQueries$Finder" "text" "LPathQueries$Text;" ∈ zT := zm 593 (by decide +kernel) (by decide +kernel)
set_option maxRecDepth 100000 in
theorem km_613 : Cond.classLink rr_PQ 45 rr_RuleBook ∈ zT := zm 613 (by decide +kernel) (by decide +kernel)
set_option maxRecDepth 100000 in
theorem km_614 : Cond.instantiable rr_RuleBook 6 ∈ zT := zm 614 (by decide +kernel) (by decide +kernel)
set_option maxRecDepth 100000 in
theorem km_615 : Cond.methodLink rr_PQ 47 yy_RuleBook_init ∈ zT := zm 615 (by decide +kernel) (by decide +kernel)
set_option maxRecDepth 100000 in
theorem km_616 : Cond.instanceMethod yy_RuleBook_init ∈ zT := zm 616 (by decide +kernel) (by decide +kernel)
set_option maxRecDepth 100000 in
theorem km_617 : Cond.code yy_RuleBook_init bb_RuleBook_init 4 none ∈ zT := zm 617 (by decide +kernel) (by decide +kernel)
set_option maxRecDepth 100000 in
theorem km_618 : Cond.methodLink rr_RuleBook 3 Lib.objectInit ∈ zT := zm 618 (by decide +kernel) (by decide +kernel)
set_option maxRecDepth 100000 in
theorem km_619 : Cond.classLink rr_RuleBook 9 rr_Text ∈ zT := zm 619 (by decide +kernel) (by decide +kernel)
set_option maxRecDepth 100000 in
theorem km_621 : Cond.methodLink rr_RuleBook 37 yy_Text_init ∈ zT := zm 621 (by decide +kernel) (by decide +kernel)
set_option maxRecDepth 100000 in
theorem km_622 : Cond.fieldLink rr_RuleBook 11 "PathQueries$RuleBook" "rules" "[LPathQueries$Text;" ∈ zT := zm 622 (by decide +kernel) (by decide +kernel)
set_option maxRecDepth 100000 in
theorem km_623 : Cond.fieldLink rr_PQ 154 "PathQueries$RuleBook" "rules" "[LPathQueries$Text;" ∈ zT := zm 623 (by decide +kernel) (by decide +kernel)
set_option maxRecDepth 100000 in
theorem km_624 : Cond.fieldLink rr_RuleBook 29 "PathQueries$RuleBook" "graph" "LPathQueries$Graph;" ∈ zT := zm 624 (by decide +kernel) (by decide +kernel)
set_option maxRecDepth 100000 in
theorem km_625 : Cond.fieldLink rr_RuleBook 33 "PathQueries$RuleBook" "finder" "LPathQueries$Finder;" ∈ zT := zm 625 (by decide +kernel) (by decide +kernel)
set_option maxRecDepth 100000 in
theorem km_626 : Cond.fieldLink rr_RuleBook 17 "PathQueries$RuleBook" "gained" "[I" ∈ zT := zm 626 (by decide +kernel) (by decide +kernel)
set_option maxRecDepth 100000 in
theorem km_627 : Cond.fieldLink rr_RuleBook 21 "PathQueries$RuleBook" "settledAt" "I" ∈ zT := zm 627 (by decide +kernel) (by decide +kernel)
set_option maxRecDepth 100000 in
theorem km_628 : Cond.fieldLink rr_RuleBook 25 "PathQueries$RuleBook" "large" "Z" ∈ zT := zm 628 (by decide +kernel) (by decide +kernel)
set_option maxRecDepth 100000 in
theorem km_642 : Cond.classLink rr_PQ 54 rr_Collector ∈ zT := zm 642 (by decide +kernel) (by decide +kernel)
set_option maxRecDepth 100000 in
theorem km_643 : Cond.instantiable rr_Collector 4 ∈ zT := zm 643 (by decide +kernel) (by decide +kernel)
set_option maxRecDepth 100000 in
theorem km_644 : Cond.methodLink rr_PQ 56 yy_Collector_init ∈ zT := zm 644 (by decide +kernel) (by decide +kernel)
set_option maxRecDepth 100000 in
theorem km_645 : Cond.instanceMethod yy_Collector_init ∈ zT := zm 645 (by decide +kernel) (by decide +kernel)
set_option maxRecDepth 100000 in
theorem km_646 : Cond.code yy_Collector_init bb_Collector_init 2 none ∈ zT := zm 646 (by decide +kernel) (by decide +kernel)
set_option maxRecDepth 100000 in
theorem km_647 : Cond.methodLink rr_Collector 3 Lib.objectInit ∈ zT := zm 647 (by decide +kernel) (by decide +kernel)
set_option maxRecDepth 100000 in
theorem km_648 : Cond.classLink rr_Collector 9 rr_Rows ∈ zT := zm 648 (by decide +kernel) (by decide +kernel)
set_option maxRecDepth 100000 in
theorem km_649 : Cond.instantiable rr_Rows 5 ∈ zT := zm 649 (by decide +kernel) (by decide +kernel)
set_option maxRecDepth 100000 in
theorem km_650 : Cond.methodLink rr_Collector 11 yy_Rows_init ∈ zT := zm 650 (by decide +kernel) (by decide +kernel)
set_option maxRecDepth 100000 in
theorem km_651 : Cond.instanceMethod yy_Rows_init ∈ zT := zm 651 (by decide +kernel) (by decide +kernel)
set_option maxRecDepth 100000 in
theorem km_652 : Cond.code yy_Rows_init bb_Rows_init 1 none ∈ zT := zm 652 (by decide +kernel) (by decide +kernel)
set_option maxRecDepth 100000 in
theorem km_653 : Cond.methodLink rr_Rows 1 Lib.objectInit ∈ zT := zm 653 (by decide +kernel) (by decide +kernel)
set_option maxRecDepth 100000 in
theorem km_654 : Cond.fieldLink rr_Rows 7 "PathQueries$Rows" "rows" "I" ∈ zT := zm 654 (by decide +kernel) (by decide +kernel)
set_option maxRecDepth 100000 in
theorem km_655 : Cond.fieldLink rr_Collector 54 "PathQueries$Rows" "rows" "I" ∈ zT := zm 655 (by decide +kernel) (by decide +kernel)
set_option maxRecDepth 100000 in
theorem km_656 : Cond.fieldLink rr_PQ 175 "PathQueries$Rows" "rows" "I" ∈ zT := zm 656 (by decide +kernel) (by decide +kernel)
set_option maxRecDepth 100000 in
theorem km_657 : Cond.fieldLink rr_Rows 13 "PathQueries$Rows" "width" "I" ∈ zT := zm 657 (by decide +kernel) (by decide +kernel)
set_option maxRecDepth 100000 in
theorem km_658 : Cond.fieldLink rr_PQ 179 "PathQueries$Rows" "width" "I" ∈ zT := zm 658 (by decide +kernel) (by decide +kernel)
set_option maxRecDepth 100000 in
theorem km_659 : Cond.fieldLink rr_Rows 16 "PathQueries$Rows" "cells" "[I" ∈ zT := zm 659 (by decide +kernel) (by decide +kernel)
set_option maxRecDepth 100000 in
theorem km_660 : Cond.fieldLink rr_Rows 20 "PathQueries$Rows" "order" "[I" ∈ zT := zm 660 (by decide +kernel) (by decide +kernel)
set_option maxRecDepth 100000 in
theorem km_661 : Cond.fieldLink rr_Rows 23 "PathQueries$Rows" "other" "[I" ∈ zT := zm 661 (by decide +kernel) (by decide +kernel)
set_option maxRecDepth 100000 in
theorem km_673 : Cond.fieldLink rr_Collector 25 "PathQueries$Collector" "finder" "LPathQueries$Finder;" ∈ zT := zm 673 (by decide +kernel) (by decide +kernel)
set_option maxRecDepth 100000 in
theorem km_674 : Cond.fieldLink rr_Collector 12 "PathQueries$Collector" "raw" "LPathQueries$Rows;" ∈ zT := zm 674 (by decide +kernel) (by decide +kernel)
set_option maxRecDepth 100000 in
theorem km_675 : Cond.fieldLink rr_Collector 18 "PathQueries$Collector" "folded" "LPathQueries$Rows;" ∈ zT := zm 675 (by decide +kernel) (by decide +kernel)
set_option maxRecDepth 100000 in
theorem km_676 : Cond.fieldLink rr_Collector 21 "PathQueries$Collector" "total" "[J" ∈ zT := zm 676 (by decide +kernel) (by decide +kernel)
set_option maxRecDepth 100000 in
theorem km_686 : Cond.classLink rr_PQ 67 rr_Rows ∈ zT := zm 686 (by decide +kernel) (by decide +kernel)
set_option maxRecDepth 100000 in
theorem km_688 : Cond.methodLink rr_PQ 81 yy_Rows_init ∈ zT := zm 688 (by decide +kernel) (by decide +kernel)
set_option maxRecDepth 100000 in
theorem km_689 : Cond.fieldLink rr_PQ 9 "PathQueries" "tape" "[B" ∈ zT := zm 689 (by decide +kernel) (by decide +kernel)
set_option maxRecDepth 100000 in
theorem km_690 : Cond.fieldLink rr_PQ 16 "PathQueries" "graph" "LPathQueries$Graph;" ∈ zT := zm 690 (by decide +kernel) (by decide +kernel)
set_option maxRecDepth 100000 in
theorem km_691 : Cond.fieldLink rr_PQ 23 "PathQueries" "spare" "LPathQueries$Text;" ∈ zT := zm 691 (by decide +kernel) (by decide +kernel)
set_option maxRecDepth 100000 in
theorem km_692 : Cond.fieldLink rr_PQ 32 "PathQueries" "reader" "LPathQueries$Reader;" ∈ zT := zm 692 (by decide +kernel) (by decide +kernel)
set_option maxRecDepth 100000 in
theorem km_693 : Cond.fieldLink rr_PQ 41 "PathQueries" "finder" "LPathQueries$Finder;" ∈ zT := zm 693 (by decide +kernel) (by decide +kernel)
set_option maxRecDepth 100000 in
theorem km_694 : Cond.fieldLink rr_PQ 50 "PathQueries" "book" "LPathQueries$RuleBook;" ∈ zT := zm 694 (by decide +kernel) (by decide +kernel)
set_option maxRecDepth 100000 in
theorem km_695 : Cond.fieldLink rr_PQ 59 "PathQueries" "collector" "LPathQueries$Collector;" ∈ zT := zm 695 (by decide +kernel) (by decide +kernel)
set_option maxRecDepth 100000 in
theorem km_696 : Cond.fieldLink rr_PQ 63 "PathQueries" "questions" "[LPathQueries$Text;" ∈ zT := zm 696 (by decide +kernel) (by decide +kernel)
set_option maxRecDepth 100000 in
theorem km_697 : Cond.fieldLink rr_PQ 69 "PathQueries" "answers" "[LPathQueries$Rows;" ∈ zT := zm 697 (by decide +kernel) (by decide +kernel)
set_option maxRecDepth 100000 in
theorem km_698 : Cond.fieldLink rr_PQ 73 "PathQueries" "answeredAt" "[I" ∈ zT := zm 698 (by decide +kernel) (by decide +kernel)
set_option maxRecDepth 100000 in
theorem km_699 : Cond.fieldLink rr_PQ 77 "PathQueries" "length" "I" ∈ zT := zm 699 (by decide +kernel) (by decide +kernel)
set_option maxRecDepth 100000 in
theorem km_727 : Cond.methodLink rr_PQ 82 yy_PQ_append ∈ zT := zm 727 (by decide +kernel) (by decide +kernel)
set_option maxRecDepth 100000 in
theorem km_729 : Cond.instanceMethod yy_PQ_append ∈ zT := zm 729 (by decide +kernel) (by decide +kernel)
set_option maxRecDepth 100000 in
theorem km_730 : Cond.code yy_PQ_append bb_PQ_append 3 none ∈ zT := zm 730 (by decide +kernel) (by decide +kernel)
set_option maxRecDepth 100000 in
theorem km_739 : Cond.methodLink rr_PQ 86 yy_Graph_addNode ∈ zT := zm 739 (by decide +kernel) (by decide +kernel)
set_option maxRecDepth 100000 in
theorem km_740 : Cond.instanceMethod yy_Graph_addNode ∈ zT := zm 740 (by decide +kernel) (by decide +kernel)
set_option maxRecDepth 100000 in
theorem km_741 : Cond.selects rr_Graph yy_Graph_addNode yy_Graph_addNode ∈ zT := zm 741 (by decide +kernel) (by decide +kernel)
set_option maxRecDepth 100000 in
theorem km_742 : Cond.code yy_Graph_addNode bb_Graph_addNode 2 (some (.int)) ∈ zT := zm 742 (by decide +kernel) (by decide +kernel)
set_option maxRecDepth 100000 in
theorem km_747 : Cond.methodLink rr_PQ 90 yy_Graph_isNode ∈ zT := zm 747 (by decide +kernel) (by decide +kernel)
set_option maxRecDepth 100000 in
theorem km_748 : Cond.instanceMethod yy_Graph_isNode ∈ zT := zm 748 (by decide +kernel) (by decide +kernel)
set_option maxRecDepth 100000 in
theorem km_749 : Cond.selects rr_Graph yy_Graph_isNode yy_Graph_isNode ∈ zT := zm 749 (by decide +kernel) (by decide +kernel)
set_option maxRecDepth 100000 in
theorem km_750 : Cond.code yy_Graph_isNode bb_Graph_isNode 2 (some (.boolean)) ∈ zT := zm 750 (by decide +kernel) (by decide +kernel)
set_option maxRecDepth 100000 in
theorem km_751 : Cond.methodLink rr_PQ 94 yy_Graph_changeMarks ∈ zT := zm 751 (by decide +kernel) (by decide +kernel)
set_option maxRecDepth 100000 in
theorem km_752 : Cond.instanceMethod yy_Graph_changeMarks ∈ zT := zm 752 (by decide +kernel) (by decide +kernel)
set_option maxRecDepth 100000 in
theorem km_753 : Cond.selects rr_Graph yy_Graph_changeMarks yy_Graph_changeMarks ∈ zT := zm 753 (by decide +kernel) (by decide +kernel)
set_option maxRecDepth 100000 in
theorem km_754 : Cond.code yy_Graph_changeMarks bb_Graph_changeMarks 4 (some (.int)) ∈ zT := zm 754 (by decide +kernel) (by decide +kernel)
set_option maxRecDepth 100000 in
theorem km_759 : Cond.methodLink rr_PQ 98 yy_Graph_changeColumn ∈ zT := zm 759 (by decide +kernel) (by decide +kernel)
set_option maxRecDepth 100000 in
theorem km_760 : Cond.instanceMethod yy_Graph_changeColumn ∈ zT := zm 760 (by decide +kernel) (by decide +kernel)
set_option maxRecDepth 100000 in
theorem km_761 : Cond.selects rr_Graph yy_Graph_changeColumn yy_Graph_changeColumn ∈ zT := zm 761 (by decide +kernel) (by decide +kernel)
set_option maxRecDepth 100000 in
theorem km_762 : Cond.code yy_Graph_changeColumn bb_Graph_changeColumn 5 (some (.int)) ∈ zT := zm 762 (by decide +kernel) (by decide +kernel)
set_option maxRecDepth 100000 in
theorem km_767 : Cond.methodLink rr_PQ 102 yy_Graph_addArc ∈ zT := zm 767 (by decide +kernel) (by decide +kernel)
set_option maxRecDepth 100000 in
theorem km_768 : Cond.instanceMethod yy_Graph_addArc ∈ zT := zm 768 (by decide +kernel) (by decide +kernel)
set_option maxRecDepth 100000 in
theorem km_769 : Cond.selects rr_Graph yy_Graph_addArc yy_Graph_addArc ∈ zT := zm 769 (by decide +kernel) (by decide +kernel)
set_option maxRecDepth 100000 in
theorem km_770 : Cond.code yy_Graph_addArc bb_Graph_addArc 6 (some (.int)) ∈ zT := zm 770 (by decide +kernel) (by decide +kernel)
set_option maxRecDepth 100000 in
theorem km_775 : Cond.methodLink rr_PQ 106 yy_Graph_isArc ∈ zT := zm 775 (by decide +kernel) (by decide +kernel)
set_option maxRecDepth 100000 in
theorem km_776 : Cond.instanceMethod yy_Graph_isArc ∈ zT := zm 776 (by decide +kernel) (by decide +kernel)
set_option maxRecDepth 100000 in
theorem km_777 : Cond.selects rr_Graph yy_Graph_isArc yy_Graph_isArc ∈ zT := zm 777 (by decide +kernel) (by decide +kernel)
set_option maxRecDepth 100000 in
theorem km_778 : Cond.code yy_Graph_isArc bb_Graph_isArc 2 (some (.boolean)) ∈ zT := zm 778 (by decide +kernel) (by decide +kernel)
set_option maxRecDepth 100000 in
theorem km_779 : Cond.methodLink rr_PQ 109 yy_Graph_removeArc ∈ zT := zm 779 (by decide +kernel) (by decide +kernel)
set_option maxRecDepth 100000 in
theorem km_780 : Cond.instanceMethod yy_Graph_removeArc ∈ zT := zm 780 (by decide +kernel) (by decide +kernel)
set_option maxRecDepth 100000 in
theorem km_781 : Cond.selects rr_Graph yy_Graph_removeArc yy_Graph_removeArc ∈ zT := zm 781 (by decide +kernel) (by decide +kernel)
set_option maxRecDepth 100000 in
theorem km_782 : Cond.code yy_Graph_removeArc bb_Graph_removeArc 2 none ∈ zT := zm 782 (by decide +kernel) (by decide +kernel)
set_option maxRecDepth 100000 in
theorem km_787 : Cond.methodLink rr_PQ 118 yy_RuleBook_standing ∈ zT := zm 787 (by decide +kernel) (by decide +kernel)
set_option maxRecDepth 100000 in
theorem km_788 : Cond.instanceMethod yy_RuleBook_standing ∈ zT := zm 788 (by decide +kernel) (by decide +kernel)
set_option maxRecDepth 100000 in
theorem km_789 : Cond.selects rr_RuleBook yy_RuleBook_standing yy_RuleBook_standing ∈ zT := zm 789 (by decide +kernel) (by decide +kernel)
set_option maxRecDepth 100000 in
theorem km_790 : Cond.code yy_RuleBook_standing bb_RuleBook_standing 3 (some (.int)) ∈ zT := zm 790 (by decide +kernel) (by decide +kernel)
set_option maxRecDepth 100000 in
theorem km_791 : Cond.methodLink rr_PQ 122 yy_Graph_ofNode ∈ zT := zm 791 (by decide +kernel) (by decide +kernel)
set_option maxRecDepth 100000 in
theorem km_792 : Cond.instanceMethod yy_Graph_ofNode ∈ zT := zm 792 (by decide +kernel) (by decide +kernel)
set_option maxRecDepth 100000 in
theorem km_793 : Cond.selects rr_Graph yy_Graph_ofNode yy_Graph_ofNode ∈ zT := zm 793 (by decide +kernel) (by decide +kernel)
set_option maxRecDepth 100000 in
theorem km_794 : Cond.code yy_Graph_ofNode bb_Graph_ofNode 5 (some (.int)) ∈ zT := zm 794 (by decide +kernel) (by decide +kernel)
set_option maxRecDepth 100000 in
theorem km_795 : Cond.methodLink rr_PQ 125 yy_Graph_ofArc ∈ zT := zm 795 (by decide +kernel) (by decide +kernel)
set_option maxRecDepth 100000 in
theorem km_796 : Cond.instanceMethod yy_Graph_ofArc ∈ zT := zm 796 (by decide +kernel) (by decide +kernel)
set_option maxRecDepth 100000 in
theorem km_797 : Cond.selects rr_Graph yy_Graph_ofArc yy_Graph_ofArc ∈ zT := zm 797 (by decide +kernel) (by decide +kernel)
set_option maxRecDepth 100000 in
theorem km_798 : Cond.code yy_Graph_ofArc bb_Graph_ofArc 3 (some (.int)) ∈ zT := zm 798 (by decide +kernel) (by decide +kernel)
set_option maxRecDepth 100000 in
theorem km_803 : Cond.methodLink rr_PQ 128 yy_Graph_strip ∈ zT := zm 803 (by decide +kernel) (by decide +kernel)
set_option maxRecDepth 100000 in
theorem km_804 : Cond.instanceMethod yy_Graph_strip ∈ zT := zm 804 (by decide +kernel) (by decide +kernel)
set_option maxRecDepth 100000 in
theorem km_805 : Cond.selects rr_Graph yy_Graph_strip yy_Graph_strip ∈ zT := zm 805 (by decide +kernel) (by decide +kernel)
set_option maxRecDepth 100000 in
theorem km_806 : Cond.code yy_Graph_strip bb_Graph_strip 4 (some (.int)) ∈ zT := zm 806 (by decide +kernel) (by decide +kernel)
set_option maxRecDepth 100000 in
theorem km_807 : Cond.methodLink rr_Graph 49 yy_Graph_removeArc ∈ zT := zm 807 (by decide +kernel) (by decide +kernel)
set_option maxRecDepth 100000 in
theorem km_812 : Cond.methodLink rr_PQ 134 yy_Reader_read ∈ zT := zm 812 (by decide +kernel) (by decide +kernel)
set_option maxRecDepth 100000 in
theorem km_813 : Cond.instanceMethod yy_Reader_read ∈ zT := zm 813 (by decide +kernel) (by decide +kernel)
set_option maxRecDepth 100000 in
theorem km_814 : Cond.selects rr_Reader yy_Reader_read yy_Reader_read ∈ zT := zm 814 (by decide +kernel) (by decide +kernel)
set_option maxRecDepth 100000 in
theorem km_815 : Cond.code yy_Reader_read bb_Reader_read 7 (some (.int)) ∈ zT := zm 815 (by decide +kernel) (by decide +kernel)
set_option maxRecDepth 100000 in
theorem km_816 : Cond.methodLink rr_Reader 91 yy_Reader_begin ∈ zT := zm 816 (by decide +kernel) (by decide +kernel)
set_option maxRecDepth 100000 in
theorem km_818 : Cond.instanceMethod yy_Reader_begin ∈ zT := zm 818 (by decide +kernel) (by decide +kernel)
set_option maxRecDepth 100000 in
theorem km_819 : Cond.code yy_Reader_begin bb_Reader_begin 3 none ∈ zT := zm 819 (by decide +kernel) (by decide +kernel)
set_option maxRecDepth 100000 in
theorem km_820 : Cond.methodLink rr_Reader 115 yy_Text_clear ∈ zT := zm 820 (by decide +kernel) (by decide +kernel)
set_option maxRecDepth 100000 in
theorem km_821 : Cond.instanceMethod yy_Text_clear ∈ zT := zm 821 (by decide +kernel) (by decide +kernel)
set_option maxRecDepth 100000 in
theorem km_822 : Cond.selects rr_Text yy_Text_clear yy_Text_clear ∈ zT := zm 822 (by decide +kernel) (by decide +kernel)
set_option maxRecDepth 100000 in
theorem km_823 : Cond.code yy_Text_clear bb_Text_clear 1 none ∈ zT := zm 823 (by decide +kernel) (by decide +kernel)
set_option maxRecDepth 100000 in
theorem km_824 : Cond.methodLink rr_Text 81 yy_Text_openGroup ∈ zT := zm 824 (by decide +kernel) (by decide +kernel)
set_option maxRecDepth 100000 in
theorem km_825 : Cond.instanceMethod yy_Text_openGroup ∈ zT := zm 825 (by decide +kernel) (by decide +kernel)
set_option maxRecDepth 100000 in
theorem km_826 : Cond.selects rr_Text yy_Text_openGroup yy_Text_openGroup ∈ zT := zm 826 (by decide +kernel) (by decide +kernel)
set_option maxRecDepth 100000 in
theorem km_827 : Cond.code yy_Text_openGroup bb_Text_openGroup 1 none ∈ zT := zm 827 (by decide +kernel) (by decide +kernel)
set_option maxRecDepth 100000 in
theorem km_828 : Cond.methodLink rr_Text 84 yy_Text_endGroup ∈ zT := zm 828 (by decide +kernel) (by decide +kernel)
set_option maxRecDepth 100000 in
theorem km_829 : Cond.instanceMethod yy_Text_endGroup ∈ zT := zm 829 (by decide +kernel) (by decide +kernel)
set_option maxRecDepth 100000 in
theorem km_830 : Cond.selects rr_Text yy_Text_endGroup yy_Text_endGroup ∈ zT := zm 830 (by decide +kernel) (by decide +kernel)
set_option maxRecDepth 100000 in
theorem km_831 : Cond.code yy_Text_endGroup bb_Text_endGroup 1 none ∈ zT := zm 831 (by decide +kernel) (by decide +kernel)
set_option maxRecDepth 100000 in
theorem km_832 : Cond.methodLink rr_Reader 118 yy_Operators_begin ∈ zT := zm 832 (by decide +kernel) (by decide +kernel)
set_option maxRecDepth 100000 in
theorem km_833 : Cond.instanceMethod yy_Operators_begin ∈ zT := zm 833 (by decide +kernel) (by decide +kernel)
set_option maxRecDepth 100000 in
theorem km_834 : Cond.selects rr_Operators yy_Operators_begin yy_Operators_begin ∈ zT := zm 834 (by decide +kernel) (by decide +kernel)
set_option maxRecDepth 100000 in
theorem km_835 : Cond.code yy_Operators_begin bb_Operators_begin 2 none ∈ zT := zm 835 (by decide +kernel) (by decide +kernel)
set_option maxRecDepth 100000 in
theorem km_836 : Cond.methodLink rr_Reader 120 yy_Arrays_fill ∈ zT := zm 836 (by decide +kernel) (by decide +kernel)
set_option maxRecDepth 100000 in
theorem km_837 : Cond.methodLink rr_Reader 95 yy_Tokens_split ∈ zT := zm 837 (by decide +kernel) (by decide +kernel)
set_option maxRecDepth 100000 in
theorem km_838 : Cond.instanceMethod yy_Tokens_split ∈ zT := zm 838 (by decide +kernel) (by decide +kernel)
set_option maxRecDepth 100000 in
theorem km_839 : Cond.selects rr_Tokens yy_Tokens_split yy_Tokens_split ∈ zT := zm 839 (by decide +kernel) (by decide +kernel)
set_option maxRecDepth 100000 in
theorem km_840 : Cond.code yy_Tokens_split bb_Tokens_split 5 none ∈ zT := zm 840 (by decide +kernel) (by decide +kernel)
set_option maxRecDepth 100000 in
theorem km_841 : Cond.methodLink rr_Tokens 32 yy_Math_min_0 ∈ zT := zm 841 (by decide +kernel) (by decide +kernel)
set_option maxRecDepth 100000 in
theorem km_842 : Cond.static yy_Math_min_0 ∈ zT := zm 842 (by decide +kernel) (by decide +kernel)
set_option maxRecDepth 100000 in
theorem km_843 : Cond.code yy_Math_min_0 bb_Math_min_0 2 (some (.int)) ∈ zT := zm 843 (by decide +kernel) (by decide +kernel)
set_option maxRecDepth 100000 in
theorem km_844 : Cond.methodLink rr_Tokens 38 yy_Tokens_isBlank ∈ zT := zm 844 (by decide +kernel) (by decide +kernel)
set_option maxRecDepth 100000 in
theorem km_845 : Cond.static yy_Tokens_isBlank ∈ zT := zm 845 (by decide +kernel) (by decide +kernel)
set_option maxRecDepth 100000 in
theorem km_846 : Cond.code yy_Tokens_isBlank bb_Tokens_isBlank 1 (some (.boolean)) ∈ zT := zm 846 (by decide +kernel) (by decide +kernel)
set_option maxRecDepth 100000 in
theorem km_847 : Cond.methodLink rr_Tokens 42 yy_Tokens_takeToken ∈ zT := zm 847 (by decide +kernel) (by decide +kernel)
set_option maxRecDepth 100000 in
theorem km_849 : Cond.instanceMethod yy_Tokens_takeToken ∈ zT := zm 849 (by decide +kernel) (by decide +kernel)
set_option maxRecDepth 100000 in
theorem km_850 : Cond.code yy_Tokens_takeToken bb_Tokens_takeToken 4 (some (.int)) ∈ zT := zm 850 (by decide +kernel) (by decide +kernel)
set_option maxRecDepth 100000 in
theorem km_851 : Cond.methodLink rr_Tokens 46 yy_Tokens_isLetter ∈ zT := zm 851 (by decide +kernel) (by decide +kernel)
set_option maxRecDepth 100000 in
theorem km_852 : Cond.static yy_Tokens_isLetter ∈ zT := zm 852 (by decide +kernel) (by decide +kernel)
set_option maxRecDepth 100000 in
theorem km_853 : Cond.code yy_Tokens_isLetter bb_Tokens_isLetter 1 (some (.boolean)) ∈ zT := zm 853 (by decide +kernel) (by decide +kernel)
set_option maxRecDepth 100000 in
theorem km_854 : Cond.methodLink rr_Tokens 49 yy_Tokens_isDigit ∈ zT := zm 854 (by decide +kernel) (by decide +kernel)
set_option maxRecDepth 100000 in
theorem km_855 : Cond.static yy_Tokens_isDigit ∈ zT := zm 855 (by decide +kernel) (by decide +kernel)
set_option maxRecDepth 100000 in
theorem km_856 : Cond.code yy_Tokens_isDigit bb_Tokens_isDigit 1 (some (.boolean)) ∈ zT := zm 856 (by decide +kernel) (by decide +kernel)
set_option maxRecDepth 100000 in
theorem km_857 : Cond.methodLink rr_Tokens 52 yy_Tokens_nameKind ∈ zT := zm 857 (by decide +kernel) (by decide +kernel)
set_option maxRecDepth 100000 in
theorem km_859 : Cond.instanceMethod yy_Tokens_nameKind ∈ zT := zm 859 (by decide +kernel) (by decide +kernel)
set_option maxRecDepth 100000 in
theorem km_860 : Cond.code yy_Tokens_nameKind bb_Tokens_nameKind 3 (some (.int)) ∈ zT := zm 860 (by decide +kernel) (by decide +kernel)
set_option maxRecDepth 100000 in
theorem km_861 : Cond.methodLink rr_Tokens 65 yy_Tokens_numberKind ∈ zT := zm 861 (by decide +kernel) (by decide +kernel)
set_option maxRecDepth 100000 in
theorem km_863 : Cond.instanceMethod yy_Tokens_numberKind ∈ zT := zm 863 (by decide +kernel) (by decide +kernel)
set_option maxRecDepth 100000 in
theorem km_864 : Cond.code yy_Tokens_numberKind bb_Tokens_numberKind 5 (some (.int)) ∈ zT := zm 864 (by decide +kernel) (by decide +kernel)
set_option maxRecDepth 100000 in
theorem km_865 : Cond.methodLink rr_Tokens 68 yy_Tokens_letterKind ∈ zT := zm 865 (by decide +kernel) (by decide +kernel)
set_option maxRecDepth 100000 in
theorem km_867 : Cond.instanceMethod yy_Tokens_letterKind ∈ zT := zm 867 (by decide +kernel) (by decide +kernel)
set_option maxRecDepth 100000 in
theorem km_868 : Cond.code yy_Tokens_letterKind bb_Tokens_letterKind 4 (some (.int)) ∈ zT := zm 868 (by decide +kernel) (by decide +kernel)
set_option maxRecDepth 100000 in
theorem km_870 : Cond.methodLink rr_Tokens 60 yy_String_indexOf_0 ∈ zT := zm 870 (by decide +kernel) (by decide +kernel)
set_option maxRecDepth 100000 in
theorem km_871 : Cond.instanceMethod yy_String_indexOf_0 ∈ zT := zm 871 (by decide +kernel) (by decide +kernel)
set_option maxRecDepth 100000 in
theorem km_872 : Cond.selects rr_String yy_String_indexOf_0 yy_String_indexOf_0 ∈ zT := zm 872 (by decide +kernel) (by decide +kernel)
set_option maxRecDepth 100000 in
theorem km_873 : Cond.code yy_String_indexOf_0 bb_String_indexOf_0 2 (some (.int)) ∈ zT := zm 873 (by decide +kernel) (by decide +kernel)
set_option maxRecDepth 100000 in
theorem km_874 : Cond.methodLink rr_String 633 yy_String_indexOf_1 ∈ zT := zm 874 (by decide +kernel) (by decide +kernel)
set_option maxRecDepth 100000 in
theorem km_875 : Cond.instanceMethod yy_String_indexOf_1 ∈ zT := zm 875 (by decide +kernel) (by decide +kernel)
set_option maxRecDepth 100000 in
theorem km_876 : Cond.selects rr_String yy_String_indexOf_1 yy_String_indexOf_1 ∈ zT := zm 876 (by decide +kernel) (by decide +kernel)
set_option maxRecDepth 100000 in
theorem km_877 : Cond.code yy_String_indexOf_1 bb_String_indexOf_1 3 (some (.int)) ∈ zT := zm 877 (by decide +kernel) (by decide +kernel)
set_option maxRecDepth 100000 in
theorem km_878 : Cond.methodLink rr_String 492 yy_String_isLatin1 ∈ zT := zm 878 (by decide +kernel) (by decide +kernel)
set_option maxRecDepth 100000 in
theorem km_879 : Cond.instanceMethod yy_String_isLatin1 ∈ zT := zm 879 (by decide +kernel) (by decide +kernel)
set_option maxRecDepth 100000 in
theorem km_880 : Cond.selects rr_String yy_String_isLatin1 yy_String_isLatin1 ∈ zT := zm 880 (by decide +kernel) (by decide +kernel)
set_option maxRecDepth 100000 in
theorem km_881 : Cond.code yy_String_isLatin1 bb_String_isLatin1 1 (some (.boolean)) ∈ zT := zm 881 (by decide +kernel) (by decide +kernel)
set_option maxRecDepth 100000 in
theorem km_882 : Cond.fieldLink rr_String 38 "java/lang/String" "COMPACT_STRINGS" "Z" ∈ zT := zm 882 (by decide +kernel) (by decide +kernel)
set_option maxRecDepth 100000 in
theorem km_884 : Cond.methodLink rr_String 505 yy_String_length ∈ zT := zm 884 (by decide +kernel) (by decide +kernel)
set_option maxRecDepth 100000 in
theorem km_885 : Cond.instanceMethod yy_String_length ∈ zT := zm 885 (by decide +kernel) (by decide +kernel)
set_option maxRecDepth 100000 in
theorem km_886 : Cond.selects rr_String yy_String_length yy_String_length ∈ zT := zm 886 (by decide +kernel) (by decide +kernel)
set_option maxRecDepth 100000 in
theorem km_887 : Cond.code yy_String_length bb_String_length 1 (some (.int)) ∈ zT := zm 887 (by decide +kernel) (by decide +kernel)
set_option maxRecDepth 100000 in
theorem km_888 : Cond.methodLink rr_String 335 yy_String_coder ∈ zT := zm 888 (by decide +kernel) (by decide +kernel)
set_option maxRecDepth 100000 in
theorem km_889 : Cond.instanceMethod yy_String_coder ∈ zT := zm 889 (by decide +kernel) (by decide +kernel)
set_option maxRecDepth 100000 in
theorem km_890 : Cond.selects rr_String yy_String_coder yy_String_coder ∈ zT := zm 890 (by decide +kernel) (by decide +kernel)
set_option maxRecDepth 100000 in
theorem km_891 : Cond.code yy_String_coder bb_String_coder 1 (some (.byte)) ∈ zT := zm 891 (by decide +kernel) (by decide +kernel)
set_option maxRecDepth 100000 in
theorem km_892 : Cond.methodLink rr_String 637 yy_StringLatin1_indexOf ∈ zT := zm 892 (by decide +kernel) (by decide +kernel)
set_option maxRecDepth 100000 in
theorem km_893 : Cond.static yy_StringLatin1_indexOf ∈ zT := zm 893 (by decide +kernel) (by decide +kernel)
set_option maxRecDepth 100000 in
theorem km_894 : Cond.code yy_StringLatin1_indexOf bb_StringLatin1_indexOf 4 (some (.int)) ∈ zT := zm 894 (by decide +kernel) (by decide +kernel)
set_option maxRecDepth 100000 in
theorem km_895 : Cond.methodLink rr_StringLatin1 88 yy_StringLatin1_canEncode ∈ zT := zm 895 (by decide +kernel) (by decide +kernel)
set_option maxRecDepth 100000 in
theorem km_896 : Cond.static yy_StringLatin1_canEncode ∈ zT := zm 896 (by decide +kernel) (by decide +kernel)
set_option maxRecDepth 100000 in
theorem km_897 : Cond.code yy_StringLatin1_canEncode bb_StringLatin1_canEncode 1 (some (.boolean)) ∈ zT := zm 897 (by decide +kernel) (by decide +kernel)
set_option maxRecDepth 100000 in
theorem km_898 : Cond.methodLink rr_StringLatin1 92 yy_Math_max_0 ∈ zT := zm 898 (by decide +kernel) (by decide +kernel)
set_option maxRecDepth 100000 in
theorem km_899 : Cond.static yy_Math_max_0 ∈ zT := zm 899 (by decide +kernel) (by decide +kernel)
set_option maxRecDepth 100000 in
theorem km_900 : Cond.code yy_Math_max_0 bb_Math_max_0 2 (some (.int)) ∈ zT := zm 900 (by decide +kernel) (by decide +kernel)
set_option maxRecDepth 100000 in
theorem km_901 : Cond.methodLink rr_StringLatin1 38 yy_Math_min_0 ∈ zT := zm 901 (by decide +kernel) (by decide +kernel)
set_option maxRecDepth 100000 in
theorem km_902 : Cond.methodLink rr_StringLatin1 95 yy_StringLatin1_indexOfChar ∈ zT := zm 902 (by decide +kernel) (by decide +kernel)
set_option maxRecDepth 100000 in
theorem km_903 : Cond.static yy_StringLatin1_indexOfChar ∈ zT := zm 903 (by decide +kernel) (by decide +kernel)
set_option maxRecDepth 100000 in
theorem km_904 : Cond.code yy_StringLatin1_indexOfChar bb_StringLatin1_indexOfChar 6 (some (.int)) ∈ zT := zm 904 (by decide +kernel) (by decide +kernel)
set_option maxRecDepth 100000 in
theorem km_923 : Cond.fieldLink rr_String 1053 "jdk/internal/util/Preconditions" "SIOOBE_FORMATTER" "Ljava/util/function/BiFunction;" ∈ zT := zm 923 (by decide +kernel) (by decide +kernel)
set_option maxRecDepth 100000 in
theorem km_955 : Cond.methodLink rr_Tokens 72 yy_Tokens_numberedKind ∈ zT := zm 955 (by decide +kernel) (by decide +kernel)
set_option maxRecDepth 100000 in
theorem km_957 : Cond.instanceMethod yy_Tokens_numberedKind ∈ zT := zm 957 (by decide +kernel) (by decide +kernel)
set_option maxRecDepth 100000 in
theorem km_958 : Cond.code yy_Tokens_numberedKind bb_Tokens_numberedKind 4 (some (.int)) ∈ zT := zm 958 (by decide +kernel) (by decide +kernel)
set_option maxRecDepth 100000 in
theorem km_959 : Cond.methodLink rr_Tokens 76 yy_Tokens_wordKind ∈ zT := zm 959 (by decide +kernel) (by decide +kernel)
set_option maxRecDepth 100000 in
theorem km_961 : Cond.instanceMethod yy_Tokens_wordKind ∈ zT := zm 961 (by decide +kernel) (by decide +kernel)
set_option maxRecDepth 100000 in
theorem km_962 : Cond.code yy_Tokens_wordKind bb_Tokens_wordKind 6 (some (.int)) ∈ zT := zm 962 (by decide +kernel) (by decide +kernel)
set_option maxRecDepth 100000 in
theorem km_964 : Cond.methodLink rr_Tokens 85 yy_String_length ∈ zT := zm 964 (by decide +kernel) (by decide +kernel)
set_option maxRecDepth 100000 in
theorem km_965 : Cond.methodLink rr_Tokens 88 yy_String_charAt ∈ zT := zm 965 (by decide +kernel) (by decide +kernel)
set_option maxRecDepth 100000 in
theorem km_966 : Cond.instanceMethod yy_String_charAt ∈ zT := zm 966 (by decide +kernel) (by decide +kernel)
set_option maxRecDepth 100000 in
theorem km_967 : Cond.selects rr_String yy_String_charAt yy_String_charAt ∈ zT := zm 967 (by decide +kernel) (by decide +kernel)
set_option maxRecDepth 100000 in
theorem km_968 : Cond.code yy_String_charAt bb_String_charAt 2 (some (.char)) ∈ zT := zm 968 (by decide +kernel) (by decide +kernel)
set_option maxRecDepth 100000 in
theorem km_969 : Cond.methodLink rr_String 495 yy_StringLatin1_charAt ∈ zT := zm 969 (by decide +kernel) (by decide +kernel)
set_option maxRecDepth 100000 in
theorem km_970 : Cond.static yy_StringLatin1_charAt ∈ zT := zm 970 (by decide +kernel) (by decide +kernel)
set_option maxRecDepth 100000 in
theorem km_971 : Cond.code yy_StringLatin1_charAt bb_StringLatin1_charAt 2 (some (.char)) ∈ zT := zm 971 (by decide +kernel) (by decide +kernel)
set_option maxRecDepth 100000 in
theorem km_972 : Cond.methodLink rr_StringLatin1 9 yy_String_checkIndex ∈ zT := zm 972 (by decide +kernel) (by decide +kernel)
set_option maxRecDepth 100000 in
theorem km_973 : Cond.static yy_String_checkIndex ∈ zT := zm 973 (by decide +kernel) (by decide +kernel)
set_option maxRecDepth 100000 in
theorem km_974 : Cond.code yy_String_checkIndex bb_String_checkIndex 2 none ∈ zT := zm 974 (by decide +kernel) (by decide +kernel)
set_option maxRecDepth 100000 in
theorem km_975 : Cond.methodLink rr_String 1059 yy_Preconditions_checkIndex ∈ zT := zm 975 (by decide +kernel) (by decide +kernel)
set_option maxRecDepth 100000 in
theorem km_976 : Cond.static yy_Preconditions_checkIndex ∈ zT := zm 976 (by decide +kernel) (by decide +kernel)
set_option maxRecDepth 100000 in
theorem km_977 : Cond.code yy_Preconditions_checkIndex bb_Preconditions_checkIndex 3 (some (.int)) ∈ zT := zm 977 (by decide +kernel) (by decide +kernel)
set_option maxRecDepth 100000 in
theorem km_985 : Cond.methodLink rr_Tokens 92 yy_Tokens_isSame ∈ zT := zm 985 (by decide +kernel) (by decide +kernel)
set_option maxRecDepth 100000 in
theorem km_987 : Cond.instanceMethod yy_Tokens_isSame ∈ zT := zm 987 (by decide +kernel) (by decide +kernel)
set_option maxRecDepth 100000 in
theorem km_988 : Cond.code yy_Tokens_isSame bb_Tokens_isSame 5 (some (.boolean)) ∈ zT := zm 988 (by decide +kernel) (by decide +kernel)
set_option maxRecDepth 100000 in
theorem km_989 : Cond.methodLink rr_Tokens 55 yy_Tokens_signKind ∈ zT := zm 989 (by decide +kernel) (by decide +kernel)
set_option maxRecDepth 100000 in
theorem km_991 : Cond.instanceMethod yy_Tokens_signKind ∈ zT := zm 991 (by decide +kernel) (by decide +kernel)
set_option maxRecDepth 100000 in
theorem km_992 : Cond.code yy_Tokens_signKind bb_Tokens_signKind 4 (some (.int)) ∈ zT := zm 992 (by decide +kernel) (by decide +kernel)
set_option maxRecDepth 100000 in
theorem km_994 : Cond.methodLink rr_Reader 105 yy_Reader_take ∈ zT := zm 994 (by decide +kernel) (by decide +kernel)
set_option maxRecDepth 100000 in
theorem km_996 : Cond.instanceMethod yy_Reader_take ∈ zT := zm 996 (by decide +kernel) (by decide +kernel)
set_option maxRecDepth 100000 in
theorem km_997 : Cond.code yy_Reader_take bb_Reader_take 2 none ∈ zT := zm 997 (by decide +kernel) (by decide +kernel)
set_option maxRecDepth 100000 in
theorem km_998 : Cond.methodLink rr_Reader 133 yy_Reader_fail ∈ zT := zm 998 (by decide +kernel) (by decide +kernel)
set_option maxRecDepth 100000 in
theorem km_1000 : Cond.instanceMethod yy_Reader_fail ∈ zT := zm 1000 (by decide +kernel) (by decide +kernel)
set_option maxRecDepth 100000 in
theorem km_1001 : Cond.code yy_Reader_fail bb_Reader_fail 2 none ∈ zT := zm 1001 (by decide +kernel) (by decide +kernel)
set_option maxRecDepth 100000 in
theorem km_1002 : Cond.methodLink rr_Reader 126 yy_Reader_failAt ∈ zT := zm 1002 (by decide +kernel) (by decide +kernel)
set_option maxRecDepth 100000 in
theorem km_1004 : Cond.instanceMethod yy_Reader_failAt ∈ zT := zm 1004 (by decide +kernel) (by decide +kernel)
set_option maxRecDepth 100000 in
theorem km_1005 : Cond.code yy_Reader_failAt bb_Reader_failAt 3 none ∈ zT := zm 1005 (by decide +kernel) (by decide +kernel)
set_option maxRecDepth 100000 in
theorem km_1006 : Cond.methodLink rr_Reader 139 yy_Reader_takeHead ∈ zT := zm 1006 (by decide +kernel) (by decide +kernel)
set_option maxRecDepth 100000 in
theorem km_1008 : Cond.instanceMethod yy_Reader_takeHead ∈ zT := zm 1008 (by decide +kernel) (by decide +kernel)
set_option maxRecDepth 100000 in
theorem km_1009 : Cond.code yy_Reader_takeHead bb_Reader_takeHead 3 none ∈ zT := zm 1009 (by decide +kernel) (by decide +kernel)
set_option maxRecDepth 100000 in
theorem km_1010 : Cond.methodLink rr_Reader 142 yy_Reader_takeInNode ∈ zT := zm 1010 (by decide +kernel) (by decide +kernel)
set_option maxRecDepth 100000 in
theorem km_1012 : Cond.instanceMethod yy_Reader_takeInNode ∈ zT := zm 1012 (by decide +kernel) (by decide +kernel)
set_option maxRecDepth 100000 in
theorem km_1013 : Cond.code yy_Reader_takeInNode bb_Reader_takeInNode 2 none ∈ zT := zm 1013 (by decide +kernel) (by decide +kernel)
set_option maxRecDepth 100000 in
theorem km_1014 : Cond.methodLink rr_Reader 184 yy_Reader_nameNode ∈ zT := zm 1014 (by decide +kernel) (by decide +kernel)
set_option maxRecDepth 100000 in
theorem km_1016 : Cond.instanceMethod yy_Reader_nameNode ∈ zT := zm 1016 (by decide +kernel) (by decide +kernel)
set_option maxRecDepth 100000 in
theorem km_1017 : Cond.code yy_Reader_nameNode bb_Reader_nameNode 2 none ∈ zT := zm 1017 (by decide +kernel) (by decide +kernel)
set_option maxRecDepth 100000 in
theorem km_1018 : Cond.methodLink rr_Reader 187 yy_Reader_tellNode ∈ zT := zm 1018 (by decide +kernel) (by decide +kernel)
set_option maxRecDepth 100000 in
theorem km_1020 : Cond.instanceMethod yy_Reader_tellNode ∈ zT := zm 1020 (by decide +kernel) (by decide +kernel)
set_option maxRecDepth 100000 in
theorem km_1021 : Cond.code yy_Reader_tellNode bb_Reader_tellNode 2 none ∈ zT := zm 1021 (by decide +kernel) (by decide +kernel)
set_option maxRecDepth 100000 in
theorem km_1022 : Cond.methodLink rr_Reader 196 yy_Reader_takeSlot ∈ zT := zm 1022 (by decide +kernel) (by decide +kernel)
set_option maxRecDepth 100000 in
theorem km_1024 : Cond.instanceMethod yy_Reader_takeSlot ∈ zT := zm 1024 (by decide +kernel) (by decide +kernel)
set_option maxRecDepth 100000 in
theorem km_1025 : Cond.code yy_Reader_takeSlot bb_Reader_takeSlot 2 none ∈ zT := zm 1025 (by decide +kernel) (by decide +kernel)
set_option maxRecDepth 100000 in
theorem km_1026 : Cond.methodLink rr_Reader 193 yy_Reader_makeKnown ∈ zT := zm 1026 (by decide +kernel) (by decide +kernel)
set_option maxRecDepth 100000 in
theorem km_1028 : Cond.instanceMethod yy_Reader_makeKnown ∈ zT := zm 1028 (by decide +kernel) (by decide +kernel)
set_option maxRecDepth 100000 in
theorem km_1029 : Cond.code yy_Reader_makeKnown bb_Reader_makeKnown 1 none ∈ zT := zm 1029 (by decide +kernel) (by decide +kernel)
set_option maxRecDepth 100000 in
theorem km_1030 : Cond.methodLink rr_Reader 190 yy_Reader_closeNode ∈ zT := zm 1030 (by decide +kernel) (by decide +kernel)
set_option maxRecDepth 100000 in
theorem km_1032 : Cond.instanceMethod yy_Reader_closeNode ∈ zT := zm 1032 (by decide +kernel) (by decide +kernel)
set_option maxRecDepth 100000 in
theorem km_1033 : Cond.code yy_Reader_closeNode bb_Reader_closeNode 1 none ∈ zT := zm 1033 (by decide +kernel) (by decide +kernel)
set_option maxRecDepth 100000 in
theorem km_1034 : Cond.methodLink rr_Reader 208 yy_Text_addDemand ∈ zT := zm 1034 (by decide +kernel) (by decide +kernel)
set_option maxRecDepth 100000 in
theorem km_1035 : Cond.instanceMethod yy_Text_addDemand ∈ zT := zm 1035 (by decide +kernel) (by decide +kernel)
set_option maxRecDepth 100000 in
theorem km_1036 : Cond.selects rr_Text yy_Text_addDemand yy_Text_addDemand ∈ zT := zm 1036 (by decide +kernel) (by decide +kernel)
set_option maxRecDepth 100000 in
theorem km_1037 : Cond.code yy_Text_addDemand bb_Text_addDemand 3 none ∈ zT := zm 1037 (by decide +kernel) (by decide +kernel)
set_option maxRecDepth 100000 in
theorem km_1038 : Cond.methodLink rr_Reader 211 yy_Way_join ∈ zT := zm 1038 (by decide +kernel) (by decide +kernel)
set_option maxRecDepth 100000 in
theorem km_1039 : Cond.instanceMethod yy_Way_join ∈ zT := zm 1039 (by decide +kernel) (by decide +kernel)
set_option maxRecDepth 100000 in
theorem km_1040 : Cond.selects rr_Way yy_Way_join yy_Way_join ∈ zT := zm 1040 (by decide +kernel) (by decide +kernel)
set_option maxRecDepth 100000 in
theorem km_1041 : Cond.code yy_Way_join bb_Way_join 3 none ∈ zT := zm 1041 (by decide +kernel) (by decide +kernel)
set_option maxRecDepth 100000 in
theorem km_1042 : Cond.methodLink rr_Reader 216 yy_Text_endGroup ∈ zT := zm 1042 (by decide +kernel) (by decide +kernel)
set_option maxRecDepth 100000 in
theorem km_1043 : Cond.methodLink rr_Reader 145 yy_Reader_takeAfterNode ∈ zT := zm 1043 (by decide +kernel) (by decide +kernel)
set_option maxRecDepth 100000 in
theorem km_1045 : Cond.instanceMethod yy_Reader_takeAfterNode ∈ zT := zm 1045 (by decide +kernel) (by decide +kernel)
set_option maxRecDepth 100000 in
theorem km_1046 : Cond.code yy_Reader_takeAfterNode bb_Reader_takeAfterNode 2 none ∈ zT := zm 1046 (by decide +kernel) (by decide +kernel)
set_option maxRecDepth 100000 in
theorem km_1047 : Cond.methodLink rr_Reader 219 yy_Reader_openWay ∈ zT := zm 1047 (by decide +kernel) (by decide +kernel)
set_option maxRecDepth 100000 in
theorem km_1049 : Cond.instanceMethod yy_Reader_openWay ∈ zT := zm 1049 (by decide +kernel) (by decide +kernel)
set_option maxRecDepth 100000 in
theorem km_1050 : Cond.code yy_Reader_openWay bb_Reader_openWay 2 none ∈ zT := zm 1050 (by decide +kernel) (by decide +kernel)
set_option maxRecDepth 100000 in
theorem km_1051 : Cond.methodLink rr_Reader 239 yy_Way_open ∈ zT := zm 1051 (by decide +kernel) (by decide +kernel)
set_option maxRecDepth 100000 in
theorem km_1052 : Cond.instanceMethod yy_Way_open ∈ zT := zm 1052 (by decide +kernel) (by decide +kernel)
set_option maxRecDepth 100000 in
theorem km_1053 : Cond.selects rr_Way yy_Way_open yy_Way_open ∈ zT := zm 1053 (by decide +kernel) (by decide +kernel)
set_option maxRecDepth 100000 in
theorem km_1054 : Cond.code yy_Way_open bb_Way_open 2 none ∈ zT := zm 1054 (by decide +kernel) (by decide +kernel)
set_option maxRecDepth 100000 in
theorem km_1055 : Cond.methodLink rr_Reader 223 yy_Text_emit ∈ zT := zm 1055 (by decide +kernel) (by decide +kernel)
set_option maxRecDepth 100000 in
theorem km_1056 : Cond.instanceMethod yy_Text_emit ∈ zT := zm 1056 (by decide +kernel) (by decide +kernel)
set_option maxRecDepth 100000 in
theorem km_1057 : Cond.selects rr_Text yy_Text_emit yy_Text_emit ∈ zT := zm 1057 (by decide +kernel) (by decide +kernel)
set_option maxRecDepth 100000 in
theorem km_1058 : Cond.code yy_Text_emit bb_Text_emit 3 (some (.int)) ∈ zT := zm 1058 (by decide +kernel) (by decide +kernel)
set_option maxRecDepth 100000 in
theorem km_1059 : Cond.methodLink rr_Reader 227 yy_Operators_unwind ∈ zT := zm 1059 (by decide +kernel) (by decide +kernel)
set_option maxRecDepth 100000 in
theorem km_1060 : Cond.instanceMethod yy_Operators_unwind ∈ zT := zm 1060 (by decide +kernel) (by decide +kernel)
set_option maxRecDepth 100000 in
theorem km_1061 : Cond.selects rr_Operators yy_Operators_unwind yy_Operators_unwind ∈ zT := zm 1061 (by decide +kernel) (by decide +kernel)
set_option maxRecDepth 100000 in
theorem km_1062 : Cond.code yy_Operators_unwind bb_Operators_unwind 3 none ∈ zT := zm 1062 (by decide +kernel) (by decide +kernel)
set_option maxRecDepth 100000 in
theorem km_1063 : Cond.methodLink rr_Operators 61 yy_Text_change ∈ zT := zm 1063 (by decide +kernel) (by decide +kernel)
set_option maxRecDepth 100000 in
theorem km_1064 : Cond.instanceMethod yy_Text_change ∈ zT := zm 1064 (by decide +kernel) (by decide +kernel)
set_option maxRecDepth 100000 in
theorem km_1065 : Cond.selects rr_Text yy_Text_change yy_Text_change ∈ zT := zm 1065 (by decide +kernel) (by decide +kernel)
set_option maxRecDepth 100000 in
theorem km_1066 : Cond.code yy_Text_change bb_Text_change 4 none ∈ zT := zm 1066 (by decide +kernel) (by decide +kernel)
set_option maxRecDepth 100000 in
theorem km_1067 : Cond.methodLink rr_Operators 46 yy_Text_emit ∈ zT := zm 1067 (by decide +kernel) (by decide +kernel)
set_option maxRecDepth 100000 in
theorem km_1068 : Cond.methodLink rr_Reader 230 yy_Reader_passOn ∈ zT := zm 1068 (by decide +kernel) (by decide +kernel)
set_option maxRecDepth 100000 in
theorem km_1070 : Cond.instanceMethod yy_Reader_passOn ∈ zT := zm 1070 (by decide +kernel) (by decide +kernel)
set_option maxRecDepth 100000 in
theorem km_1071 : Cond.code yy_Reader_passOn bb_Reader_passOn 2 none ∈ zT := zm 1071 (by decide +kernel) (by decide +kernel)
set_option maxRecDepth 100000 in
theorem km_1072 : Cond.methodLink rr_Reader 233 yy_Reader_openGive ∈ zT := zm 1072 (by decide +kernel) (by decide +kernel)
set_option maxRecDepth 100000 in
theorem km_1074 : Cond.instanceMethod yy_Reader_openGive ∈ zT := zm 1074 (by decide +kernel) (by decide +kernel)
set_option maxRecDepth 100000 in
theorem km_1075 : Cond.code yy_Reader_openGive bb_Reader_openGive 1 none ∈ zT := zm 1075 (by decide +kernel) (by decide +kernel)
set_option maxRecDepth 100000 in
theorem km_1076 : Cond.methodLink rr_Reader 148 yy_Reader_takeInWay ∈ zT := zm 1076 (by decide +kernel) (by decide +kernel)
set_option maxRecDepth 100000 in
theorem km_1078 : Cond.instanceMethod yy_Reader_takeInWay ∈ zT := zm 1078 (by decide +kernel) (by decide +kernel)
set_option maxRecDepth 100000 in
theorem km_1079 : Cond.code yy_Reader_takeInWay bb_Reader_takeInWay 2 none ∈ zT := zm 1079 (by decide +kernel) (by decide +kernel)
set_option maxRecDepth 100000 in
theorem km_1080 : Cond.methodLink rr_Reader 241 yy_Reader_nameLeast ∈ zT := zm 1080 (by decide +kernel) (by decide +kernel)
set_option maxRecDepth 100000 in
theorem km_1082 : Cond.instanceMethod yy_Reader_nameLeast ∈ zT := zm 1082 (by decide +kernel) (by decide +kernel)
set_option maxRecDepth 100000 in
theorem km_1083 : Cond.code yy_Reader_nameLeast bb_Reader_nameLeast 2 none ∈ zT := zm 1083 (by decide +kernel) (by decide +kernel)
set_option maxRecDepth 100000 in
theorem km_1084 : Cond.methodLink rr_Reader 151 yy_Reader_takeStep ∈ zT := zm 1084 (by decide +kernel) (by decide +kernel)
set_option maxRecDepth 100000 in
theorem km_1086 : Cond.instanceMethod yy_Reader_takeStep ∈ zT := zm 1086 (by decide +kernel) (by decide +kernel)
set_option maxRecDepth 100000 in
theorem km_1087 : Cond.code yy_Reader_takeStep bb_Reader_takeStep 4 none ∈ zT := zm 1087 (by decide +kernel) (by decide +kernel)
set_option maxRecDepth 100000 in
theorem km_1088 : Cond.methodLink rr_Reader 250 yy_Way_openRows ∈ zT := zm 1088 (by decide +kernel) (by decide +kernel)
set_option maxRecDepth 100000 in
theorem km_1089 : Cond.instanceMethod yy_Way_openRows ∈ zT := zm 1089 (by decide +kernel) (by decide +kernel)
set_option maxRecDepth 100000 in
theorem km_1090 : Cond.selects rr_Way yy_Way_openRows yy_Way_openRows ∈ zT := zm 1090 (by decide +kernel) (by decide +kernel)
set_option maxRecDepth 100000 in
theorem km_1091 : Cond.code yy_Way_openRows bb_Way_openRows 1 none ∈ zT := zm 1091 (by decide +kernel) (by decide +kernel)
set_option maxRecDepth 100000 in
theorem km_1092 : Cond.methodLink rr_Way 72 yy_Way_settlePending ∈ zT := zm 1092 (by decide +kernel) (by decide +kernel)
set_option maxRecDepth 100000 in
theorem km_1094 : Cond.instanceMethod yy_Way_settlePending ∈ zT := zm 1094 (by decide +kernel) (by decide +kernel)
set_option maxRecDepth 100000 in
theorem km_1095 : Cond.code yy_Way_settlePending bb_Way_settlePending 7 none ∈ zT := zm 1095 (by decide +kernel) (by decide +kernel)
set_option maxRecDepth 100000 in
theorem km_1096 : Cond.methodLink rr_Way 78 yy_Way_lead ∈ zT := zm 1096 (by decide +kernel) (by decide +kernel)
set_option maxRecDepth 100000 in
theorem km_1098 : Cond.instanceMethod yy_Way_lead ∈ zT := zm 1098 (by decide +kernel) (by decide +kernel)
set_option maxRecDepth 100000 in
theorem km_1099 : Cond.code yy_Way_lead bb_Way_lead 6 none ∈ zT := zm 1099 (by decide +kernel) (by decide +kernel)
set_option maxRecDepth 100000 in
theorem km_1100 : Cond.constantLong rr_Way 84 65535 ∈ zT := zm 1100 (by decide +kernel) (by decide +kernel)
set_option maxRecDepth 100000 in
theorem km_1101 : Cond.constantLong rr_Way 82 4294967296 ∈ zT := zm 1101 (by decide +kernel) (by decide +kernel)
set_option maxRecDepth 100000 in
theorem km_1102 : Cond.methodLink rr_Reader 256 yy_Reader_addStep ∈ zT := zm 1102 (by decide +kernel) (by decide +kernel)
set_option maxRecDepth 100000 in
theorem km_1104 : Cond.instanceMethod yy_Reader_addStep ∈ zT := zm 1104 (by decide +kernel) (by decide +kernel)
set_option maxRecDepth 100000 in
theorem km_1105 : Cond.code yy_Reader_addStep bb_Reader_addStep 2 none ∈ zT := zm 1105 (by decide +kernel) (by decide +kernel)
set_option maxRecDepth 100000 in
theorem km_1106 : Cond.methodLink rr_Reader 259 yy_Way_addStep ∈ zT := zm 1106 (by decide +kernel) (by decide +kernel)
set_option maxRecDepth 100000 in
theorem km_1107 : Cond.instanceMethod yy_Way_addStep ∈ zT := zm 1107 (by decide +kernel) (by decide +kernel)
set_option maxRecDepth 100000 in
theorem km_1108 : Cond.selects rr_Way yy_Way_addStep yy_Way_addStep ∈ zT := zm 1108 (by decide +kernel) (by decide +kernel)
set_option maxRecDepth 100000 in
theorem km_1109 : Cond.code yy_Way_addStep bb_Way_addStep 3 none ∈ zT := zm 1109 (by decide +kernel) (by decide +kernel)
set_option maxRecDepth 100000 in
theorem km_1110 : Cond.methodLink rr_Reader 154 yy_Reader_takeAfterStep ∈ zT := zm 1110 (by decide +kernel) (by decide +kernel)
set_option maxRecDepth 100000 in
theorem km_1112 : Cond.instanceMethod yy_Reader_takeAfterStep ∈ zT := zm 1112 (by decide +kernel) (by decide +kernel)
set_option maxRecDepth 100000 in
theorem km_1113 : Cond.code yy_Reader_takeAfterStep bb_Reader_takeAfterStep 3 none ∈ zT := zm 1113 (by decide +kernel) (by decide +kernel)
set_option maxRecDepth 100000 in
theorem km_1114 : Cond.methodLink rr_Reader 261 yy_Way_repeat ∈ zT := zm 1114 (by decide +kernel) (by decide +kernel)
set_option maxRecDepth 100000 in
theorem km_1115 : Cond.instanceMethod yy_Way_repeat ∈ zT := zm 1115 (by decide +kernel) (by decide +kernel)
set_option maxRecDepth 100000 in
theorem km_1116 : Cond.selects rr_Way yy_Way_repeat yy_Way_repeat ∈ zT := zm 1116 (by decide +kernel) (by decide +kernel)
set_option maxRecDepth 100000 in
theorem km_1117 : Cond.code yy_Way_repeat bb_Way_repeat 3 none ∈ zT := zm 1117 (by decide +kernel) (by decide +kernel)
set_option maxRecDepth 100000 in
theorem km_1118 : Cond.methodLink rr_Reader 265 yy_Way_nextRow ∈ zT := zm 1118 (by decide +kernel) (by decide +kernel)
set_option maxRecDepth 100000 in
theorem km_1119 : Cond.instanceMethod yy_Way_nextRow ∈ zT := zm 1119 (by decide +kernel) (by decide +kernel)
set_option maxRecDepth 100000 in
theorem km_1120 : Cond.selects rr_Way yy_Way_nextRow yy_Way_nextRow ∈ zT := zm 1120 (by decide +kernel) (by decide +kernel)
set_option maxRecDepth 100000 in
theorem km_1121 : Cond.code yy_Way_nextRow bb_Way_nextRow 3 none ∈ zT := zm 1121 (by decide +kernel) (by decide +kernel)
set_option maxRecDepth 100000 in
theorem km_1122 : Cond.methodLink rr_Reader 271 yy_Way_closeRows ∈ zT := zm 1122 (by decide +kernel) (by decide +kernel)
set_option maxRecDepth 100000 in
theorem km_1123 : Cond.instanceMethod yy_Way_closeRows ∈ zT := zm 1123 (by decide +kernel) (by decide +kernel)
set_option maxRecDepth 100000 in
theorem km_1124 : Cond.selects rr_Way yy_Way_closeRows yy_Way_closeRows ∈ zT := zm 1124 (by decide +kernel) (by decide +kernel)
set_option maxRecDepth 100000 in
theorem km_1125 : Cond.code yy_Way_closeRows bb_Way_closeRows 1 none ∈ zT := zm 1125 (by decide +kernel) (by decide +kernel)
set_option maxRecDepth 100000 in
theorem km_1126 : Cond.methodLink rr_Way 75 yy_Way_nextRow ∈ zT := zm 1126 (by decide +kernel) (by decide +kernel)
set_option maxRecDepth 100000 in
theorem km_1127 : Cond.methodLink rr_Reader 274 yy_Way_endRows ∈ zT := zm 1127 (by decide +kernel) (by decide +kernel)
set_option maxRecDepth 100000 in
theorem km_1128 : Cond.instanceMethod yy_Way_endRows ∈ zT := zm 1128 (by decide +kernel) (by decide +kernel)
set_option maxRecDepth 100000 in
theorem km_1129 : Cond.selects rr_Way yy_Way_endRows yy_Way_endRows ∈ zT := zm 1129 (by decide +kernel) (by decide +kernel)
set_option maxRecDepth 100000 in
theorem km_1130 : Cond.code yy_Way_endRows bb_Way_endRows 1 none ∈ zT := zm 1130 (by decide +kernel) (by decide +kernel)
set_option maxRecDepth 100000 in
theorem km_1131 : Cond.methodLink rr_Reader 157 yy_Reader_takeFact ∈ zT := zm 1131 (by decide +kernel) (by decide +kernel)
set_option maxRecDepth 100000 in
theorem km_1133 : Cond.instanceMethod yy_Reader_takeFact ∈ zT := zm 1133 (by decide +kernel) (by decide +kernel)
set_option maxRecDepth 100000 in
theorem km_1134 : Cond.code yy_Reader_takeFact bb_Reader_takeFact 2 none ∈ zT := zm 1134 (by decide +kernel) (by decide +kernel)
set_option maxRecDepth 100000 in
theorem km_1135 : Cond.methodLink rr_Reader 277 yy_Operators_openPrefix ∈ zT := zm 1135 (by decide +kernel) (by decide +kernel)
set_option maxRecDepth 100000 in
theorem km_1136 : Cond.instanceMethod yy_Operators_openPrefix ∈ zT := zm 1136 (by decide +kernel) (by decide +kernel)
set_option maxRecDepth 100000 in
theorem km_1137 : Cond.selects rr_Operators yy_Operators_openPrefix yy_Operators_openPrefix ∈ zT := zm 1137 (by decide +kernel) (by decide +kernel)
set_option maxRecDepth 100000 in
theorem km_1138 : Cond.code yy_Operators_openPrefix bb_Operators_openPrefix 3 none ∈ zT := zm 1138 (by decide +kernel) (by decide +kernel)
set_option maxRecDepth 100000 in
theorem km_1139 : Cond.methodLink rr_Operators 42 yy_Operators_push ∈ zT := zm 1139 (by decide +kernel) (by decide +kernel)
set_option maxRecDepth 100000 in
theorem km_1140 : Cond.instanceMethod yy_Operators_push ∈ zT := zm 1140 (by decide +kernel) (by decide +kernel)
set_option maxRecDepth 100000 in
theorem km_1141 : Cond.selects rr_Operators yy_Operators_push yy_Operators_push ∈ zT := zm 1141 (by decide +kernel) (by decide +kernel)
set_option maxRecDepth 100000 in
theorem km_1142 : Cond.code yy_Operators_push bb_Operators_push 3 none ∈ zT := zm 1142 (by decide +kernel) (by decide +kernel)
set_option maxRecDepth 100000 in
theorem km_1143 : Cond.methodLink rr_Reader 280 yy_Operators_openBracket ∈ zT := zm 1143 (by decide +kernel) (by decide +kernel)
set_option maxRecDepth 100000 in
theorem km_1144 : Cond.instanceMethod yy_Operators_openBracket ∈ zT := zm 1144 (by decide +kernel) (by decide +kernel)
set_option maxRecDepth 100000 in
theorem km_1145 : Cond.selects rr_Operators yy_Operators_openBracket yy_Operators_openBracket ∈ zT := zm 1145 (by decide +kernel) (by decide +kernel)
set_option maxRecDepth 100000 in
theorem km_1146 : Cond.code yy_Operators_openBracket bb_Operators_openBracket 1 none ∈ zT := zm 1146 (by decide +kernel) (by decide +kernel)
set_option maxRecDepth 100000 in
theorem km_1147 : Cond.methodLink rr_Operators 52 yy_Operators_openPrefix ∈ zT := zm 1147 (by decide +kernel) (by decide +kernel)
set_option maxRecDepth 100000 in
theorem km_1148 : Cond.methodLink rr_Reader 283 yy_Text_openGroup ∈ zT := zm 1148 (by decide +kernel) (by decide +kernel)
set_option maxRecDepth 100000 in
theorem km_1149 : Cond.methodLink rr_Reader 160 yy_Reader_takeAfterFact ∈ zT := zm 1149 (by decide +kernel) (by decide +kernel)
set_option maxRecDepth 100000 in
theorem km_1151 : Cond.instanceMethod yy_Reader_takeAfterFact ∈ zT := zm 1151 (by decide +kernel) (by decide +kernel)
set_option maxRecDepth 100000 in
theorem km_1152 : Cond.code yy_Reader_takeAfterFact bb_Reader_takeAfterFact 2 none ∈ zT := zm 1152 (by decide +kernel) (by decide +kernel)
set_option maxRecDepth 100000 in
theorem km_1153 : Cond.methodLink rr_Reader 286 yy_Operators_between ∈ zT := zm 1153 (by decide +kernel) (by decide +kernel)
set_option maxRecDepth 100000 in
theorem km_1154 : Cond.instanceMethod yy_Operators_between ∈ zT := zm 1154 (by decide +kernel) (by decide +kernel)
set_option maxRecDepth 100000 in
theorem km_1155 : Cond.selects rr_Operators yy_Operators_between yy_Operators_between ∈ zT := zm 1155 (by decide +kernel) (by decide +kernel)
set_option maxRecDepth 100000 in
theorem km_1156 : Cond.code yy_Operators_between bb_Operators_between 3 none ∈ zT := zm 1156 (by decide +kernel) (by decide +kernel)
set_option maxRecDepth 100000 in
theorem km_1157 : Cond.methodLink rr_Operators 38 yy_Operators_unwind ∈ zT := zm 1157 (by decide +kernel) (by decide +kernel)
set_option maxRecDepth 100000 in
theorem km_1158 : Cond.methodLink rr_Reader 292 yy_Operators_closeBracket ∈ zT := zm 1158 (by decide +kernel) (by decide +kernel)
set_option maxRecDepth 100000 in
theorem km_1159 : Cond.instanceMethod yy_Operators_closeBracket ∈ zT := zm 1159 (by decide +kernel) (by decide +kernel)
set_option maxRecDepth 100000 in
theorem km_1160 : Cond.selects rr_Operators yy_Operators_closeBracket yy_Operators_closeBracket ∈ zT := zm 1160 (by decide +kernel) (by decide +kernel)
set_option maxRecDepth 100000 in
theorem km_1161 : Cond.code yy_Operators_closeBracket bb_Operators_closeBracket 1 none ∈ zT := zm 1161 (by decide +kernel) (by decide +kernel)
set_option maxRecDepth 100000 in
theorem km_1162 : Cond.methodLink rr_Operators 55 yy_Operators_popOpen ∈ zT := zm 1162 (by decide +kernel) (by decide +kernel)
set_option maxRecDepth 100000 in
theorem km_1164 : Cond.instanceMethod yy_Operators_popOpen ∈ zT := zm 1164 (by decide +kernel) (by decide +kernel)
set_option maxRecDepth 100000 in
theorem km_1165 : Cond.code yy_Operators_popOpen bb_Operators_popOpen 1 none ∈ zT := zm 1165 (by decide +kernel) (by decide +kernel)
set_option maxRecDepth 100000 in
theorem km_1166 : Cond.methodLink rr_Reader 163 yy_Reader_takeUnit ∈ zT := zm 1166 (by decide +kernel) (by decide +kernel)
set_option maxRecDepth 100000 in
theorem km_1168 : Cond.instanceMethod yy_Reader_takeUnit ∈ zT := zm 1168 (by decide +kernel) (by decide +kernel)
set_option maxRecDepth 100000 in
theorem km_1169 : Cond.code yy_Reader_takeUnit bb_Reader_takeUnit 2 none ∈ zT := zm 1169 (by decide +kernel) (by decide +kernel)
set_option maxRecDepth 100000 in
theorem km_1170 : Cond.methodLink rr_Reader 301 yy_Operators_openParen ∈ zT := zm 1170 (by decide +kernel) (by decide +kernel)
set_option maxRecDepth 100000 in
theorem km_1171 : Cond.instanceMethod yy_Operators_openParen ∈ zT := zm 1171 (by decide +kernel) (by decide +kernel)
set_option maxRecDepth 100000 in
theorem km_1172 : Cond.selects rr_Operators yy_Operators_openParen yy_Operators_openParen ∈ zT := zm 1172 (by decide +kernel) (by decide +kernel)
set_option maxRecDepth 100000 in
theorem km_1173 : Cond.code yy_Operators_openParen bb_Operators_openParen 1 none ∈ zT := zm 1173 (by decide +kernel) (by decide +kernel)
set_option maxRecDepth 100000 in
theorem km_1174 : Cond.methodLink rr_Reader 304 yy_Reader_findVariable ∈ zT := zm 1174 (by decide +kernel) (by decide +kernel)
set_option maxRecDepth 100000 in
theorem km_1176 : Cond.instanceMethod yy_Reader_findVariable ∈ zT := zm 1176 (by decide +kernel) (by decide +kernel)
set_option maxRecDepth 100000 in
theorem km_1177 : Cond.code yy_Reader_findVariable bb_Reader_findVariable 2 none ∈ zT := zm 1177 (by decide +kernel) (by decide +kernel)
set_option maxRecDepth 100000 in
theorem km_1178 : Cond.methodLink rr_Reader 307 yy_Text_wayOfLeast ∈ zT := zm 1178 (by decide +kernel) (by decide +kernel)
set_option maxRecDepth 100000 in
theorem km_1179 : Cond.instanceMethod yy_Text_wayOfLeast ∈ zT := zm 1179 (by decide +kernel) (by decide +kernel)
set_option maxRecDepth 100000 in
theorem km_1180 : Cond.selects rr_Text yy_Text_wayOfLeast yy_Text_wayOfLeast ∈ zT := zm 1180 (by decide +kernel) (by decide +kernel)
set_option maxRecDepth 100000 in
theorem km_1181 : Cond.code yy_Text_wayOfLeast bb_Text_wayOfLeast 3 (some (.int)) ∈ zT := zm 1181 (by decide +kernel) (by decide +kernel)
set_option maxRecDepth 100000 in
theorem km_1182 : Cond.methodLink rr_Reader 166 yy_Reader_takeAfterVariable ∈ zT := zm 1182 (by decide +kernel) (by decide +kernel)
set_option maxRecDepth 100000 in
theorem km_1184 : Cond.instanceMethod yy_Reader_takeAfterVariable ∈ zT := zm 1184 (by decide +kernel) (by decide +kernel)
set_option maxRecDepth 100000 in
theorem km_1185 : Cond.code yy_Reader_takeAfterVariable bb_Reader_takeAfterVariable 2 none ∈ zT := zm 1185 (by decide +kernel) (by decide +kernel)
set_option maxRecDepth 100000 in
theorem km_1186 : Cond.methodLink rr_Reader 311 yy_Text_change ∈ zT := zm 1186 (by decide +kernel) (by decide +kernel)
set_option maxRecDepth 100000 in
theorem km_1187 : Cond.methodLink rr_Reader 169 yy_Reader_takeAfterUnit ∈ zT := zm 1187 (by decide +kernel) (by decide +kernel)
set_option maxRecDepth 100000 in
theorem km_1189 : Cond.instanceMethod yy_Reader_takeAfterUnit ∈ zT := zm 1189 (by decide +kernel) (by decide +kernel)
set_option maxRecDepth 100000 in
theorem km_1190 : Cond.code yy_Reader_takeAfterUnit bb_Reader_takeAfterUnit 2 none ∈ zT := zm 1190 (by decide +kernel) (by decide +kernel)
set_option maxRecDepth 100000 in
theorem km_1191 : Cond.methodLink rr_Reader 318 yy_Operators_closeParen ∈ zT := zm 1191 (by decide +kernel) (by decide +kernel)
set_option maxRecDepth 100000 in
theorem km_1192 : Cond.instanceMethod yy_Operators_closeParen ∈ zT := zm 1192 (by decide +kernel) (by decide +kernel)
set_option maxRecDepth 100000 in
theorem km_1193 : Cond.selects rr_Operators yy_Operators_closeParen yy_Operators_closeParen ∈ zT := zm 1193 (by decide +kernel) (by decide +kernel)
set_option maxRecDepth 100000 in
theorem km_1194 : Cond.code yy_Operators_closeParen bb_Operators_closeParen 1 none ∈ zT := zm 1194 (by decide +kernel) (by decide +kernel)
set_option maxRecDepth 100000 in
theorem km_1195 : Cond.methodLink rr_Reader 321 yy_Reader_takeComparison ∈ zT := zm 1195 (by decide +kernel) (by decide +kernel)
set_option maxRecDepth 100000 in
theorem km_1197 : Cond.instanceMethod yy_Reader_takeComparison ∈ zT := zm 1197 (by decide +kernel) (by decide +kernel)
set_option maxRecDepth 100000 in
theorem km_1198 : Cond.code yy_Reader_takeComparison bb_Reader_takeComparison 3 none ∈ zT := zm 1198 (by decide +kernel) (by decide +kernel)
set_option maxRecDepth 100000 in
theorem km_1199 : Cond.methodLink rr_Reader 327 yy_Reader_comparison ∈ zT := zm 1199 (by decide +kernel) (by decide +kernel)
set_option maxRecDepth 100000 in
theorem km_1200 : Cond.static yy_Reader_comparison ∈ zT := zm 1200 (by decide +kernel) (by decide +kernel)
set_option maxRecDepth 100000 in
theorem km_1201 : Cond.code yy_Reader_comparison bb_Reader_comparison 1 (some (.int)) ∈ zT := zm 1201 (by decide +kernel) (by decide +kernel)
set_option maxRecDepth 100000 in
theorem km_1202 : Cond.methodLink rr_Reader 324 yy_Text_endItem ∈ zT := zm 1202 (by decide +kernel) (by decide +kernel)
set_option maxRecDepth 100000 in
theorem km_1203 : Cond.instanceMethod yy_Text_endItem ∈ zT := zm 1203 (by decide +kernel) (by decide +kernel)
set_option maxRecDepth 100000 in
theorem km_1204 : Cond.selects rr_Text yy_Text_endItem yy_Text_endItem ∈ zT := zm 1204 (by decide +kernel) (by decide +kernel)
set_option maxRecDepth 100000 in
theorem km_1205 : Cond.code yy_Text_endItem bb_Text_endItem 1 none ∈ zT := zm 1205 (by decide +kernel) (by decide +kernel)
set_option maxRecDepth 100000 in
theorem km_1206 : Cond.methodLink rr_Reader 172 yy_Reader_takeItem ∈ zT := zm 1206 (by decide +kernel) (by decide +kernel)
set_option maxRecDepth 100000 in
theorem km_1208 : Cond.instanceMethod yy_Reader_takeItem ∈ zT := zm 1208 (by decide +kernel) (by decide +kernel)
set_option maxRecDepth 100000 in
theorem km_1209 : Cond.code yy_Reader_takeItem bb_Reader_takeItem 4 none ∈ zT := zm 1209 (by decide +kernel) (by decide +kernel)
set_option maxRecDepth 100000 in
theorem km_1210 : Cond.methodLink rr_Reader 333 yy_Text_openItem ∈ zT := zm 1210 (by decide +kernel) (by decide +kernel)
set_option maxRecDepth 100000 in
theorem km_1211 : Cond.instanceMethod yy_Text_openItem ∈ zT := zm 1211 (by decide +kernel) (by decide +kernel)
set_option maxRecDepth 100000 in
theorem km_1212 : Cond.selects rr_Text yy_Text_openItem yy_Text_openItem ∈ zT := zm 1212 (by decide +kernel) (by decide +kernel)
set_option maxRecDepth 100000 in
theorem km_1213 : Cond.code yy_Text_openItem bb_Text_openItem 2 none ∈ zT := zm 1213 (by decide +kernel) (by decide +kernel)
set_option maxRecDepth 100000 in
theorem km_1214 : Cond.methodLink rr_Reader 175 yy_Reader_takeTail ∈ zT := zm 1214 (by decide +kernel) (by decide +kernel)
set_option maxRecDepth 100000 in
theorem km_1216 : Cond.instanceMethod yy_Reader_takeTail ∈ zT := zm 1216 (by decide +kernel) (by decide +kernel)
set_option maxRecDepth 100000 in
theorem km_1217 : Cond.code yy_Reader_takeTail bb_Reader_takeTail 2 none ∈ zT := zm 1217 (by decide +kernel) (by decide +kernel)
set_option maxRecDepth 100000 in
theorem km_1218 : Cond.methodLink rr_Reader 336 yy_Reader_takeLimit ∈ zT := zm 1218 (by decide +kernel) (by decide +kernel)
set_option maxRecDepth 100000 in
theorem km_1220 : Cond.instanceMethod yy_Reader_takeLimit ∈ zT := zm 1220 (by decide +kernel) (by decide +kernel)
set_option maxRecDepth 100000 in
theorem km_1221 : Cond.code yy_Reader_takeLimit bb_Reader_takeLimit 2 none ∈ zT := zm 1221 (by decide +kernel) (by decide +kernel)
set_option maxRecDepth 100000 in
theorem km_1222 : Cond.methodLink rr_Reader 339 yy_Reader_givenSlot ∈ zT := zm 1222 (by decide +kernel) (by decide +kernel)
set_option maxRecDepth 100000 in
theorem km_1224 : Cond.instanceMethod yy_Reader_givenSlot ∈ zT := zm 1224 (by decide +kernel) (by decide +kernel)
set_option maxRecDepth 100000 in
theorem km_1225 : Cond.code yy_Reader_givenSlot bb_Reader_givenSlot 2 (some (.int)) ∈ zT := zm 1225 (by decide +kernel) (by decide +kernel)
set_option maxRecDepth 100000 in
theorem km_1226 : Cond.methodLink rr_Reader 109 yy_Reader_checkLast ∈ zT := zm 1226 (by decide +kernel) (by decide +kernel)
set_option maxRecDepth 100000 in
theorem km_1228 : Cond.instanceMethod yy_Reader_checkLast ∈ zT := zm 1228 (by decide +kernel) (by decide +kernel)
set_option maxRecDepth 100000 in
theorem km_1229 : Cond.code yy_Reader_checkLast bb_Reader_checkLast 2 none ∈ zT := zm 1229 (by decide +kernel) (by decide +kernel)
set_option maxRecDepth 100000 in
theorem km_1234 : Cond.methodLink rr_PQ 144 yy_RuleBook_replace ∈ zT := zm 1234 (by decide +kernel) (by decide +kernel)
set_option maxRecDepth 100000 in
theorem km_1235 : Cond.instanceMethod yy_RuleBook_replace ∈ zT := zm 1235 (by decide +kernel) (by decide +kernel)
set_option maxRecDepth 100000 in
theorem km_1236 : Cond.selects rr_RuleBook yy_RuleBook_replace yy_RuleBook_replace ∈ zT := zm 1236 (by decide +kernel) (by decide +kernel)
set_option maxRecDepth 100000 in
theorem km_1237 : Cond.code yy_RuleBook_replace bb_RuleBook_replace 3 (some (.object "PathQueries$Text")) ∈ zT := zm 1237 (by decide +kernel) (by decide +kernel)
set_option maxRecDepth 100000 in
theorem km_1242 : Cond.methodLink rr_PQ 151 yy_RuleBook_has ∈ zT := zm 1242 (by decide +kernel) (by decide +kernel)
set_option maxRecDepth 100000 in
theorem km_1243 : Cond.instanceMethod yy_RuleBook_has ∈ zT := zm 1243 (by decide +kernel) (by decide +kernel)
set_option maxRecDepth 100000 in
theorem km_1244 : Cond.selects rr_RuleBook yy_RuleBook_has yy_RuleBook_has ∈ zT := zm 1244 (by decide +kernel) (by decide +kernel)
set_option maxRecDepth 100000 in
theorem km_1245 : Cond.code yy_RuleBook_has bb_RuleBook_has 2 (some (.boolean)) ∈ zT := zm 1245 (by decide +kernel) (by decide +kernel)
set_option maxRecDepth 100000 in
theorem km_1254 : Cond.methodLink rr_PQ 161 yy_RuleBook_settle ∈ zT := zm 1254 (by decide +kernel) (by decide +kernel)
set_option maxRecDepth 100000 in
theorem km_1255 : Cond.instanceMethod yy_RuleBook_settle ∈ zT := zm 1255 (by decide +kernel) (by decide +kernel)
set_option maxRecDepth 100000 in
theorem km_1256 : Cond.selects rr_RuleBook yy_RuleBook_settle yy_RuleBook_settle ∈ zT := zm 1256 (by decide +kernel) (by decide +kernel)
set_option maxRecDepth 100000 in
theorem km_1257 : Cond.code yy_RuleBook_settle bb_RuleBook_settle 6 (some (.boolean)) ∈ zT := zm 1257 (by decide +kernel) (by decide +kernel)
set_option maxRecDepth 100000 in
theorem km_1258 : Cond.methodLink rr_RuleBook 49 yy_Graph_relate ∈ zT := zm 1258 (by decide +kernel) (by decide +kernel)
set_option maxRecDepth 100000 in
theorem km_1259 : Cond.instanceMethod yy_Graph_relate ∈ zT := zm 1259 (by decide +kernel) (by decide +kernel)
set_option maxRecDepth 100000 in
theorem km_1260 : Cond.selects rr_Graph yy_Graph_relate yy_Graph_relate ∈ zT := zm 1260 (by decide +kernel) (by decide +kernel)
set_option maxRecDepth 100000 in
theorem km_1261 : Cond.code yy_Graph_relate bb_Graph_relate 2 none ∈ zT := zm 1261 (by decide +kernel) (by decide +kernel)
set_option maxRecDepth 100000 in
theorem km_1262 : Cond.methodLink rr_Graph 53 yy_Graph_link ∈ zT := zm 1262 (by decide +kernel) (by decide +kernel)
set_option maxRecDepth 100000 in
theorem km_1263 : Cond.instanceMethod yy_Graph_link ∈ zT := zm 1263 (by decide +kernel) (by decide +kernel)
set_option maxRecDepth 100000 in
theorem km_1264 : Cond.selects rr_Graph yy_Graph_link yy_Graph_link ∈ zT := zm 1264 (by decide +kernel) (by decide +kernel)
set_option maxRecDepth 100000 in
theorem km_1265 : Cond.code yy_Graph_link bb_Graph_link 4 none ∈ zT := zm 1265 (by decide +kernel) (by decide +kernel)
set_option maxRecDepth 100000 in
theorem km_1266 : Cond.methodLink rr_RuleBook 52 yy_RuleBook_workOfAll ∈ zT := zm 1266 (by decide +kernel) (by decide +kernel)
set_option maxRecDepth 100000 in
theorem km_1268 : Cond.instanceMethod yy_RuleBook_workOfAll ∈ zT := zm 1268 (by decide +kernel) (by decide +kernel)
set_option maxRecDepth 100000 in
theorem km_1269 : Cond.code yy_RuleBook_workOfAll bb_RuleBook_workOfAll 4 (some (.long)) ∈ zT := zm 1269 (by decide +kernel) (by decide +kernel)
set_option maxRecDepth 100000 in
theorem km_1270 : Cond.methodLink rr_RuleBook 72 yy_Text_work ∈ zT := zm 1270 (by decide +kernel) (by decide +kernel)
set_option maxRecDepth 100000 in
theorem km_1271 : Cond.instanceMethod yy_Text_work ∈ zT := zm 1271 (by decide +kernel) (by decide +kernel)
set_option maxRecDepth 100000 in
theorem km_1272 : Cond.selects rr_Text yy_Text_work yy_Text_work ∈ zT := zm 1272 (by decide +kernel) (by decide +kernel)
set_option maxRecDepth 100000 in
theorem km_1273 : Cond.code yy_Text_work bb_Text_work 5 (some (.long)) ∈ zT := zm 1273 (by decide +kernel) (by decide +kernel)
set_option maxRecDepth 100000 in
theorem km_1274 : Cond.methodLink rr_RuleBook 56 yy_RuleBook_standing ∈ zT := zm 1274 (by decide +kernel) (by decide +kernel)
set_option maxRecDepth 100000 in
theorem km_1275 : Cond.methodLink rr_RuleBook 60 yy_RuleBook_isOneLarge ∈ zT := zm 1275 (by decide +kernel) (by decide +kernel)
set_option maxRecDepth 100000 in
theorem km_1277 : Cond.instanceMethod yy_RuleBook_isOneLarge ∈ zT := zm 1277 (by decide +kernel) (by decide +kernel)
set_option maxRecDepth 100000 in
theorem km_1278 : Cond.code yy_RuleBook_isOneLarge bb_RuleBook_isOneLarge 2 (some (.boolean)) ∈ zT := zm 1278 (by decide +kernel) (by decide +kernel)
set_option maxRecDepth 100000 in
theorem km_1279 : Cond.constantLong rr_RuleBook 76 20000 ∈ zT := zm 1279 (by decide +kernel) (by decide +kernel)
set_option maxRecDepth 100000 in
theorem km_1280 : Cond.constantLong rr_RuleBook 64 1000000 ∈ zT := zm 1280 (by decide +kernel) (by decide +kernel)
set_option maxRecDepth 100000 in
theorem km_1281 : Cond.methodLink rr_RuleBook 66 yy_RuleBook_goRound ∈ zT := zm 1281 (by decide +kernel) (by decide +kernel)
set_option maxRecDepth 100000 in
theorem km_1283 : Cond.instanceMethod yy_RuleBook_goRound ∈ zT := zm 1283 (by decide +kernel) (by decide +kernel)
set_option maxRecDepth 100000 in
theorem km_1284 : Cond.code yy_RuleBook_goRound bb_RuleBook_goRound 5 (some (.boolean)) ∈ zT := zm 1284 (by decide +kernel) (by decide +kernel)
set_option maxRecDepth 100000 in
theorem km_1285 : Cond.methodLink rr_RuleBook 78 yy_Arrays_fill ∈ zT := zm 1285 (by decide +kernel) (by decide +kernel)
set_option maxRecDepth 100000 in
theorem km_1286 : Cond.methodLink rr_RuleBook 84 yy_RuleBook_forgetRuled ∈ zT := zm 1286 (by decide +kernel) (by decide +kernel)
set_option maxRecDepth 100000 in
theorem km_1287 : Cond.static yy_RuleBook_forgetRuled ∈ zT := zm 1287 (by decide +kernel) (by decide +kernel)
set_option maxRecDepth 100000 in
theorem km_1288 : Cond.code yy_RuleBook_forgetRuled bb_RuleBook_forgetRuled 2 none ∈ zT := zm 1288 (by decide +kernel) (by decide +kernel)
set_option maxRecDepth 100000 in
theorem km_1289 : Cond.methodLink rr_RuleBook 88 yy_Finder_start ∈ zT := zm 1289 (by decide +kernel) (by decide +kernel)
set_option maxRecDepth 100000 in
theorem km_1290 : Cond.instanceMethod yy_Finder_start ∈ zT := zm 1290 (by decide +kernel) (by decide +kernel)
set_option maxRecDepth 100000 in
theorem km_1291 : Cond.selects rr_Finder yy_Finder_start yy_Finder_start ∈ zT := zm 1291 (by decide +kernel) (by decide +kernel)
set_option maxRecDepth 100000 in
theorem km_1292 : Cond.code yy_Finder_start bb_Finder_start 3 none ∈ zT := zm 1292 (by decide +kernel) (by decide +kernel)
set_option maxRecDepth 100000 in
theorem km_1293 : Cond.methodLink rr_Finder 57 yy_Finder_bringUpToDate ∈ zT := zm 1293 (by decide +kernel) (by decide +kernel)
set_option maxRecDepth 100000 in
theorem km_1294 : Cond.instanceMethod yy_Finder_bringUpToDate ∈ zT := zm 1294 (by decide +kernel) (by decide +kernel)
set_option maxRecDepth 100000 in
theorem km_1295 : Cond.selects rr_Finder yy_Finder_bringUpToDate yy_Finder_bringUpToDate ∈ zT := zm 1295 (by decide +kernel) (by decide +kernel)
set_option maxRecDepth 100000 in
theorem km_1296 : Cond.code yy_Finder_bringUpToDate bb_Finder_bringUpToDate 3 none ∈ zT := zm 1296 (by decide +kernel) (by decide +kernel)
set_option maxRecDepth 100000 in
theorem km_1297 : Cond.methodLink rr_Finder 140 yy_Way_forgetArcs ∈ zT := zm 1297 (by decide +kernel) (by decide +kernel)
set_option maxRecDepth 100000 in
theorem km_1298 : Cond.instanceMethod yy_Way_forgetArcs ∈ zT := zm 1298 (by decide +kernel) (by decide +kernel)
set_option maxRecDepth 100000 in
theorem km_1299 : Cond.selects rr_Way yy_Way_forgetArcs yy_Way_forgetArcs ∈ zT := zm 1299 (by decide +kernel) (by decide +kernel)
set_option maxRecDepth 100000 in
theorem km_1300 : Cond.code yy_Way_forgetArcs bb_Way_forgetArcs 1 none ∈ zT := zm 1300 (by decide +kernel) (by decide +kernel)
set_option maxRecDepth 100000 in
theorem km_1301 : Cond.methodLink rr_Way 86 yy_Arrays_fill ∈ zT := zm 1301 (by decide +kernel) (by decide +kernel)
set_option maxRecDepth 100000 in
theorem km_1302 : Cond.methodLink rr_Finder 146 yy_Finder_measureFrom ∈ zT := zm 1302 (by decide +kernel) (by decide +kernel)
set_option maxRecDepth 100000 in
theorem km_1304 : Cond.instanceMethod yy_Finder_measureFrom ∈ zT := zm 1304 (by decide +kernel) (by decide +kernel)
set_option maxRecDepth 100000 in
theorem km_1305 : Cond.code yy_Finder_measureFrom bb_Finder_measureFrom 9 none ∈ zT := zm 1305 (by decide +kernel) (by decide +kernel)
set_option maxRecDepth 100000 in
theorem km_1306 : Cond.constantLong rr_Finder 154 4294967296 ∈ zT := zm 1306 (by decide +kernel) (by decide +kernel)
set_option maxRecDepth 100000 in
theorem km_1307 : Cond.methodLink rr_Finder 156 yy_Way_arrive ∈ zT := zm 1307 (by decide +kernel) (by decide +kernel)
set_option maxRecDepth 100000 in
theorem km_1308 : Cond.instanceMethod yy_Way_arrive ∈ zT := zm 1308 (by decide +kernel) (by decide +kernel)
set_option maxRecDepth 100000 in
theorem km_1309 : Cond.selects rr_Way yy_Way_arrive yy_Way_arrive ∈ zT := zm 1309 (by decide +kernel) (by decide +kernel)
set_option maxRecDepth 100000 in
theorem km_1310 : Cond.code yy_Way_arrive bb_Way_arrive 6 none ∈ zT := zm 1310 (by decide +kernel) (by decide +kernel)
set_option maxRecDepth 100000 in
theorem km_1311 : Cond.methodLink rr_Finder 160 yy_Finder_goFirst ∈ zT := zm 1311 (by decide +kernel) (by decide +kernel)
set_option maxRecDepth 100000 in
theorem km_1313 : Cond.instanceMethod yy_Finder_goFirst ∈ zT := zm 1313 (by decide +kernel) (by decide +kernel)
set_option maxRecDepth 100000 in
theorem km_1314 : Cond.code yy_Finder_goFirst bb_Finder_goFirst 6 (some (.boolean)) ∈ zT := zm 1314 (by decide +kernel) (by decide +kernel)
set_option maxRecDepth 100000 in
theorem km_1315 : Cond.methodLink rr_Finder 170 yy_Finder_goOn ∈ zT := zm 1315 (by decide +kernel) (by decide +kernel)
set_option maxRecDepth 100000 in
theorem km_1317 : Cond.instanceMethod yy_Finder_goOn ∈ zT := zm 1317 (by decide +kernel) (by decide +kernel)
set_option maxRecDepth 100000 in
theorem km_1318 : Cond.code yy_Finder_goOn bb_Finder_goOn 4 (some (.boolean)) ∈ zT := zm 1318 (by decide +kernel) (by decide +kernel)
set_option maxRecDepth 100000 in
theorem km_1319 : Cond.methodLink rr_Finder 180 yy_Arrays_fill ∈ zT := zm 1319 (by decide +kernel) (by decide +kernel)
set_option maxRecDepth 100000 in
theorem km_1320 : Cond.methodLink rr_Finder 189 yy_Finder_spread ∈ zT := zm 1320 (by decide +kernel) (by decide +kernel)
set_option maxRecDepth 100000 in
theorem km_1322 : Cond.instanceMethod yy_Finder_spread ∈ zT := zm 1322 (by decide +kernel) (by decide +kernel)
set_option maxRecDepth 100000 in
theorem km_1323 : Cond.code yy_Finder_spread bb_Finder_spread 7 none ∈ zT := zm 1323 (by decide +kernel) (by decide +kernel)
set_option maxRecDepth 100000 in
theorem km_1324 : Cond.methodLink rr_Finder 70 yy_Graph_nodesWith ∈ zT := zm 1324 (by decide +kernel) (by decide +kernel)
set_option maxRecDepth 100000 in
theorem km_1325 : Cond.instanceMethod yy_Graph_nodesWith ∈ zT := zm 1325 (by decide +kernel) (by decide +kernel)
set_option maxRecDepth 100000 in
theorem km_1326 : Cond.selects rr_Graph yy_Graph_nodesWith yy_Graph_nodesWith ∈ zT := zm 1326 (by decide +kernel) (by decide +kernel)
set_option maxRecDepth 100000 in
theorem km_1327 : Cond.code yy_Graph_nodesWith bb_Graph_nodesWith 4 (some (.int)) ∈ zT := zm 1327 (by decide +kernel) (by decide +kernel)
set_option maxRecDepth 100000 in
theorem km_1328 : Cond.methodLink rr_Finder 76 yy_Search_begin ∈ zT := zm 1328 (by decide +kernel) (by decide +kernel)
set_option maxRecDepth 100000 in
theorem km_1329 : Cond.instanceMethod yy_Search_begin ∈ zT := zm 1329 (by decide +kernel) (by decide +kernel)
set_option maxRecDepth 100000 in
theorem km_1330 : Cond.selects rr_Search yy_Search_begin yy_Search_begin ∈ zT := zm 1330 (by decide +kernel) (by decide +kernel)
set_option maxRecDepth 100000 in
theorem km_1331 : Cond.code yy_Search_begin bb_Search_begin 5 none ∈ zT := zm 1331 (by decide +kernel) (by decide +kernel)
set_option maxRecDepth 100000 in
theorem km_1332 : Cond.methodLink rr_Search 62 yy_Search_candidates ∈ zT := zm 1332 (by decide +kernel) (by decide +kernel)
set_option maxRecDepth 100000 in
theorem km_1334 : Cond.instanceMethod yy_Search_candidates ∈ zT := zm 1334 (by decide +kernel) (by decide +kernel)
set_option maxRecDepth 100000 in
theorem km_1335 : Cond.code yy_Search_candidates bb_Search_candidates 7 (some (.int)) ∈ zT := zm 1335 (by decide +kernel) (by decide +kernel)
set_option maxRecDepth 100000 in
theorem km_1336 : Cond.methodLink rr_RuleBook 93 yy_Finder_nextRow ∈ zT := zm 1336 (by decide +kernel) (by decide +kernel)
set_option maxRecDepth 100000 in
theorem km_1337 : Cond.instanceMethod yy_Finder_nextRow ∈ zT := zm 1337 (by decide +kernel) (by decide +kernel)
set_option maxRecDepth 100000 in
theorem km_1338 : Cond.selects rr_Finder yy_Finder_nextRow yy_Finder_nextRow ∈ zT := zm 1338 (by decide +kernel) (by decide +kernel)
set_option maxRecDepth 100000 in
theorem km_1339 : Cond.code yy_Finder_nextRow bb_Finder_nextRow 2 (some (.boolean)) ∈ zT := zm 1339 (by decide +kernel) (by decide +kernel)
set_option maxRecDepth 100000 in
theorem km_1340 : Cond.constant rr_Finder 80 1000000 ∈ zT := zm 1340 (by decide +kernel) (by decide +kernel)
set_option maxRecDepth 100000 in
theorem km_1341 : Cond.methodLink rr_Finder 81 yy_Search_next ∈ zT := zm 1341 (by decide +kernel) (by decide +kernel)
set_option maxRecDepth 100000 in
theorem km_1342 : Cond.instanceMethod yy_Search_next ∈ zT := zm 1342 (by decide +kernel) (by decide +kernel)
set_option maxRecDepth 100000 in
theorem km_1343 : Cond.selects rr_Search yy_Search_next yy_Search_next ∈ zT := zm 1343 (by decide +kernel) (by decide +kernel)
set_option maxRecDepth 100000 in
theorem km_1344 : Cond.code yy_Search_next bb_Search_next 3 (some (.boolean)) ∈ zT := zm 1344 (by decide +kernel) (by decide +kernel)
set_option maxRecDepth 100000 in
theorem km_1345 : Cond.constant rr_Search 66 1000000 ∈ zT := zm 1345 (by decide +kernel) (by decide +kernel)
set_option maxRecDepth 100000 in
theorem km_1346 : Cond.methodLink rr_Search 67 yy_Integer_numberOfTrailingZeros ∈ zT := zm 1346 (by decide +kernel) (by decide +kernel)
set_option maxRecDepth 100000 in
theorem km_1347 : Cond.static yy_Integer_numberOfTrailingZeros ∈ zT := zm 1347 (by decide +kernel) (by decide +kernel)
set_option maxRecDepth 100000 in
theorem km_1348 : Cond.code yy_Integer_numberOfTrailingZeros bb_Integer_numberOfTrailingZeros 2 (some (.int)) ∈ zT := zm 1348 (by decide +kernel) (by decide +kernel)
set_option maxRecDepth 100000 in
theorem km_1349 : Cond.constant rr_Integer 264 65536 ∈ zT := zm 1349 (by decide +kernel) (by decide +kernel)
set_option maxRecDepth 100000 in
theorem km_1350 : Cond.methodLink rr_Finder 87 yy_Finder_evaluate ∈ zT := zm 1350 (by decide +kernel) (by decide +kernel)
set_option maxRecDepth 100000 in
theorem km_1351 : Cond.instanceMethod yy_Finder_evaluate ∈ zT := zm 1351 (by decide +kernel) (by decide +kernel)
set_option maxRecDepth 100000 in
theorem km_1352 : Cond.selects rr_Finder yy_Finder_evaluate yy_Finder_evaluate ∈ zT := zm 1352 (by decide +kernel) (by decide +kernel)
set_option maxRecDepth 100000 in
theorem km_1353 : Cond.code yy_Finder_evaluate bb_Finder_evaluate 8 (some (.int)) ∈ zT := zm 1353 (by decide +kernel) (by decide +kernel)
set_option maxRecDepth 100000 in
theorem km_1354 : Cond.methodLink rr_Finder 94 yy_Search_fits ∈ zT := zm 1354 (by decide +kernel) (by decide +kernel)
set_option maxRecDepth 100000 in
theorem km_1355 : Cond.instanceMethod yy_Search_fits ∈ zT := zm 1355 (by decide +kernel) (by decide +kernel)
set_option maxRecDepth 100000 in
theorem km_1356 : Cond.selects rr_Search yy_Search_fits yy_Search_fits ∈ zT := zm 1356 (by decide +kernel) (by decide +kernel)
set_option maxRecDepth 100000 in
theorem km_1357 : Cond.code yy_Search_fits bb_Search_fits 3 (some (.boolean)) ∈ zT := zm 1357 (by decide +kernel) (by decide +kernel)
set_option maxRecDepth 100000 in
theorem km_1358 : Cond.methodLink rr_Search 72 yy_Search_begin ∈ zT := zm 1358 (by decide +kernel) (by decide +kernel)
set_option maxRecDepth 100000 in
theorem km_1359 : Cond.methodLink rr_Search 76 yy_Search_knownFit ∈ zT := zm 1359 (by decide +kernel) (by decide +kernel)
set_option maxRecDepth 100000 in
theorem km_1361 : Cond.instanceMethod yy_Search_knownFit ∈ zT := zm 1361 (by decide +kernel) (by decide +kernel)
set_option maxRecDepth 100000 in
theorem km_1362 : Cond.code yy_Search_knownFit bb_Search_knownFit 5 (some (.boolean)) ∈ zT := zm 1362 (by decide +kernel) (by decide +kernel)
set_option maxRecDepth 100000 in
theorem km_1363 : Cond.methodLink rr_Search 80 yy_Search_next ∈ zT := zm 1363 (by decide +kernel) (by decide +kernel)
set_option maxRecDepth 100000 in
theorem km_1364 : Cond.methodLink rr_Finder 98 yy_Finder_load ∈ zT := zm 1364 (by decide +kernel) (by decide +kernel)
set_option maxRecDepth 100000 in
theorem km_1366 : Cond.instanceMethod yy_Finder_load ∈ zT := zm 1366 (by decide +kernel) (by decide +kernel)
set_option maxRecDepth 100000 in
theorem km_1367 : Cond.code yy_Finder_load bb_Finder_load 4 (some (.int)) ∈ zT := zm 1367 (by decide +kernel) (by decide +kernel)
set_option maxRecDepth 100000 in
theorem km_1368 : Cond.methodLink rr_Finder 121 yy_Way_arcsBetween ∈ zT := zm 1368 (by decide +kernel) (by decide +kernel)
set_option maxRecDepth 100000 in
theorem km_1369 : Cond.instanceMethod yy_Way_arcsBetween ∈ zT := zm 1369 (by decide +kernel) (by decide +kernel)
set_option maxRecDepth 100000 in
theorem km_1370 : Cond.selects rr_Way yy_Way_arcsBetween yy_Way_arcsBetween ∈ zT := zm 1370 (by decide +kernel) (by decide +kernel)
set_option maxRecDepth 100000 in
theorem km_1371 : Cond.code yy_Way_arcsBetween bb_Way_arcsBetween 3 (some (.int)) ∈ zT := zm 1371 (by decide +kernel) (by decide +kernel)
set_option maxRecDepth 100000 in
theorem km_1372 : Cond.methodLink rr_Finder 101 yy_Math_max_0 ∈ zT := zm 1372 (by decide +kernel) (by decide +kernel)
set_option maxRecDepth 100000 in
theorem km_1373 : Cond.methodLink rr_Finder 106 yy_Finder_operate ∈ zT := zm 1373 (by decide +kernel) (by decide +kernel)
set_option maxRecDepth 100000 in
theorem km_1374 : Cond.static yy_Finder_operate ∈ zT := zm 1374 (by decide +kernel) (by decide +kernel)
set_option maxRecDepth 100000 in
theorem km_1375 : Cond.code yy_Finder_operate bb_Finder_operate 3 (some (.int)) ∈ zT := zm 1375 (by decide +kernel) (by decide +kernel)
set_option maxRecDepth 100000 in
theorem km_1376 : Cond.methodLink rr_Finder 124 yy_Finder_bounded ∈ zT := zm 1376 (by decide +kernel) (by decide +kernel)
set_option maxRecDepth 100000 in
theorem km_1377 : Cond.static yy_Finder_bounded ∈ zT := zm 1377 (by decide +kernel) (by decide +kernel)
set_option maxRecDepth 100000 in
theorem km_1378 : Cond.code yy_Finder_bounded bb_Finder_bounded 2 (some (.int)) ∈ zT := zm 1378 (by decide +kernel) (by decide +kernel)
set_option maxRecDepth 100000 in
theorem km_1379 : Cond.constantLong rr_Finder 128 1000000000 ∈ zT := zm 1379 (by decide +kernel) (by decide +kernel)
set_option maxRecDepth 100000 in
theorem km_1380 : Cond.constant rr_Finder 130 1000000000 ∈ zT := zm 1380 (by decide +kernel) (by decide +kernel)
set_option maxRecDepth 100000 in
theorem km_1381 : Cond.constantLong rr_Finder 131 (-1000000000) ∈ zT := zm 1381 (by decide +kernel) (by decide +kernel)
set_option maxRecDepth 100000 in
theorem km_1382 : Cond.constant rr_Finder 133 (-1000000000) ∈ zT := zm 1382 (by decide +kernel) (by decide +kernel)
set_option maxRecDepth 100000 in
theorem km_1383 : Cond.methodLink rr_RuleBook 105 yy_Graph_reached ∈ zT := zm 1383 (by decide +kernel) (by decide +kernel)
set_option maxRecDepth 100000 in
theorem km_1384 : Cond.instanceMethod yy_Graph_reached ∈ zT := zm 1384 (by decide +kernel) (by decide +kernel)
set_option maxRecDepth 100000 in
theorem km_1385 : Cond.selects rr_Graph yy_Graph_reached yy_Graph_reached ∈ zT := zm 1385 (by decide +kernel) (by decide +kernel)
set_option maxRecDepth 100000 in
theorem km_1386 : Cond.code yy_Graph_reached bb_Graph_reached 3 (some (.int)) ∈ zT := zm 1386 (by decide +kernel) (by decide +kernel)
set_option maxRecDepth 100000 in
theorem km_1387 : Cond.methodLink rr_RuleBook 109 yy_RuleBook_linkAll ∈ zT := zm 1387 (by decide +kernel) (by decide +kernel)
set_option maxRecDepth 100000 in
theorem km_1389 : Cond.instanceMethod yy_RuleBook_linkAll ∈ zT := zm 1389 (by decide +kernel) (by decide +kernel)
set_option maxRecDepth 100000 in
theorem km_1390 : Cond.code yy_RuleBook_linkAll bb_RuleBook_linkAll 5 none ∈ zT := zm 1390 (by decide +kernel) (by decide +kernel)
set_option maxRecDepth 100000 in
theorem km_1391 : Cond.methodLink rr_RuleBook 128 yy_Graph_link ∈ zT := zm 1391 (by decide +kernel) (by decide +kernel)
set_option maxRecDepth 100000 in
theorem km_1392 : Cond.methodLink rr_PQ 165 yy_Text_work ∈ zT := zm 1392 (by decide +kernel) (by decide +kernel)
set_option maxRecDepth 100000 in
theorem km_1393 : Cond.constantLong rr_PQ 169 20000 ∈ zT := zm 1393 (by decide +kernel) (by decide +kernel)
set_option maxRecDepth 100000 in
theorem km_1394 : Cond.methodLink rr_PQ 171 yy_Collector_collect ∈ zT := zm 1394 (by decide +kernel) (by decide +kernel)
set_option maxRecDepth 100000 in
theorem km_1395 : Cond.instanceMethod yy_Collector_collect ∈ zT := zm 1395 (by decide +kernel) (by decide +kernel)
set_option maxRecDepth 100000 in
theorem km_1396 : Cond.selects rr_Collector yy_Collector_collect yy_Collector_collect ∈ zT := zm 1396 (by decide +kernel) (by decide +kernel)
set_option maxRecDepth 100000 in
theorem km_1397 : Cond.code yy_Collector_collect bb_Collector_collect 7 none ∈ zT := zm 1397 (by decide +kernel) (by decide +kernel)
set_option maxRecDepth 100000 in
theorem km_1398 : Cond.methodLink rr_Collector 29 yy_Collector_gather ∈ zT := zm 1398 (by decide +kernel) (by decide +kernel)
set_option maxRecDepth 100000 in
theorem km_1400 : Cond.instanceMethod yy_Collector_gather ∈ zT := zm 1400 (by decide +kernel) (by decide +kernel)
set_option maxRecDepth 100000 in
theorem km_1401 : Cond.code yy_Collector_gather bb_Collector_gather 5 none ∈ zT := zm 1401 (by decide +kernel) (by decide +kernel)
set_option maxRecDepth 100000 in
theorem km_1402 : Cond.methodLink rr_Collector 51 yy_Rows_clear ∈ zT := zm 1402 (by decide +kernel) (by decide +kernel)
set_option maxRecDepth 100000 in
theorem km_1403 : Cond.instanceMethod yy_Rows_clear ∈ zT := zm 1403 (by decide +kernel) (by decide +kernel)
set_option maxRecDepth 100000 in
theorem km_1404 : Cond.selects rr_Rows yy_Rows_clear yy_Rows_clear ∈ zT := zm 1404 (by decide +kernel) (by decide +kernel)
set_option maxRecDepth 100000 in
theorem km_1405 : Cond.code yy_Rows_clear bb_Rows_clear 2 none ∈ zT := zm 1405 (by decide +kernel) (by decide +kernel)
set_option maxRecDepth 100000 in
theorem km_1406 : Cond.methodLink rr_Collector 83 yy_Finder_start ∈ zT := zm 1406 (by decide +kernel) (by decide +kernel)
set_option maxRecDepth 100000 in
theorem km_1407 : Cond.methodLink rr_Collector 88 yy_Finder_nextRow ∈ zT := zm 1407 (by decide +kernel) (by decide +kernel)
set_option maxRecDepth 100000 in
theorem km_1408 : Cond.methodLink rr_Collector 69 yy_Rows_addRow ∈ zT := zm 1408 (by decide +kernel) (by decide +kernel)
set_option maxRecDepth 100000 in
theorem km_1409 : Cond.instanceMethod yy_Rows_addRow ∈ zT := zm 1409 (by decide +kernel) (by decide +kernel)
set_option maxRecDepth 100000 in
theorem km_1410 : Cond.selects rr_Rows yy_Rows_addRow yy_Rows_addRow ∈ zT := zm 1410 (by decide +kernel) (by decide +kernel)
set_option maxRecDepth 100000 in
theorem km_1411 : Cond.code yy_Rows_addRow bb_Rows_addRow 1 none ∈ zT := zm 1411 (by decide +kernel) (by decide +kernel)
set_option maxRecDepth 100000 in
theorem km_1412 : Cond.methodLink rr_Rows 38 yy_Rows_reserve ∈ zT := zm 1412 (by decide +kernel) (by decide +kernel)
set_option maxRecDepth 100000 in
theorem km_1413 : Cond.instanceMethod yy_Rows_reserve ∈ zT := zm 1413 (by decide +kernel) (by decide +kernel)
set_option maxRecDepth 100000 in
theorem km_1414 : Cond.selects rr_Rows yy_Rows_reserve yy_Rows_reserve ∈ zT := zm 1414 (by decide +kernel) (by decide +kernel)
set_option maxRecDepth 100000 in
theorem km_1415 : Cond.code yy_Rows_reserve bb_Rows_reserve 2 none ∈ zT := zm 1415 (by decide +kernel) (by decide +kernel)
set_option maxRecDepth 100000 in
theorem km_1416 : Cond.methodLink rr_Rows 26 yy_Math_max_0 ∈ zT := zm 1416 (by decide +kernel) (by decide +kernel)
set_option maxRecDepth 100000 in
theorem km_1417 : Cond.methodLink rr_Rows 32 yy_Arrays_copyOf ∈ zT := zm 1417 (by decide +kernel) (by decide +kernel)
set_option maxRecDepth 100000 in
theorem km_1418 : Cond.static yy_Arrays_copyOf ∈ zT := zm 1418 (by decide +kernel) (by decide +kernel)
set_option maxRecDepth 100000 in
theorem km_1419 : Cond.code yy_Arrays_copyOf bb_Arrays_copyOf 3 (some (.array .int)) ∈ zT := zm 1419 (by decide +kernel) (by decide +kernel)
set_option maxRecDepth 100000 in
theorem km_1427 : Cond.methodLink rr_Arrays 304 yy_Math_min_0 ∈ zT := zm 1427 (by decide +kernel) (by decide +kernel)
set_option maxRecDepth 100000 in
theorem km_1428 : Cond.methodLink rr_Arrays 150 arraycopyName ∈ zT := zm 1428 (by decide +kernel) (by decide +kernel)
set_option maxRecDepth 100000 in
theorem km_1429 : Cond.static arraycopyName ∈ zT := zm 1429 (by decide +kernel) (by decide +kernel)
set_option maxRecDepth 100000 in
theorem km_1430 : Cond.native arraycopyName ∈ zT := zm 1430 (by decide +kernel) (by decide +kernel)
set_option maxRecDepth 100000 in
theorem km_1431 : Cond.methodLink rr_Collector 96 yy_Text_itemBegin ∈ zT := zm 1431 (by decide +kernel) (by decide +kernel)
set_option maxRecDepth 100000 in
theorem km_1432 : Cond.instanceMethod yy_Text_itemBegin ∈ zT := zm 1432 (by decide +kernel) (by decide +kernel)
set_option maxRecDepth 100000 in
theorem km_1433 : Cond.selects rr_Text yy_Text_itemBegin yy_Text_itemBegin ∈ zT := zm 1433 (by decide +kernel) (by decide +kernel)
set_option maxRecDepth 100000 in
theorem km_1434 : Cond.code yy_Text_itemBegin bb_Text_itemBegin 2 (some (.int)) ∈ zT := zm 1434 (by decide +kernel) (by decide +kernel)
set_option maxRecDepth 100000 in
theorem km_1435 : Cond.methodLink rr_Collector 102 yy_Finder_evaluate ∈ zT := zm 1435 (by decide +kernel) (by decide +kernel)
set_option maxRecDepth 100000 in
theorem km_1436 : Cond.methodLink rr_Collector 79 yy_Rows_setCell ∈ zT := zm 1436 (by decide +kernel) (by decide +kernel)
set_option maxRecDepth 100000 in
theorem km_1437 : Cond.instanceMethod yy_Rows_setCell ∈ zT := zm 1437 (by decide +kernel) (by decide +kernel)
set_option maxRecDepth 100000 in
theorem km_1438 : Cond.selects rr_Rows yy_Rows_setCell yy_Rows_setCell ∈ zT := zm 1438 (by decide +kernel) (by decide +kernel)
set_option maxRecDepth 100000 in
theorem km_1439 : Cond.code yy_Rows_setCell bb_Rows_setCell 3 none ∈ zT := zm 1439 (by decide +kernel) (by decide +kernel)
set_option maxRecDepth 100000 in
theorem km_1440 : Cond.methodLink rr_Collector 33 yy_Collector_keysOf ∈ zT := zm 1440 (by decide +kernel) (by decide +kernel)
set_option maxRecDepth 100000 in
theorem km_1441 : Cond.static yy_Collector_keysOf ∈ zT := zm 1441 (by decide +kernel) (by decide +kernel)
set_option maxRecDepth 100000 in
theorem km_1442 : Cond.code yy_Collector_keysOf bb_Collector_keysOf 3 (some (.int)) ∈ zT := zm 1442 (by decide +kernel) (by decide +kernel)
set_option maxRecDepth 100000 in
theorem km_1443 : Cond.methodLink rr_Collector 37 yy_Rows_sort ∈ zT := zm 1443 (by decide +kernel) (by decide +kernel)
set_option maxRecDepth 100000 in
theorem km_1444 : Cond.instanceMethod yy_Rows_sort ∈ zT := zm 1444 (by decide +kernel) (by decide +kernel)
set_option maxRecDepth 100000 in
theorem km_1445 : Cond.selects rr_Rows yy_Rows_sort yy_Rows_sort ∈ zT := zm 1445 (by decide +kernel) (by decide +kernel)
set_option maxRecDepth 100000 in
theorem km_1446 : Cond.code yy_Rows_sort bb_Rows_sort 4 none ∈ zT := zm 1446 (by decide +kernel) (by decide +kernel)
set_option maxRecDepth 100000 in
theorem km_1447 : Cond.methodLink rr_Rows 42 yy_Math_min_0 ∈ zT := zm 1447 (by decide +kernel) (by decide +kernel)
set_option maxRecDepth 100000 in
theorem km_1448 : Cond.methodLink rr_Rows 45 yy_Rows_merge ∈ zT := zm 1448 (by decide +kernel) (by decide +kernel)
set_option maxRecDepth 100000 in
theorem km_1450 : Cond.instanceMethod yy_Rows_merge ∈ zT := zm 1450 (by decide +kernel) (by decide +kernel)
set_option maxRecDepth 100000 in
theorem km_1451 : Cond.code yy_Rows_merge bb_Rows_merge 8 none ∈ zT := zm 1451 (by decide +kernel) (by decide +kernel)
set_option maxRecDepth 100000 in
theorem km_1452 : Cond.methodLink rr_Rows 49 yy_Rows_compare ∈ zT := zm 1452 (by decide +kernel) (by decide +kernel)
set_option maxRecDepth 100000 in
theorem km_1453 : Cond.instanceMethod yy_Rows_compare ∈ zT := zm 1453 (by decide +kernel) (by decide +kernel)
set_option maxRecDepth 100000 in
theorem km_1454 : Cond.selects rr_Rows yy_Rows_compare yy_Rows_compare ∈ zT := zm 1454 (by decide +kernel) (by decide +kernel)
set_option maxRecDepth 100000 in
theorem km_1455 : Cond.code yy_Rows_compare bb_Rows_compare 7 (some (.int)) ∈ zT := zm 1455 (by decide +kernel) (by decide +kernel)
set_option maxRecDepth 100000 in
theorem km_1456 : Cond.methodLink rr_Collector 41 yy_Collector_fold ∈ zT := zm 1456 (by decide +kernel) (by decide +kernel)
set_option maxRecDepth 100000 in
theorem km_1458 : Cond.instanceMethod yy_Collector_fold ∈ zT := zm 1458 (by decide +kernel) (by decide +kernel)
set_option maxRecDepth 100000 in
theorem km_1459 : Cond.code yy_Collector_fold bb_Collector_fold 6 none ∈ zT := zm 1459 (by decide +kernel) (by decide +kernel)
set_option maxRecDepth 100000 in
theorem km_1460 : Cond.methodLink rr_Collector 72 yy_Rows_sorted ∈ zT := zm 1460 (by decide +kernel) (by decide +kernel)
set_option maxRecDepth 100000 in
theorem km_1461 : Cond.instanceMethod yy_Rows_sorted ∈ zT := zm 1461 (by decide +kernel) (by decide +kernel)
set_option maxRecDepth 100000 in
theorem km_1462 : Cond.selects rr_Rows yy_Rows_sorted yy_Rows_sorted ∈ zT := zm 1462 (by decide +kernel) (by decide +kernel)
set_option maxRecDepth 100000 in
theorem km_1463 : Cond.code yy_Rows_sorted bb_Rows_sorted 2 (some (.int)) ∈ zT := zm 1463 (by decide +kernel) (by decide +kernel)
set_option maxRecDepth 100000 in
theorem km_1464 : Cond.methodLink rr_Collector 105 yy_Rows_compare ∈ zT := zm 1464 (by decide +kernel) (by decide +kernel)
set_option maxRecDepth 100000 in
theorem km_1465 : Cond.methodLink rr_Collector 76 yy_Rows_cell ∈ zT := zm 1465 (by decide +kernel) (by decide +kernel)
set_option maxRecDepth 100000 in
theorem km_1466 : Cond.instanceMethod yy_Rows_cell ∈ zT := zm 1466 (by decide +kernel) (by decide +kernel)
set_option maxRecDepth 100000 in
theorem km_1467 : Cond.selects rr_Rows yy_Rows_cell yy_Rows_cell ∈ zT := zm 1467 (by decide +kernel) (by decide +kernel)
set_option maxRecDepth 100000 in
theorem km_1468 : Cond.code yy_Rows_cell bb_Rows_cell 3 (some (.int)) ∈ zT := zm 1468 (by decide +kernel) (by decide +kernel)
set_option maxRecDepth 100000 in
theorem km_1469 : Cond.methodLink rr_Collector 109 yy_Collector_addTo ∈ zT := zm 1469 (by decide +kernel) (by decide +kernel)
set_option maxRecDepth 100000 in
theorem km_1471 : Cond.instanceMethod yy_Collector_addTo ∈ zT := zm 1471 (by decide +kernel) (by decide +kernel)
set_option maxRecDepth 100000 in
theorem km_1472 : Cond.code yy_Collector_addTo bb_Collector_addTo 6 none ∈ zT := zm 1472 (by decide +kernel) (by decide +kernel)
set_option maxRecDepth 100000 in
theorem km_1473 : Cond.methodLink rr_Collector 116 yy_Math_min_1 ∈ zT := zm 1473 (by decide +kernel) (by decide +kernel)
set_option maxRecDepth 100000 in
theorem km_1474 : Cond.static yy_Math_min_1 ∈ zT := zm 1474 (by decide +kernel) (by decide +kernel)
set_option maxRecDepth 100000 in
theorem km_1475 : Cond.code yy_Math_min_1 bb_Math_min_1 4 (some (.long)) ∈ zT := zm 1475 (by decide +kernel) (by decide +kernel)
set_option maxRecDepth 100000 in
theorem km_1476 : Cond.methodLink rr_Collector 119 yy_Math_max_1 ∈ zT := zm 1476 (by decide +kernel) (by decide +kernel)
set_option maxRecDepth 100000 in
theorem km_1477 : Cond.static yy_Math_max_1 ∈ zT := zm 1477 (by decide +kernel) (by decide +kernel)
set_option maxRecDepth 100000 in
theorem km_1478 : Cond.code yy_Math_max_1 bb_Math_max_1 4 (some (.long)) ∈ zT := zm 1478 (by decide +kernel) (by decide +kernel)
set_option maxRecDepth 100000 in
theorem km_1479 : Cond.methodLink rr_Collector 112 yy_Finder_bounded ∈ zT := zm 1479 (by decide +kernel) (by decide +kernel)
set_option maxRecDepth 100000 in
theorem km_1480 : Cond.methodLink rr_Collector 60 yy_Math_min_0 ∈ zT := zm 1480 (by decide +kernel) (by decide +kernel)
set_option maxRecDepth 100000 in
theorem km_1481 : Cond.methodLink rr_Collector 66 yy_Rows_reserve ∈ zT := zm 1481 (by decide +kernel) (by decide +kernel)
set_option maxRecDepth 100000 in
theorem km_1486 : Cond.constant rr_PQ 178 2000000000 ∈ zT := zm 1486 (by decide +kernel) (by decide +kernel)
set_option maxRecDepth 100000 in
theorem km_1487 : Cond.methodLink rr_PQ 182 yy_Rows_cell ∈ zT := zm 1487 (by decide +kernel) (by decide +kernel)
set_option maxRecDepth 100000 in
theorem km_1492 : Cond.methodLink rr_PQ 185 yy_Graph_countArcs ∈ zT := zm 1492 (by decide +kernel) (by decide +kernel)
set_option maxRecDepth 100000 in
theorem km_1493 : Cond.instanceMethod yy_Graph_countArcs ∈ zT := zm 1493 (by decide +kernel) (by decide +kernel)
set_option maxRecDepth 100000 in
theorem km_1494 : Cond.selects rr_Graph yy_Graph_countArcs yy_Graph_countArcs ∈ zT := zm 1494 (by decide +kernel) (by decide +kernel)
set_option maxRecDepth 100000 in
theorem km_1495 : Cond.code yy_Graph_countArcs bb_Graph_countArcs 6 (some (.int)) ∈ zT := zm 1495 (by decide +kernel) (by decide +kernel)
set_option maxRecDepth 100000 in
theorem km_1496 : Cond.methodLink rr_PQ 188 yy_Graph_reached ∈ zT := zm 1496 (by decide +kernel) (by decide +kernel)
set_option maxRecDepth 100000 in
theorem km_1501 : Cond.methodLink rr_PQ 191 yy_Integer_bitCount ∈ zT := zm 1501 (by decide +kernel) (by decide +kernel)
set_option maxRecDepth 100000 in
theorem km_1502 : Cond.static yy_Integer_bitCount ∈ zT := zm 1502 (by decide +kernel) (by decide +kernel)
set_option maxRecDepth 100000 in
theorem km_1503 : Cond.code yy_Integer_bitCount bb_Integer_bitCount 1 (some (.int)) ∈ zT := zm 1503 (by decide +kernel) (by decide +kernel)
set_option maxRecDepth 100000 in
theorem km_1504 : Cond.constant rr_Integer 265 1431655765 ∈ zT := zm 1504 (by decide +kernel) (by decide +kernel)
set_option maxRecDepth 100000 in
theorem km_1505 : Cond.constant rr_Integer 266 858993459 ∈ zT := zm 1505 (by decide +kernel) (by decide +kernel)
set_option maxRecDepth 100000 in
theorem km_1506 : Cond.constant rr_Integer 267 252645135 ∈ zT := zm 1506 (by decide +kernel) (by decide +kernel)
set_option maxRecDepth 100000 in
theorem km_1511 : Cond.methodLink rr_PQ 203 yy_Finder_bringUpToDate ∈ zT := zm 1511 (by decide +kernel) (by decide +kernel)
set_option maxRecDepth 100000 in
theorem km_1512 : Cond.methodLink rr_PQ 212 yy_Way_arcsBetween ∈ zT := zm 1512 (by decide +kernel) (by decide +kernel)
set_option maxRecDepth 100000 in
theorem km_1518 : Cond.methodLink rr_Mo 1 Lib.objectInit ∈ zT := zm 1518 (by decide +kernel) (by decide +kernel)
set_option maxRecDepth 100000 in
theorem km_1519 : Cond.constant rr_Mo 203 160000 ∈ zT := zm 1519 (by decide +kernel) (by decide +kernel)
set_option maxRecDepth 100000 in
theorem km_1520 : Cond.constant rr_Mo 213 640000 ∈ zT := zm 1520 (by decide +kernel) (by decide +kernel)
set_option maxRecDepth 100000 in
theorem km_1521 : Cond.fieldLink rr_Mo 450 "PathQueriesModel" "nodes" "I" ∈ zT := zm 1521 (by decide +kernel) (by decide +kernel)
set_option maxRecDepth 100000 in
theorem km_1522 : Cond.fieldLink rr_Mo 7 "PathQueriesModel" "marks" "[I" ∈ zT := zm 1522 (by decide +kernel) (by decide +kernel)
set_option maxRecDepth 100000 in
theorem km_1523 : Cond.fieldLink rr_Mo 13 "PathQueriesModel" "columns" "[I" ∈ zT := zm 1523 (by decide +kernel) (by decide +kernel)
set_option maxRecDepth 100000 in
theorem km_1524 : Cond.fieldLink rr_Mo 16 "PathQueriesModel" "arcThere" "[Z" ∈ zT := zm 1524 (by decide +kernel) (by decide +kernel)
set_option maxRecDepth 100000 in
theorem km_1525 : Cond.fieldLink rr_Mo 20 "PathQueriesModel" "arcFroms" "[I" ∈ zT := zm 1525 (by decide +kernel) (by decide +kernel)
set_option maxRecDepth 100000 in
theorem km_1526 : Cond.fieldLink rr_Mo 23 "PathQueriesModel" "arcTos" "[I" ∈ zT := zm 1526 (by decide +kernel) (by decide +kernel)
set_option maxRecDepth 100000 in
theorem km_1527 : Cond.fieldLink rr_Mo 26 "PathQueriesModel" "arcLabels" "[I" ∈ zT := zm 1527 (by decide +kernel) (by decide +kernel)
set_option maxRecDepth 100000 in
theorem km_1528 : Cond.fieldLink rr_Mo 29 "PathQueriesModel" "arcWeights" "[I" ∈ zT := zm 1528 (by decide +kernel) (by decide +kernel)
set_option maxRecDepth 100000 in
theorem km_1529 : Cond.fieldLink rr_Mo 543 "PathQueriesModel" "arcs" "I" ∈ zT := zm 1529 (by decide +kernel) (by decide +kernel)
set_option maxRecDepth 100000 in
theorem km_1530 : Cond.fieldLink rr_Mo 32 "PathQueriesModel" "leads" "[I" ∈ zT := zm 1530 (by decide +kernel) (by decide +kernel)
set_option maxRecDepth 100000 in
theorem km_1531 : Cond.fieldLink rr_Mo 35 "PathQueriesModel" "stale" "Z" ∈ zT := zm 1531 (by decide +kernel) (by decide +kernel)
set_option maxRecDepth 100000 in
theorem km_1532 : Cond.fieldLink rr_Mo 488 "PathQueriesModel" "tooLarge" "Z" ∈ zT := zm 1532 (by decide +kernel) (by decide +kernel)
set_option maxRecDepth 100000 in
theorem km_1533 : Cond.fieldLink rr_Mo 39 "PathQueriesModel" "tape" "[B" ∈ zT := zm 1533 (by decide +kernel) (by decide +kernel)
set_option maxRecDepth 100000 in
theorem km_1534 : Cond.fieldLink rr_Mo 426 "PathQueriesModel" "taped" "I" ∈ zT := zm 1534 (by decide +kernel) (by decide +kernel)
set_option maxRecDepth 100000 in
theorem km_1535 : Cond.fieldLink rr_Mo 43 "PathQueriesModel" "kinds" "[I" ∈ zT := zm 1535 (by decide +kernel) (by decide +kernel)
set_option maxRecDepth 100000 in
theorem km_1536 : Cond.fieldLink rr_Mo 46 "PathQueriesModel" "values" "[I" ∈ zT := zm 1536 (by decide +kernel) (by decide +kernel)
set_option maxRecDepth 100000 in
theorem km_1537 : Cond.fieldLink rr_Mo 49 "PathQueriesModel" "froms" "[I" ∈ zT := zm 1537 (by decide +kernel) (by decide +kernel)
set_option maxRecDepth 100000 in
theorem km_1538 : Cond.fieldLink rr_Mo 242 "PathQueriesModel" "tokens" "I" ∈ zT := zm 1538 (by decide +kernel) (by decide +kernel)
set_option maxRecDepth 100000 in
theorem km_1539 : Cond.fieldLink rr_Mo 300 "PathQueriesModel" "t" "I" ∈ zT := zm 1539 (by decide +kernel) (by decide +kernel)
set_option maxRecDepth 100000 in
theorem km_1540 : Cond.fieldLink rr_Mo 294 "PathQueriesModel" "fault" "I" ∈ zT := zm 1540 (by decide +kernel) (by decide +kernel)
set_option maxRecDepth 100000 in
theorem km_1541 : Cond.fieldLink rr_Mo 297 "PathQueriesModel" "faultPlace" "I" ∈ zT := zm 1541 (by decide +kernel) (by decide +kernel)
set_option maxRecDepth 100000 in
theorem km_1542 : Cond.fieldLink rr_Mo 52 "PathQueriesModel" "place" "I" ∈ zT := zm 1542 (by decide +kernel) (by decide +kernel)
set_option maxRecDepth 100000 in
theorem km_1543 : Cond.fieldLink rr_Mo 56 "PathQueriesModel" "slots" "[I" ∈ zT := zm 1543 (by decide +kernel) (by decide +kernel)
set_option maxRecDepth 100000 in
theorem km_1544 : Cond.fieldLink rr_Mo 59 "PathQueriesModel" "there" "[Z" ∈ zT := zm 1544 (by decide +kernel) (by decide +kernel)
set_option maxRecDepth 100000 in
theorem km_1545 : Cond.fieldLink rr_Mo 62 "PathQueriesModel" "draft" "I" ∈ zT := zm 1545 (by decide +kernel) (by decide +kernel)
set_option maxRecDepth 100000 in
theorem km_1546 : Cond.fieldLink rr_Mo 331 "PathQueriesModel" "p" "I" ∈ zT := zm 1546 (by decide +kernel) (by decide +kernel)
set_option maxRecDepth 100000 in
theorem km_1547 : Cond.fieldLink rr_Mo 65 "PathQueriesModel" "nodeSlots" "[I" ∈ zT := zm 1547 (by decide +kernel) (by decide +kernel)
set_option maxRecDepth 100000 in
theorem km_1548 : Cond.fieldLink rr_Mo 68 "PathQueriesModel" "leastSlots" "[I" ∈ zT := zm 1548 (by decide +kernel) (by decide +kernel)
set_option maxRecDepth 100000 in
theorem km_1549 : Cond.fieldLink rr_Mo 71 "PathQueriesModel" "groupCounts" "[I" ∈ zT := zm 1549 (by decide +kernel) (by decide +kernel)
set_option maxRecDepth 100000 in
theorem km_1550 : Cond.fieldLink rr_Mo 74 "PathQueriesModel" "slotGroups" "[I" ∈ zT := zm 1550 (by decide +kernel) (by decide +kernel)
set_option maxRecDepth 100000 in
theorem km_1551 : Cond.fieldLink rr_Mo 77 "PathQueriesModel" "wanted" "[I" ∈ zT := zm 1551 (by decide +kernel) (by decide +kernel)
set_option maxRecDepth 100000 in
theorem km_1552 : Cond.fieldLink rr_Mo 80 "PathQueriesModel" "ways" "[I" ∈ zT := zm 1552 (by decide +kernel) (by decide +kernel)
set_option maxRecDepth 100000 in
theorem km_1553 : Cond.fieldLink rr_Mo 83 "PathQueriesModel" "wayGroups" "[I" ∈ zT := zm 1553 (by decide +kernel) (by decide +kernel)
set_option maxRecDepth 100000 in
theorem km_1554 : Cond.fieldLink rr_Mo 86 "PathQueriesModel" "wayFroms" "[I" ∈ zT := zm 1554 (by decide +kernel) (by decide +kernel)
set_option maxRecDepth 100000 in
theorem km_1555 : Cond.fieldLink rr_Mo 89 "PathQueriesModel" "wayTos" "[I" ∈ zT := zm 1555 (by decide +kernel) (by decide +kernel)
set_option maxRecDepth 100000 in
theorem km_1556 : Cond.fieldLink rr_Mo 92 "PathQueriesModel" "wayLeasts" "[I" ∈ zT := zm 1556 (by decide +kernel) (by decide +kernel)
set_option maxRecDepth 100000 in
theorem km_1557 : Cond.fieldLink rr_Mo 95 "PathQueriesModel" "wayEmpty" "[Z" ∈ zT := zm 1557 (by decide +kernel) (by decide +kernel)
set_option maxRecDepth 100000 in
theorem km_1558 : Cond.fieldLink rr_Mo 98 "PathQueriesModel" "wayFirsts" "[I" ∈ zT := zm 1558 (by decide +kernel) (by decide +kernel)
set_option maxRecDepth 100000 in
theorem km_1559 : Cond.fieldLink rr_Mo 101 "PathQueriesModel" "wayLasts" "[I" ∈ zT := zm 1559 (by decide +kernel) (by decide +kernel)
set_option maxRecDepth 100000 in
theorem km_1560 : Cond.fieldLink rr_Mo 104 "PathQueriesModel" "waySteps" "[I" ∈ zT := zm 1560 (by decide +kernel) (by decide +kernel)
set_option maxRecDepth 100000 in
theorem km_1561 : Cond.fieldLink rr_Mo 107 "PathQueriesModel" "stepLabels" "[I" ∈ zT := zm 1561 (by decide +kernel) (by decide +kernel)
set_option maxRecDepth 100000 in
theorem km_1562 : Cond.fieldLink rr_Mo 110 "PathQueriesModel" "stepBacks" "[Z" ∈ zT := zm 1562 (by decide +kernel) (by decide +kernel)
set_option maxRecDepth 100000 in
theorem km_1563 : Cond.fieldLink rr_Mo 113 "PathQueriesModel" "follows" "[I" ∈ zT := zm 1563 (by decide +kernel) (by decide +kernel)
set_option maxRecDepth 100000 in
theorem km_1564 : Cond.fieldLink rr_Mo 116 "PathQueriesModel" "items" "[I" ∈ zT := zm 1564 (by decide +kernel) (by decide +kernel)
set_option maxRecDepth 100000 in
theorem km_1565 : Cond.fieldLink rr_Mo 119 "PathQueriesModel" "itemSorts" "[I" ∈ zT := zm 1565 (by decide +kernel) (by decide +kernel)
set_option maxRecDepth 100000 in
theorem km_1566 : Cond.fieldLink rr_Mo 122 "PathQueriesModel" "itemCodes" "[I" ∈ zT := zm 1566 (by decide +kernel) (by decide +kernel)
set_option maxRecDepth 100000 in
theorem km_1567 : Cond.fieldLink rr_Mo 125 "PathQueriesModel" "condCodes" "[I" ∈ zT := zm 1567 (by decide +kernel) (by decide +kernel)
set_option maxRecDepth 100000 in
theorem km_1568 : Cond.fieldLink rr_Mo 128 "PathQueriesModel" "limits" "[I" ∈ zT := zm 1568 (by decide +kernel) (by decide +kernel)
set_option maxRecDepth 100000 in
theorem km_1569 : Cond.fieldLink rr_Mo 131 "PathQueriesModel" "givesA" "[I" ∈ zT := zm 1569 (by decide +kernel) (by decide +kernel)
set_option maxRecDepth 100000 in
theorem km_1570 : Cond.fieldLink rr_Mo 134 "PathQueriesModel" "givesB" "[I" ∈ zT := zm 1570 (by decide +kernel) (by decide +kernel)
set_option maxRecDepth 100000 in
theorem km_1571 : Cond.fieldLink rr_Mo 137 "PathQueriesModel" "codes" "[I" ∈ zT := zm 1571 (by decide +kernel) (by decide +kernel)
set_option maxRecDepth 100000 in
theorem km_1572 : Cond.fieldLink rr_Mo 140 "PathQueriesModel" "args" "[I" ∈ zT := zm 1572 (by decide +kernel) (by decide +kernel)
set_option maxRecDepth 100000 in
theorem km_1573 : Cond.fieldLink rr_Mo 386 "PathQueriesModel" "coded" "I" ∈ zT := zm 1573 (by decide +kernel) (by decide +kernel)
set_option maxRecDepth 100000 in
theorem km_1574 : Cond.fieldLink rr_Mo 322 "PathQueriesModel" "deep" "I" ∈ zT := zm 1574 (by decide +kernel) (by decide +kernel)
set_option maxRecDepth 100000 in
theorem km_1575 : Cond.fieldLink rr_Mo 143 "PathQueriesModel" "known" "[I" ∈ zT := zm 1575 (by decide +kernel) (by decide +kernel)
set_option maxRecDepth 100000 in
theorem km_1576 : Cond.fieldLink rr_Mo 146 "PathQueriesModel" "knownHere" "[I" ∈ zT := zm 1576 (by decide +kernel) (by decide +kernel)
set_option maxRecDepth 100000 in
theorem km_1577 : Cond.fieldLink rr_Mo 325 "PathQueriesModel" "group" "I" ∈ zT := zm 1577 (by decide +kernel) (by decide +kernel)
set_option maxRecDepth 100000 in
theorem km_1578 : Cond.fieldLink rr_Mo 328 "PathQueriesModel" "variables" "I" ∈ zT := zm 1578 (by decide +kernel) (by decide +kernel)
set_option maxRecDepth 100000 in
theorem km_1579 : Cond.fieldLink rr_Mo 149 "PathQueriesModel" "openEmpty" "[Z" ∈ zT := zm 1579 (by decide +kernel) (by decide +kernel)
set_option maxRecDepth 100000 in
theorem km_1580 : Cond.fieldLink rr_Mo 152 "PathQueriesModel" "openFirsts" "[I" ∈ zT := zm 1580 (by decide +kernel) (by decide +kernel)
set_option maxRecDepth 100000 in
theorem km_1581 : Cond.fieldLink rr_Mo 155 "PathQueriesModel" "openLasts" "[I" ∈ zT := zm 1581 (by decide +kernel) (by decide +kernel)
set_option maxRecDepth 100000 in
theorem km_1582 : Cond.fieldLink rr_Mo 158 "PathQueriesModel" "rowEmpty" "[Z" ∈ zT := zm 1582 (by decide +kernel) (by decide +kernel)
set_option maxRecDepth 100000 in
theorem km_1583 : Cond.fieldLink rr_Mo 161 "PathQueriesModel" "rowFirsts" "[I" ∈ zT := zm 1583 (by decide +kernel) (by decide +kernel)
set_option maxRecDepth 100000 in
theorem km_1584 : Cond.fieldLink rr_Mo 164 "PathQueriesModel" "rowLasts" "[I" ∈ zT := zm 1584 (by decide +kernel) (by decide +kernel)
set_option maxRecDepth 100000 in
theorem km_1585 : Cond.fieldLink rr_Mo 167 "PathQueriesModel" "rowSome" "[Z" ∈ zT := zm 1585 (by decide +kernel) (by decide +kernel)
set_option maxRecDepth 100000 in
theorem km_1586 : Cond.fieldLink rr_Mo 360 "PathQueriesModel" "opens" "I" ∈ zT := zm 1586 (by decide +kernel) (by decide +kernel)
set_option maxRecDepth 100000 in
theorem km_1587 : Cond.fieldLink rr_Mo 170 "PathQueriesModel" "sorts" "[I" ∈ zT := zm 1587 (by decide +kernel) (by decide +kernel)
set_option maxRecDepth 100000 in
theorem km_1588 : Cond.fieldLink rr_Mo 173 "PathQueriesModel" "far" "[I" ∈ zT := zm 1588 (by decide +kernel) (by decide +kernel)
set_option maxRecDepth 100000 in
theorem km_1589 : Cond.fieldLink rr_Mo 176 "PathQueriesModel" "one" "[I" ∈ zT := zm 1589 (by decide +kernel) (by decide +kernel)
set_option maxRecDepth 100000 in
theorem km_1590 : Cond.fieldLink rr_Mo 389 "PathQueriesModel" "frames" "I" ∈ zT := zm 1590 (by decide +kernel) (by decide +kernel)
set_option maxRecDepth 100000 in
theorem km_1591 : Cond.fieldLink rr_Mo 179 "PathQueriesModel" "distances" "[I" ∈ zT := zm 1591 (by decide +kernel) (by decide +kernel)
set_option maxRecDepth 100000 in
theorem km_1592 : Cond.fieldLink rr_Mo 182 "PathQueriesModel" "queueNodes" "[I" ∈ zT := zm 1592 (by decide +kernel) (by decide +kernel)
set_option maxRecDepth 100000 in
theorem km_1593 : Cond.fieldLink rr_Mo 185 "PathQueriesModel" "queueSteps" "[I" ∈ zT := zm 1593 (by decide +kernel) (by decide +kernel)
set_option maxRecDepth 100000 in
theorem km_1594 : Cond.fieldLink rr_Mo 188 "PathQueriesModel" "reached" "[I" ∈ zT := zm 1594 (by decide +kernel) (by decide +kernel)
set_option maxRecDepth 100000 in
theorem km_1595 : Cond.fieldLink rr_Mo 191 "PathQueriesModel" "now" "[I" ∈ zT := zm 1595 (by decide +kernel) (by decide +kernel)
set_option maxRecDepth 100000 in
theorem km_1596 : Cond.fieldLink rr_Mo 194 "PathQueriesModel" "leastNow" "[I" ∈ zT := zm 1596 (by decide +kernel) (by decide +kernel)
set_option maxRecDepth 100000 in
theorem km_1597 : Cond.fieldLink rr_Mo 197 "PathQueriesModel" "stack" "[I" ∈ zT := zm 1597 (by decide +kernel) (by decide +kernel)
set_option maxRecDepth 100000 in
theorem km_1598 : Cond.fieldLink rr_Mo 200 "PathQueriesModel" "given" "[I" ∈ zT := zm 1598 (by decide +kernel) (by decide +kernel)
set_option maxRecDepth 100000 in
theorem km_1599 : Cond.fieldLink rr_Mo 204 "PathQueriesModel" "rowsAll" "[I" ∈ zT := zm 1599 (by decide +kernel) (by decide +kernel)
set_option maxRecDepth 100000 in
theorem km_1600 : Cond.fieldLink rr_Mo 207 "PathQueriesModel" "order" "[I" ∈ zT := zm 1600 (by decide +kernel) (by decide +kernel)
set_option maxRecDepth 100000 in
theorem km_1601 : Cond.fieldLink rr_Mo 210 "PathQueriesModel" "merged" "[I" ∈ zT := zm 1601 (by decide +kernel) (by decide +kernel)
set_option maxRecDepth 100000 in
theorem km_1602 : Cond.fieldLink rr_Mo 515 "PathQueriesModel" "rowCount" "I" ∈ zT := zm 1602 (by decide +kernel) (by decide +kernel)
set_option maxRecDepth 100000 in
theorem km_1603 : Cond.fieldLink rr_Mo 214 "PathQueriesModel" "answers" "[I" ∈ zT := zm 1603 (by decide +kernel) (by decide +kernel)
set_option maxRecDepth 100000 in
theorem km_1604 : Cond.fieldLink rr_Mo 217 "PathQueriesModel" "answerCounts" "[I" ∈ zT := zm 1604 (by decide +kernel) (by decide +kernel)
set_option maxRecDepth 100000 in
theorem km_1605 : Cond.fieldLink rr_Mo 220 "PathQueriesModel" "answerItems" "[I" ∈ zT := zm 1605 (by decide +kernel) (by decide +kernel)
set_option maxRecDepth 100000 in
theorem km_1606 : Cond.fieldLink rr_Mo 223 "PathQueriesModel" "fresh" "[Z" ∈ zT := zm 1606 (by decide +kernel) (by decide +kernel)
set_option maxRecDepth 100000 in
theorem km_1607 : Cond.fieldLink rr_Mo 226 "PathQueriesModel" "keyItems" "[I" ∈ zT := zm 1607 (by decide +kernel) (by decide +kernel)
set_option maxRecDepth 100000 in
theorem km_1608 : Cond.fieldLink rr_Mo 512 "PathQueriesModel" "keys" "I" ∈ zT := zm 1608 (by decide +kernel) (by decide +kernel)
set_option maxRecDepth 100000 in
theorem km_1609 : Cond.fieldLink rr_Mo 229 "PathQueriesModel" "spare" "[I" ∈ zT := zm 1609 (by decide +kernel) (by decide +kernel)
set_option maxRecDepth 100000 in
theorem km_1610 : Cond.fieldLink rr_Mo 232 "PathQueriesModel" "wayBacks" "[Z" ∈ zT := zm 1610 (by decide +kernel) (by decide +kernel)
set_option maxRecDepth 100000 in
theorem km_1792 : Cond.arrayClass .boolean ∈ zT := zm 1792 (by decide +kernel) (by decide +kernel)
set_option maxRecDepth 100000 in
theorem km_1797 : Cond.methodLink rr_Mo 533 yy_Mo_feedOne ∈ zT := zm 1797 (by decide +kernel) (by decide +kernel)
set_option maxRecDepth 100000 in
theorem km_1799 : Cond.instanceMethod yy_Mo_feedOne ∈ zT := zm 1799 (by decide +kernel) (by decide +kernel)
set_option maxRecDepth 100000 in
theorem km_1800 : Cond.code yy_Mo_feedOne bb_Mo_feedOne 3 none ∈ zT := zm 1800 (by decide +kernel) (by decide +kernel)
set_option maxRecDepth 100000 in
theorem km_1809 : Cond.methodLink rr_Mo 536 yy_Mo_isIn ∈ zT := zm 1809 (by decide +kernel) (by decide +kernel)
set_option maxRecDepth 100000 in
theorem km_1810 : Cond.static yy_Mo_isIn ∈ zT := zm 1810 (by decide +kernel) (by decide +kernel)
set_option maxRecDepth 100000 in
theorem km_1811 : Cond.code yy_Mo_isIn bb_Mo_isIn 2 (some (.boolean)) ∈ zT := zm 1811 (by decide +kernel) (by decide +kernel)
set_option maxRecDepth 100000 in
theorem km_1812 : Cond.methodLink rr_Mo 540 yy_Mo_changed ∈ zT := zm 1812 (by decide +kernel) (by decide +kernel)
set_option maxRecDepth 100000 in
theorem km_1814 : Cond.instanceMethod yy_Mo_changed ∈ zT := zm 1814 (by decide +kernel) (by decide +kernel)
set_option maxRecDepth 100000 in
theorem km_1815 : Cond.code yy_Mo_changed bb_Mo_changed 2 none ∈ zT := zm 1815 (by decide +kernel) (by decide +kernel)
set_option maxRecDepth 100000 in
theorem km_1836 : Cond.methodLink rr_Mo 546 yy_Mo_ruleCount ∈ zT := zm 1836 (by decide +kernel) (by decide +kernel)
set_option maxRecDepth 100000 in
theorem km_1838 : Cond.instanceMethod yy_Mo_ruleCount ∈ zT := zm 1838 (by decide +kernel) (by decide +kernel)
set_option maxRecDepth 100000 in
theorem km_1839 : Cond.code yy_Mo_ruleCount bb_Mo_ruleCount 3 (some (.int)) ∈ zT := zm 1839 (by decide +kernel) (by decide +kernel)
set_option maxRecDepth 100000 in
theorem km_1848 : Cond.methodLink rr_Mo 549 yy_Mo_readQuestion ∈ zT := zm 1848 (by decide +kernel) (by decide +kernel)
set_option maxRecDepth 100000 in
theorem km_1850 : Cond.instanceMethod yy_Mo_readQuestion ∈ zT := zm 1850 (by decide +kernel) (by decide +kernel)
set_option maxRecDepth 100000 in
theorem km_1851 : Cond.code yy_Mo_readQuestion bb_Mo_readQuestion 1 (some (.int)) ∈ zT := zm 1851 (by decide +kernel) (by decide +kernel)
set_option maxRecDepth 100000 in
theorem km_1852 : Cond.methodLink rr_Mo 435 yy_Mo_begin ∈ zT := zm 1852 (by decide +kernel) (by decide +kernel)
set_option maxRecDepth 100000 in
theorem km_1854 : Cond.instanceMethod yy_Mo_begin ∈ zT := zm 1854 (by decide +kernel) (by decide +kernel)
set_option maxRecDepth 100000 in
theorem km_1855 : Cond.code yy_Mo_begin bb_Mo_begin 2 none ∈ zT := zm 1855 (by decide +kernel) (by decide +kernel)
set_option maxRecDepth 100000 in
theorem km_1856 : Cond.methodLink rr_Mo 429 yy_Mo_cutTokens ∈ zT := zm 1856 (by decide +kernel) (by decide +kernel)
set_option maxRecDepth 100000 in
theorem km_1858 : Cond.instanceMethod yy_Mo_cutTokens ∈ zT := zm 1858 (by decide +kernel) (by decide +kernel)
set_option maxRecDepth 100000 in
theorem km_1859 : Cond.code yy_Mo_cutTokens bb_Mo_cutTokens 5 none ∈ zT := zm 1859 (by decide +kernel) (by decide +kernel)
set_option maxRecDepth 100000 in
theorem km_1860 : Cond.methodLink rr_Mo 280 yy_Mo_at ∈ zT := zm 1860 (by decide +kernel) (by decide +kernel)
set_option maxRecDepth 100000 in
theorem km_1862 : Cond.instanceMethod yy_Mo_at ∈ zT := zm 1862 (by decide +kernel) (by decide +kernel)
set_option maxRecDepth 100000 in
theorem km_1863 : Cond.code yy_Mo_at bb_Mo_at 3 (some (.int)) ∈ zT := zm 1863 (by decide +kernel) (by decide +kernel)
set_option maxRecDepth 100000 in
theorem km_1864 : Cond.methodLink rr_Mo 284 yy_Mo_isWordByte ∈ zT := zm 1864 (by decide +kernel) (by decide +kernel)
set_option maxRecDepth 100000 in
theorem km_1865 : Cond.static yy_Mo_isWordByte ∈ zT := zm 1865 (by decide +kernel) (by decide +kernel)
set_option maxRecDepth 100000 in
theorem km_1866 : Cond.code yy_Mo_isWordByte bb_Mo_isWordByte 1 (some (.boolean)) ∈ zT := zm 1866 (by decide +kernel) (by decide +kernel)
set_option maxRecDepth 100000 in
theorem km_1867 : Cond.methodLink rr_Mo 235 yy_Mo_isSmall ∈ zT := zm 1867 (by decide +kernel) (by decide +kernel)
set_option maxRecDepth 100000 in
theorem km_1868 : Cond.static yy_Mo_isSmall ∈ zT := zm 1868 (by decide +kernel) (by decide +kernel)
set_option maxRecDepth 100000 in
theorem km_1869 : Cond.code yy_Mo_isSmall bb_Mo_isSmall 1 (some (.boolean)) ∈ zT := zm 1869 (by decide +kernel) (by decide +kernel)
set_option maxRecDepth 100000 in
theorem km_1870 : Cond.methodLink rr_Mo 239 yy_Mo_isDigit ∈ zT := zm 1870 (by decide +kernel) (by decide +kernel)
set_option maxRecDepth 100000 in
theorem km_1871 : Cond.static yy_Mo_isDigit ∈ zT := zm 1871 (by decide +kernel) (by decide +kernel)
set_option maxRecDepth 100000 in
theorem km_1872 : Cond.code yy_Mo_isDigit bb_Mo_isDigit 1 (some (.boolean)) ∈ zT := zm 1872 (by decide +kernel) (by decide +kernel)
set_option maxRecDepth 100000 in
theorem km_1873 : Cond.methodLink rr_Mo 287 yy_Mo_wordToken ∈ zT := zm 1873 (by decide +kernel) (by decide +kernel)
set_option maxRecDepth 100000 in
theorem km_1875 : Cond.instanceMethod yy_Mo_wordToken ∈ zT := zm 1875 (by decide +kernel) (by decide +kernel)
set_option maxRecDepth 100000 in
theorem km_1876 : Cond.code yy_Mo_wordToken bb_Mo_wordToken 8 none ∈ zT := zm 1876 (by decide +kernel) (by decide +kernel)
set_option maxRecDepth 100000 in
theorem km_1877 : Cond.methodLink rr_Mo 245 yy_Mo_isVariable ∈ zT := zm 1877 (by decide +kernel) (by decide +kernel)
set_option maxRecDepth 100000 in
theorem km_1878 : Cond.static yy_Mo_isVariable ∈ zT := zm 1878 (by decide +kernel) (by decide +kernel)
set_option maxRecDepth 100000 in
theorem km_1879 : Cond.code yy_Mo_isVariable bb_Mo_isVariable 1 (some (.boolean)) ∈ zT := zm 1879 (by decide +kernel) (by decide +kernel)
set_option maxRecDepth 100000 in
theorem km_1880 : Cond.methodLink rr_Mo 248 yy_Mo_wordKind ∈ zT := zm 1880 (by decide +kernel) (by decide +kernel)
set_option maxRecDepth 100000 in
theorem km_1881 : Cond.static yy_Mo_wordKind ∈ zT := zm 1881 (by decide +kernel) (by decide +kernel)
set_option maxRecDepth 100000 in
theorem km_1882 : Cond.code yy_Mo_wordKind bb_Mo_wordKind 2 (some (.int)) ∈ zT := zm 1882 (by decide +kernel) (by decide +kernel)
set_option maxRecDepth 100000 in
theorem km_1883 : Cond.constantLong rr_Mo 252 469786452840 ∈ zT := zm 1883 (by decide +kernel) (by decide +kernel)
set_option maxRecDepth 100000 in
theorem km_1884 : Cond.constantLong rr_Mo 254 512852587109 ∈ zT := zm 1884 (by decide +kernel) (by decide +kernel)
set_option maxRecDepth 100000 in
theorem km_1885 : Cond.constantLong rr_Mo 256 1734964837 ∈ zT := zm 1885 (by decide +kernel) (by decide +kernel)
set_option maxRecDepth 100000 in
theorem km_1886 : Cond.constantLong rr_Mo 258 465625246068 ∈ zT := zm 1886 (by decide +kernel) (by decide +kernel)
set_option maxRecDepth 100000 in
theorem km_1887 : Cond.constantLong rr_Mo 260 6385252 ∈ zT := zm 1887 (by decide +kernel) (by decide +kernel)
set_option maxRecDepth 100000 in
theorem km_1888 : Cond.constantLong rr_Mo 262 28530 ∈ zT := zm 1888 (by decide +kernel) (by decide +kernel)
set_option maxRecDepth 100000 in
theorem km_1889 : Cond.constantLong rr_Mo 264 7237492 ∈ zT := zm 1889 (by decide +kernel) (by decide +kernel)
set_option maxRecDepth 100000 in
theorem km_1890 : Cond.constantLong rr_Mo 266 28271 ∈ zT := zm 1890 (by decide +kernel) (by decide +kernel)
set_option maxRecDepth 100000 in
theorem km_1891 : Cond.constantLong rr_Mo 268 465557353332 ∈ zT := zm 1891 (by decide +kernel) (by decide +kernel)
set_option maxRecDepth 100000 in
theorem km_1892 : Cond.constantLong rr_Mo 270 427071729268 ∈ zT := zm 1892 (by decide +kernel) (by decide +kernel)
set_option maxRecDepth 100000 in
theorem km_1893 : Cond.constantLong rr_Mo 272 7566701 ∈ zT := zm 1893 (by decide +kernel) (by decide +kernel)
set_option maxRecDepth 100000 in
theorem km_1894 : Cond.constantLong rr_Mo 274 7170414 ∈ zT := zm 1894 (by decide +kernel) (by decide +kernel)
set_option maxRecDepth 100000 in
theorem km_1895 : Cond.constantLong rr_Mo 276 7168376 ∈ zT := zm 1895 (by decide +kernel) (by decide +kernel)
set_option maxRecDepth 100000 in
theorem km_1896 : Cond.constantLong rr_Mo 278 1920298085 ∈ zT := zm 1896 (by decide +kernel) (by decide +kernel)
set_option maxRecDepth 100000 in
theorem km_1897 : Cond.methodLink rr_Mo 291 yy_Mo_signKind ∈ zT := zm 1897 (by decide +kernel) (by decide +kernel)
set_option maxRecDepth 100000 in
theorem km_1898 : Cond.static yy_Mo_signKind ∈ zT := zm 1898 (by decide +kernel) (by decide +kernel)
set_option maxRecDepth 100000 in
theorem km_1899 : Cond.code yy_Mo_signKind bb_Mo_signKind 2 (some (.int)) ∈ zT := zm 1899 (by decide +kernel) (by decide +kernel)
set_option maxRecDepth 100000 in
theorem km_1900 : Cond.methodLink rr_Mo 438 yy_Mo_patterns ∈ zT := zm 1900 (by decide +kernel) (by decide +kernel)
set_option maxRecDepth 100000 in
theorem km_1902 : Cond.instanceMethod yy_Mo_patterns ∈ zT := zm 1902 (by decide +kernel) (by decide +kernel)
set_option maxRecDepth 100000 in
theorem km_1903 : Cond.code yy_Mo_patterns bb_Mo_patterns 1 none ∈ zT := zm 1903 (by decide +kernel) (by decide +kernel)
set_option maxRecDepth 100000 in
theorem km_1904 : Cond.methodLink rr_Mo 334 yy_Mo_need ∈ zT := zm 1904 (by decide +kernel) (by decide +kernel)
set_option maxRecDepth 100000 in
theorem km_1906 : Cond.instanceMethod yy_Mo_need ∈ zT := zm 1906 (by decide +kernel) (by decide +kernel)
set_option maxRecDepth 100000 in
theorem km_1907 : Cond.code yy_Mo_need bb_Mo_need 2 none ∈ zT := zm 1907 (by decide +kernel) (by decide +kernel)
set_option maxRecDepth 100000 in
theorem km_1908 : Cond.methodLink rr_Mo 316 yy_Mo_takes ∈ zT := zm 1908 (by decide +kernel) (by decide +kernel)
set_option maxRecDepth 100000 in
theorem km_1910 : Cond.instanceMethod yy_Mo_takes ∈ zT := zm 1910 (by decide +kernel) (by decide +kernel)
set_option maxRecDepth 100000 in
theorem km_1911 : Cond.code yy_Mo_takes bb_Mo_takes 2 (some (.boolean)) ∈ zT := zm 1911 (by decide +kernel) (by decide +kernel)
set_option maxRecDepth 100000 in
theorem km_1912 : Cond.methodLink rr_Mo 306 yy_Mo_kind ∈ zT := zm 1912 (by decide +kernel) (by decide +kernel)
set_option maxRecDepth 100000 in
theorem km_1914 : Cond.instanceMethod yy_Mo_kind ∈ zT := zm 1914 (by decide +kernel) (by decide +kernel)
set_option maxRecDepth 100000 in
theorem km_1915 : Cond.code yy_Mo_kind bb_Mo_kind 1 (some (.int)) ∈ zT := zm 1915 (by decide +kernel) (by decide +kernel)
set_option maxRecDepth 100000 in
theorem km_1916 : Cond.methodLink rr_Mo 303 yy_Mo_refuse ∈ zT := zm 1916 (by decide +kernel) (by decide +kernel)
set_option maxRecDepth 100000 in
theorem km_1918 : Cond.instanceMethod yy_Mo_refuse ∈ zT := zm 1918 (by decide +kernel) (by decide +kernel)
set_option maxRecDepth 100000 in
theorem km_1919 : Cond.code yy_Mo_refuse bb_Mo_refuse 3 none ∈ zT := zm 1919 (by decide +kernel) (by decide +kernel)
set_option maxRecDepth 100000 in
theorem km_1920 : Cond.methodLink rr_Mo 313 yy_Mo_pass ∈ zT := zm 1920 (by decide +kernel) (by decide +kernel)
set_option maxRecDepth 100000 in
theorem km_1922 : Cond.instanceMethod yy_Mo_pass ∈ zT := zm 1922 (by decide +kernel) (by decide +kernel)
set_option maxRecDepth 100000 in
theorem km_1923 : Cond.code yy_Mo_pass bb_Mo_pass 1 none ∈ zT := zm 1923 (by decide +kernel) (by decide +kernel)
set_option maxRecDepth 100000 in
theorem km_1924 : Cond.methodLink rr_Mo 310 yy_Mo_stands ∈ zT := zm 1924 (by decide +kernel) (by decide +kernel)
set_option maxRecDepth 100000 in
theorem km_1926 : Cond.instanceMethod yy_Mo_stands ∈ zT := zm 1926 (by decide +kernel) (by decide +kernel)
set_option maxRecDepth 100000 in
theorem km_1927 : Cond.code yy_Mo_stands bb_Mo_stands 1 none ∈ zT := zm 1927 (by decide +kernel) (by decide +kernel)
set_option maxRecDepth 100000 in
theorem km_1928 : Cond.methodLink rr_Mo 319 yy_Mo_wrong ∈ zT := zm 1928 (by decide +kernel) (by decide +kernel)
set_option maxRecDepth 100000 in
theorem km_1930 : Cond.instanceMethod yy_Mo_wrong ∈ zT := zm 1930 (by decide +kernel) (by decide +kernel)
set_option maxRecDepth 100000 in
theorem km_1931 : Cond.code yy_Mo_wrong bb_Mo_wrong 1 none ∈ zT := zm 1931 (by decide +kernel) (by decide +kernel)
set_option maxRecDepth 100000 in
theorem km_1932 : Cond.methodLink rr_Mo 420 yy_Mo_pattern ∈ zT := zm 1932 (by decide +kernel) (by decide +kernel)
set_option maxRecDepth 100000 in
theorem km_1934 : Cond.instanceMethod yy_Mo_pattern ∈ zT := zm 1934 (by decide +kernel) (by decide +kernel)
set_option maxRecDepth 100000 in
theorem km_1935 : Cond.code yy_Mo_pattern bb_Mo_pattern 2 none ∈ zT := zm 1935 (by decide +kernel) (by decide +kernel)
set_option maxRecDepth 100000 in
theorem km_1936 : Cond.methodLink rr_Mo 351 yy_Mo_nodeOf ∈ zT := zm 1936 (by decide +kernel) (by decide +kernel)
set_option maxRecDepth 100000 in
theorem km_1938 : Cond.instanceMethod yy_Mo_nodeOf ∈ zT := zm 1938 (by decide +kernel) (by decide +kernel)
set_option maxRecDepth 100000 in
theorem km_1939 : Cond.code yy_Mo_nodeOf bb_Mo_nodeOf 4 (some (.int)) ∈ zT := zm 1939 (by decide +kernel) (by decide +kernel)
set_option maxRecDepth 100000 in
theorem km_1940 : Cond.methodLink rr_Mo 338 yy_Mo_meaning ∈ zT := zm 1940 (by decide +kernel) (by decide +kernel)
set_option maxRecDepth 100000 in
theorem km_1942 : Cond.instanceMethod yy_Mo_meaning ∈ zT := zm 1942 (by decide +kernel) (by decide +kernel)
set_option maxRecDepth 100000 in
theorem km_1943 : Cond.code yy_Mo_meaning bb_Mo_meaning 2 (some (.int)) ∈ zT := zm 1943 (by decide +kernel) (by decide +kernel)
set_option maxRecDepth 100000 in
theorem km_1944 : Cond.methodLink rr_Mo 342 yy_Mo_oneMore ∈ zT := zm 1944 (by decide +kernel) (by decide +kernel)
set_option maxRecDepth 100000 in
theorem km_1946 : Cond.instanceMethod yy_Mo_oneMore ∈ zT := zm 1946 (by decide +kernel) (by decide +kernel)
set_option maxRecDepth 100000 in
theorem km_1947 : Cond.code yy_Mo_oneMore bb_Mo_oneMore 2 (some (.boolean)) ∈ zT := zm 1947 (by decide +kernel) (by decide +kernel)
set_option maxRecDepth 100000 in
theorem km_1948 : Cond.methodLink rr_Mo 345 yy_Mo_newSlot ∈ zT := zm 1948 (by decide +kernel) (by decide +kernel)
set_option maxRecDepth 100000 in
theorem km_1950 : Cond.instanceMethod yy_Mo_newSlot ∈ zT := zm 1950 (by decide +kernel) (by decide +kernel)
set_option maxRecDepth 100000 in
theorem km_1951 : Cond.code yy_Mo_newSlot bb_Mo_newSlot 2 (some (.int)) ∈ zT := zm 1951 (by decide +kernel) (by decide +kernel)
set_option maxRecDepth 100000 in
theorem km_1952 : Cond.methodLink rr_Mo 348 yy_Mo_learn ∈ zT := zm 1952 (by decide +kernel) (by decide +kernel)
set_option maxRecDepth 100000 in
theorem km_1954 : Cond.instanceMethod yy_Mo_learn ∈ zT := zm 1954 (by decide +kernel) (by decide +kernel)
set_option maxRecDepth 100000 in
theorem km_1955 : Cond.code yy_Mo_learn bb_Mo_learn 3 none ∈ zT := zm 1955 (by decide +kernel) (by decide +kernel)
set_option maxRecDepth 100000 in
theorem km_1956 : Cond.methodLink rr_Mo 354 yy_Mo_way ∈ zT := zm 1956 (by decide +kernel) (by decide +kernel)
set_option maxRecDepth 100000 in
theorem km_1958 : Cond.instanceMethod yy_Mo_way ∈ zT := zm 1958 (by decide +kernel) (by decide +kernel)
set_option maxRecDepth 100000 in
theorem km_1959 : Cond.code yy_Mo_way bb_Mo_way 6 (some (.int)) ∈ zT := zm 1959 (by decide +kernel) (by decide +kernel)
set_option maxRecDepth 100000 in
theorem km_1960 : Cond.methodLink rr_Mo 357 yy_Mo_rows ∈ zT := zm 1960 (by decide +kernel) (by decide +kernel)
set_option maxRecDepth 100000 in
theorem km_1962 : Cond.instanceMethod yy_Mo_rows ∈ zT := zm 1962 (by decide +kernel) (by decide +kernel)
set_option maxRecDepth 100000 in
theorem km_1963 : Cond.code yy_Mo_rows bb_Mo_rows 5 none ∈ zT := zm 1963 (by decide +kernel) (by decide +kernel)
set_option maxRecDepth 100000 in
theorem km_1964 : Cond.methodLink rr_Mo 370 yy_Mo_open ∈ zT := zm 1964 (by decide +kernel) (by decide +kernel)
set_option maxRecDepth 100000 in
theorem km_1966 : Cond.instanceMethod yy_Mo_open ∈ zT := zm 1966 (by decide +kernel) (by decide +kernel)
set_option maxRecDepth 100000 in
theorem km_1967 : Cond.code yy_Mo_open bb_Mo_open 1 none ∈ zT := zm 1967 (by decide +kernel) (by decide +kernel)
set_option maxRecDepth 100000 in
theorem km_1968 : Cond.methodLink rr_Mo 363 yy_Mo_beginRow ∈ zT := zm 1968 (by decide +kernel) (by decide +kernel)
set_option maxRecDepth 100000 in
theorem km_1970 : Cond.instanceMethod yy_Mo_beginRow ∈ zT := zm 1970 (by decide +kernel) (by decide +kernel)
set_option maxRecDepth 100000 in
theorem km_1971 : Cond.code yy_Mo_beginRow bb_Mo_beginRow 2 none ∈ zT := zm 1971 (by decide +kernel) (by decide +kernel)
set_option maxRecDepth 100000 in
theorem km_1972 : Cond.methodLink rr_Mo 373 yy_Mo_within ∈ zT := zm 1972 (by decide +kernel) (by decide +kernel)
set_option maxRecDepth 100000 in
theorem km_1974 : Cond.instanceMethod yy_Mo_within ∈ zT := zm 1974 (by decide +kernel) (by decide +kernel)
set_option maxRecDepth 100000 in
theorem km_1975 : Cond.code yy_Mo_within bb_Mo_within 1 none ∈ zT := zm 1975 (by decide +kernel) (by decide +kernel)
set_option maxRecDepth 100000 in
theorem km_1976 : Cond.methodLink rr_Mo 376 yy_Mo_single ∈ zT := zm 1976 (by decide +kernel) (by decide +kernel)
set_option maxRecDepth 100000 in
theorem km_1978 : Cond.instanceMethod yy_Mo_single ∈ zT := zm 1978 (by decide +kernel) (by decide +kernel)
set_option maxRecDepth 100000 in
theorem km_1979 : Cond.code yy_Mo_single bb_Mo_single 5 none ∈ zT := zm 1979 (by decide +kernel) (by decide +kernel)
set_option maxRecDepth 100000 in
theorem km_1980 : Cond.methodLink rr_Mo 382 yy_Mo_step ∈ zT := zm 1980 (by decide +kernel) (by decide +kernel)
set_option maxRecDepth 100000 in
theorem km_1982 : Cond.instanceMethod yy_Mo_step ∈ zT := zm 1982 (by decide +kernel) (by decide +kernel)
set_option maxRecDepth 100000 in
theorem km_1983 : Cond.code yy_Mo_step bb_Mo_step 7 none ∈ zT := zm 1983 (by decide +kernel) (by decide +kernel)
set_option maxRecDepth 100000 in
theorem km_1984 : Cond.methodLink rr_Mo 366 yy_Mo_link ∈ zT := zm 1984 (by decide +kernel) (by decide +kernel)
set_option maxRecDepth 100000 in
theorem km_1986 : Cond.instanceMethod yy_Mo_link ∈ zT := zm 1986 (by decide +kernel) (by decide +kernel)
set_option maxRecDepth 100000 in
theorem km_1987 : Cond.code yy_Mo_link bb_Mo_link 5 none ∈ zT := zm 1987 (by decide +kernel) (by decide +kernel)
set_option maxRecDepth 100000 in
theorem km_1988 : Cond.methodLink rr_Mo 379 yy_Mo_endRow ∈ zT := zm 1988 (by decide +kernel) (by decide +kernel)
set_option maxRecDepth 100000 in
theorem km_1990 : Cond.instanceMethod yy_Mo_endRow ∈ zT := zm 1990 (by decide +kernel) (by decide +kernel)
set_option maxRecDepth 100000 in
theorem km_1991 : Cond.code yy_Mo_endRow bb_Mo_endRow 2 none ∈ zT := zm 1991 (by decide +kernel) (by decide +kernel)
set_option maxRecDepth 100000 in
theorem km_1992 : Cond.methodLink rr_Mo 432 yy_Mo_parse ∈ zT := zm 1992 (by decide +kernel) (by decide +kernel)
set_option maxRecDepth 100000 in
theorem km_1994 : Cond.instanceMethod yy_Mo_parse ∈ zT := zm 1994 (by decide +kernel) (by decide +kernel)
set_option maxRecDepth 100000 in
theorem km_1995 : Cond.code yy_Mo_parse bb_Mo_parse 3 none ∈ zT := zm 1995 (by decide +kernel) (by decide +kernel)
set_option maxRecDepth 100000 in
theorem km_1996 : Cond.methodLink rr_Mo 392 yy_Mo_frame ∈ zT := zm 1996 (by decide +kernel) (by decide +kernel)
set_option maxRecDepth 100000 in
theorem km_1998 : Cond.instanceMethod yy_Mo_frame ∈ zT := zm 1998 (by decide +kernel) (by decide +kernel)
set_option maxRecDepth 100000 in
theorem km_1999 : Cond.code yy_Mo_frame bb_Mo_frame 2 none ∈ zT := zm 1999 (by decide +kernel) (by decide +kernel)
set_option maxRecDepth 100000 in
theorem km_2000 : Cond.methodLink rr_Mo 395 yy_Mo_joined ∈ zT := zm 2000 (by decide +kernel) (by decide +kernel)
set_option maxRecDepth 100000 in
theorem km_2002 : Cond.instanceMethod yy_Mo_joined ∈ zT := zm 2002 (by decide +kernel) (by decide +kernel)
set_option maxRecDepth 100000 in
theorem km_2003 : Cond.code yy_Mo_joined bb_Mo_joined 5 none ∈ zT := zm 2003 (by decide +kernel) (by decide +kernel)
set_option maxRecDepth 100000 in
theorem km_2004 : Cond.methodLink rr_Mo 408 yy_Mo_code ∈ zT := zm 2004 (by decide +kernel) (by decide +kernel)
set_option maxRecDepth 100000 in
theorem km_2006 : Cond.instanceMethod yy_Mo_code ∈ zT := zm 2006 (by decide +kernel) (by decide +kernel)
set_option maxRecDepth 100000 in
theorem km_2007 : Cond.code yy_Mo_code bb_Mo_code 3 none ∈ zT := zm 2007 (by decide +kernel) (by decide +kernel)
set_option maxRecDepth 100000 in
theorem km_2008 : Cond.methodLink rr_Mo 399 yy_Mo_fact ∈ zT := zm 2008 (by decide +kernel) (by decide +kernel)
set_option maxRecDepth 100000 in
theorem km_2010 : Cond.instanceMethod yy_Mo_fact ∈ zT := zm 2010 (by decide +kernel) (by decide +kernel)
set_option maxRecDepth 100000 in
theorem km_2011 : Cond.code yy_Mo_fact bb_Mo_fact 2 none ∈ zT := zm 2011 (by decide +kernel) (by decide +kernel)
set_option maxRecDepth 100000 in
theorem km_2012 : Cond.methodLink rr_Mo 411 yy_Mo_factBegins ∈ zT := zm 2012 (by decide +kernel) (by decide +kernel)
set_option maxRecDepth 100000 in
theorem km_2014 : Cond.instanceMethod yy_Mo_factBegins ∈ zT := zm 2014 (by decide +kernel) (by decide +kernel)
set_option maxRecDepth 100000 in
theorem km_2015 : Cond.code yy_Mo_factBegins bb_Mo_factBegins 2 none ∈ zT := zm 2015 (by decide +kernel) (by decide +kernel)
set_option maxRecDepth 100000 in
theorem km_2016 : Cond.methodLink rr_Mo 417 yy_Mo_without ∈ zT := zm 2016 (by decide +kernel) (by decide +kernel)
set_option maxRecDepth 100000 in
theorem km_2018 : Cond.instanceMethod yy_Mo_without ∈ zT := zm 2018 (by decide +kernel) (by decide +kernel)
set_option maxRecDepth 100000 in
theorem km_2019 : Cond.code yy_Mo_without bb_Mo_without 2 none ∈ zT := zm 2019 (by decide +kernel) (by decide +kernel)
set_option maxRecDepth 100000 in
theorem km_2020 : Cond.methodLink rr_Mo 414 yy_Mo_relation ∈ zT := zm 2020 (by decide +kernel) (by decide +kernel)
set_option maxRecDepth 100000 in
theorem km_2021 : Cond.static yy_Mo_relation ∈ zT := zm 2021 (by decide +kernel) (by decide +kernel)
set_option maxRecDepth 100000 in
theorem km_2022 : Cond.code yy_Mo_relation bb_Mo_relation 1 (some (.int)) ∈ zT := zm 2022 (by decide +kernel) (by decide +kernel)
set_option maxRecDepth 100000 in
theorem km_2023 : Cond.methodLink rr_Mo 402 yy_Mo_reckoned ∈ zT := zm 2023 (by decide +kernel) (by decide +kernel)
set_option maxRecDepth 100000 in
theorem km_2025 : Cond.instanceMethod yy_Mo_reckoned ∈ zT := zm 2025 (by decide +kernel) (by decide +kernel)
set_option maxRecDepth 100000 in
theorem km_2026 : Cond.code yy_Mo_reckoned bb_Mo_reckoned 5 none ∈ zT := zm 2026 (by decide +kernel) (by decide +kernel)
set_option maxRecDepth 100000 in
theorem km_2027 : Cond.methodLink rr_Mo 405 yy_Mo_unit ∈ zT := zm 2027 (by decide +kernel) (by decide +kernel)
set_option maxRecDepth 100000 in
theorem km_2029 : Cond.instanceMethod yy_Mo_unit ∈ zT := zm 2029 (by decide +kernel) (by decide +kernel)
set_option maxRecDepth 100000 in
theorem km_2030 : Cond.code yy_Mo_unit bb_Mo_unit 2 none ∈ zT := zm 2030 (by decide +kernel) (by decide +kernel)
set_option maxRecDepth 100000 in
theorem km_2031 : Cond.methodLink rr_Mo 423 yy_Mo_variable ∈ zT := zm 2031 (by decide +kernel) (by decide +kernel)
set_option maxRecDepth 100000 in
theorem km_2033 : Cond.instanceMethod yy_Mo_variable ∈ zT := zm 2033 (by decide +kernel) (by decide +kernel)
set_option maxRecDepth 100000 in
theorem km_2034 : Cond.code yy_Mo_variable bb_Mo_variable 2 none ∈ zT := zm 2034 (by decide +kernel) (by decide +kernel)
set_option maxRecDepth 100000 in
theorem km_2035 : Cond.methodLink rr_Mo 441 yy_Mo_item ∈ zT := zm 2035 (by decide +kernel) (by decide +kernel)
set_option maxRecDepth 100000 in
theorem km_2037 : Cond.instanceMethod yy_Mo_item ∈ zT := zm 2037 (by decide +kernel) (by decide +kernel)
set_option maxRecDepth 100000 in
theorem km_2038 : Cond.code yy_Mo_item bb_Mo_item 3 none ∈ zT := zm 2038 (by decide +kernel) (by decide +kernel)
set_option maxRecDepth 100000 in
theorem km_2039 : Cond.methodLink rr_Mo 444 yy_Mo_ended ∈ zT := zm 2039 (by decide +kernel) (by decide +kernel)
set_option maxRecDepth 100000 in
theorem km_2041 : Cond.instanceMethod yy_Mo_ended ∈ zT := zm 2041 (by decide +kernel) (by decide +kernel)
set_option maxRecDepth 100000 in
theorem km_2042 : Cond.code yy_Mo_ended bb_Mo_ended 2 (some (.int)) ∈ zT := zm 2042 (by decide +kernel) (by decide +kernel)
set_option maxRecDepth 100000 in
theorem km_2043 : Cond.methodLink rr_Mo 552 yy_Mo_settle ∈ zT := zm 2043 (by decide +kernel) (by decide +kernel)
set_option maxRecDepth 100000 in
theorem km_2045 : Cond.instanceMethod yy_Mo_settle ∈ zT := zm 2045 (by decide +kernel) (by decide +kernel)
set_option maxRecDepth 100000 in
theorem km_2046 : Cond.code yy_Mo_settle bb_Mo_settle 2 none ∈ zT := zm 2046 (by decide +kernel) (by decide +kernel)
set_option maxRecDepth 100000 in
theorem km_2051 : Cond.methodLink rr_Mo 555 yy_Mo_readRule ∈ zT := zm 2051 (by decide +kernel) (by decide +kernel)
set_option maxRecDepth 100000 in
theorem km_2053 : Cond.instanceMethod yy_Mo_readRule ∈ zT := zm 2053 (by decide +kernel) (by decide +kernel)
set_option maxRecDepth 100000 in
theorem km_2054 : Cond.code yy_Mo_readRule bb_Mo_readRule 2 (some (.int)) ∈ zT := zm 2054 (by decide +kernel) (by decide +kernel)
set_option maxRecDepth 100000 in
theorem km_2055 : Cond.methodLink rr_Mo 447 yy_Mo_endOf ∈ zT := zm 2055 (by decide +kernel) (by decide +kernel)
set_option maxRecDepth 100000 in
theorem km_2057 : Cond.instanceMethod yy_Mo_endOf ∈ zT := zm 2057 (by decide +kernel) (by decide +kernel)
set_option maxRecDepth 100000 in
theorem km_2058 : Cond.code yy_Mo_endOf bb_Mo_endOf 2 (some (.int)) ∈ zT := zm 2058 (by decide +kernel) (by decide +kernel)
set_option maxRecDepth 100000 in
theorem km_2071 : Cond.methodLink rr_Mo 558 yy_Mo_workRules ∈ zT := zm 2071 (by decide +kernel) (by decide +kernel)
set_option maxRecDepth 100000 in
theorem km_2073 : Cond.instanceMethod yy_Mo_workRules ∈ zT := zm 2073 (by decide +kernel) (by decide +kernel)
set_option maxRecDepth 100000 in
theorem km_2074 : Cond.code yy_Mo_workRules bb_Mo_workRules 6 none ∈ zT := zm 2074 (by decide +kernel) (by decide +kernel)
set_option maxRecDepth 100000 in
theorem km_2075 : Cond.methodLink rr_Mo 491 yy_Mo_workOf ∈ zT := zm 2075 (by decide +kernel) (by decide +kernel)
set_option maxRecDepth 100000 in
theorem km_2077 : Cond.instanceMethod yy_Mo_workOf ∈ zT := zm 2077 (by decide +kernel) (by decide +kernel)
set_option maxRecDepth 100000 in
theorem km_2078 : Cond.code yy_Mo_workOf bb_Mo_workOf 5 (some (.long)) ∈ zT := zm 2078 (by decide +kernel) (by decide +kernel)
set_option maxRecDepth 100000 in
theorem km_2079 : Cond.constantLong rr_Mo 495 20000 ∈ zT := zm 2079 (by decide +kernel) (by decide +kernel)
set_option maxRecDepth 100000 in
theorem km_2080 : Cond.constantLong rr_Mo 497 1000000 ∈ zT := zm 2080 (by decide +kernel) (by decide +kernel)
set_option maxRecDepth 100000 in
theorem km_2081 : Cond.methodLink rr_Mo 499 yy_Mo_round ∈ zT := zm 2081 (by decide +kernel) (by decide +kernel)
set_option maxRecDepth 100000 in
theorem km_2083 : Cond.instanceMethod yy_Mo_round ∈ zT := zm 2083 (by decide +kernel) (by decide +kernel)
set_option maxRecDepth 100000 in
theorem km_2084 : Cond.code yy_Mo_round bb_Mo_round 3 (some (.boolean)) ∈ zT := zm 2084 (by decide +kernel) (by decide +kernel)
set_option maxRecDepth 100000 in
theorem km_2085 : Cond.methodLink rr_Mo 503 yy_Mo_measureAll ∈ zT := zm 2085 (by decide +kernel) (by decide +kernel)
set_option maxRecDepth 100000 in
theorem km_2087 : Cond.instanceMethod yy_Mo_measureAll ∈ zT := zm 2087 (by decide +kernel) (by decide +kernel)
set_option maxRecDepth 100000 in
theorem km_2088 : Cond.code yy_Mo_measureAll bb_Mo_measureAll 3 none ∈ zT := zm 2088 (by decide +kernel) (by decide +kernel)
set_option maxRecDepth 100000 in
theorem km_2089 : Cond.methodLink rr_Mo 457 yy_Mo_measure ∈ zT := zm 2089 (by decide +kernel) (by decide +kernel)
set_option maxRecDepth 100000 in
theorem km_2091 : Cond.instanceMethod yy_Mo_measure ∈ zT := zm 2091 (by decide +kernel) (by decide +kernel)
set_option maxRecDepth 100000 in
theorem km_2092 : Cond.code yy_Mo_measure bb_Mo_measure 12 none ∈ zT := zm 2092 (by decide +kernel) (by decide +kernel)
set_option maxRecDepth 100000 in
theorem km_2093 : Cond.methodLink rr_Mo 453 yy_Mo_leadsBy ∈ zT := zm 2093 (by decide +kernel) (by decide +kernel)
set_option maxRecDepth 100000 in
theorem km_2095 : Cond.instanceMethod yy_Mo_leadsBy ∈ zT := zm 2095 (by decide +kernel) (by decide +kernel)
set_option maxRecDepth 100000 in
theorem km_2096 : Cond.code yy_Mo_leadsBy bb_Mo_leadsBy 5 (some (.boolean)) ∈ zT := zm 2096 (by decide +kernel) (by decide +kernel)
set_option maxRecDepth 100000 in
theorem km_2097 : Cond.methodLink rr_Mo 506 yy_Mo_firstRow ∈ zT := zm 2097 (by decide +kernel) (by decide +kernel)
set_option maxRecDepth 100000 in
theorem km_2099 : Cond.instanceMethod yy_Mo_firstRow ∈ zT := zm 2099 (by decide +kernel) (by decide +kernel)
set_option maxRecDepth 100000 in
theorem km_2100 : Cond.code yy_Mo_firstRow bb_Mo_firstRow 2 none ∈ zT := zm 2100 (by decide +kernel) (by decide +kernel)
set_option maxRecDepth 100000 in
theorem km_2101 : Cond.methodLink rr_Mo 509 yy_Mo_holds ∈ zT := zm 2101 (by decide +kernel) (by decide +kernel)
set_option maxRecDepth 100000 in
theorem km_2103 : Cond.instanceMethod yy_Mo_holds ∈ zT := zm 2103 (by decide +kernel) (by decide +kernel)
set_option maxRecDepth 100000 in
theorem km_2104 : Cond.code yy_Mo_holds bb_Mo_holds 1 (some (.boolean)) ∈ zT := zm 2104 (by decide +kernel) (by decide +kernel)
set_option maxRecDepth 100000 in
theorem km_2105 : Cond.methodLink rr_Mo 463 yy_Mo_fits ∈ zT := zm 2105 (by decide +kernel) (by decide +kernel)
set_option maxRecDepth 100000 in
theorem km_2107 : Cond.instanceMethod yy_Mo_fits ∈ zT := zm 2107 (by decide +kernel) (by decide +kernel)
set_option maxRecDepth 100000 in
theorem km_2108 : Cond.code yy_Mo_fits bb_Mo_fits 5 (some (.boolean)) ∈ zT := zm 2108 (by decide +kernel) (by decide +kernel)
set_option maxRecDepth 100000 in
theorem km_2109 : Cond.methodLink rr_Mo 460 yy_Mo_distance ∈ zT := zm 2109 (by decide +kernel) (by decide +kernel)
set_option maxRecDepth 100000 in
theorem km_2111 : Cond.instanceMethod yy_Mo_distance ∈ zT := zm 2111 (by decide +kernel) (by decide +kernel)
set_option maxRecDepth 100000 in
theorem km_2112 : Cond.code yy_Mo_distance bb_Mo_distance 2 (some (.int)) ∈ zT := zm 2112 (by decide +kernel) (by decide +kernel)
set_option maxRecDepth 100000 in
theorem km_2113 : Cond.methodLink rr_Mo 485 yy_Mo_work ∈ zT := zm 2113 (by decide +kernel) (by decide +kernel)
set_option maxRecDepth 100000 in
theorem km_2115 : Cond.instanceMethod yy_Mo_work ∈ zT := zm 2115 (by decide +kernel) (by decide +kernel)
set_option maxRecDepth 100000 in
theorem km_2116 : Cond.code yy_Mo_work bb_Mo_work 7 (some (.int)) ∈ zT := zm 2116 (by decide +kernel) (by decide +kernel)
set_option maxRecDepth 100000 in
theorem km_2117 : Cond.methodLink rr_Mo 475 yy_Mo_isWithout ∈ zT := zm 2117 (by decide +kernel) (by decide +kernel)
set_option maxRecDepth 100000 in
theorem km_2119 : Cond.instanceMethod yy_Mo_isWithout ∈ zT := zm 2119 (by decide +kernel) (by decide +kernel)
set_option maxRecDepth 100000 in
theorem km_2120 : Cond.code yy_Mo_isWithout bb_Mo_isWithout 4 (some (.boolean)) ∈ zT := zm 2120 (by decide +kernel) (by decide +kernel)
set_option maxRecDepth 100000 in
theorem km_2121 : Cond.methodLink rr_Mo 466 yy_Mo_goesOn ∈ zT := zm 2121 (by decide +kernel) (by decide +kernel)
set_option maxRecDepth 100000 in
theorem km_2123 : Cond.instanceMethod yy_Mo_goesOn ∈ zT := zm 2123 (by decide +kernel) (by decide +kernel)
set_option maxRecDepth 100000 in
theorem km_2124 : Cond.code yy_Mo_goesOn bb_Mo_goesOn 3 (some (.boolean)) ∈ zT := zm 2124 (by decide +kernel) (by decide +kernel)
set_option maxRecDepth 100000 in
theorem km_2125 : Cond.methodLink rr_Mo 478 yy_Mo_both ∈ zT := zm 2125 (by decide +kernel) (by decide +kernel)
set_option maxRecDepth 100000 in
theorem km_2126 : Cond.static yy_Mo_both ∈ zT := zm 2126 (by decide +kernel) (by decide +kernel)
set_option maxRecDepth 100000 in
theorem km_2127 : Cond.code yy_Mo_both bb_Mo_both 3 (some (.int)) ∈ zT := zm 2127 (by decide +kernel) (by decide +kernel)
set_option maxRecDepth 100000 in
theorem km_2128 : Cond.methodLink rr_Mo 482 yy_Mo_bounded ∈ zT := zm 2128 (by decide +kernel) (by decide +kernel)
set_option maxRecDepth 100000 in
theorem km_2129 : Cond.static yy_Mo_bounded ∈ zT := zm 2129 (by decide +kernel) (by decide +kernel)
set_option maxRecDepth 100000 in
theorem km_2130 : Cond.code yy_Mo_bounded bb_Mo_bounded 2 (some (.int)) ∈ zT := zm 2130 (by decide +kernel) (by decide +kernel)
set_option maxRecDepth 100000 in
theorem km_2131 : Cond.constantLong rr_Mo 469 1000000000 ∈ zT := zm 2131 (by decide +kernel) (by decide +kernel)
set_option maxRecDepth 100000 in
theorem km_2132 : Cond.constant rr_Mo 471 1000000000 ∈ zT := zm 2132 (by decide +kernel) (by decide +kernel)
set_option maxRecDepth 100000 in
theorem km_2133 : Cond.constantLong rr_Mo 472 (-1000000000) ∈ zT := zm 2133 (by decide +kernel) (by decide +kernel)
set_option maxRecDepth 100000 in
theorem km_2134 : Cond.constant rr_Mo 474 (-1000000000) ∈ zT := zm 2134 (by decide +kernel) (by decide +kernel)
set_option maxRecDepth 100000 in
theorem km_2135 : Cond.methodLink rr_Mo 561 yy_Mo_answered ∈ zT := zm 2135 (by decide +kernel) (by decide +kernel)
set_option maxRecDepth 100000 in
theorem km_2137 : Cond.instanceMethod yy_Mo_answered ∈ zT := zm 2137 (by decide +kernel) (by decide +kernel)
set_option maxRecDepth 100000 in
theorem km_2138 : Cond.code yy_Mo_answered bb_Mo_answered 5 (some (.int)) ∈ zT := zm 2138 (by decide +kernel) (by decide +kernel)
set_option maxRecDepth 100000 in
theorem km_2139 : Cond.methodLink rr_Mo 527 yy_Mo_collect ∈ zT := zm 2139 (by decide +kernel) (by decide +kernel)
set_option maxRecDepth 100000 in
theorem km_2141 : Cond.instanceMethod yy_Mo_collect ∈ zT := zm 2141 (by decide +kernel) (by decide +kernel)
set_option maxRecDepth 100000 in
theorem km_2142 : Cond.code yy_Mo_collect bb_Mo_collect 4 none ∈ zT := zm 2142 (by decide +kernel) (by decide +kernel)
set_option maxRecDepth 100000 in
theorem km_2143 : Cond.methodLink rr_Mo 530 yy_Mo_groupRows ∈ zT := zm 2143 (by decide +kernel) (by decide +kernel)
set_option maxRecDepth 100000 in
theorem km_2145 : Cond.instanceMethod yy_Mo_groupRows ∈ zT := zm 2145 (by decide +kernel) (by decide +kernel)
set_option maxRecDepth 100000 in
theorem km_2146 : Cond.code yy_Mo_groupRows bb_Mo_groupRows 5 (some (.int)) ∈ zT := zm 2146 (by decide +kernel) (by decide +kernel)
set_option maxRecDepth 100000 in
theorem km_2147 : Cond.methodLink rr_Mo 521 yy_Mo_sortRows ∈ zT := zm 2147 (by decide +kernel) (by decide +kernel)
set_option maxRecDepth 100000 in
theorem km_2149 : Cond.instanceMethod yy_Mo_sortRows ∈ zT := zm 2149 (by decide +kernel) (by decide +kernel)
set_option maxRecDepth 100000 in
theorem km_2150 : Cond.code yy_Mo_sortRows bb_Mo_sortRows 9 none ∈ zT := zm 2150 (by decide +kernel) (by decide +kernel)
set_option maxRecDepth 100000 in
theorem km_2151 : Cond.methodLink rr_Mo 518 yy_Mo_compareRows ∈ zT := zm 2151 (by decide +kernel) (by decide +kernel)
set_option maxRecDepth 100000 in
theorem km_2153 : Cond.instanceMethod yy_Mo_compareRows ∈ zT := zm 2153 (by decide +kernel) (by decide +kernel)
set_option maxRecDepth 100000 in
theorem km_2154 : Cond.code yy_Mo_compareRows bb_Mo_compareRows 6 (some (.int)) ∈ zT := zm 2154 (by decide +kernel) (by decide +kernel)
set_option maxRecDepth 100000 in
theorem km_2155 : Cond.methodLink rr_Mo 524 yy_Mo_together ∈ zT := zm 2155 (by decide +kernel) (by decide +kernel)
set_option maxRecDepth 100000 in
theorem km_2157 : Cond.instanceMethod yy_Mo_together ∈ zT := zm 2157 (by decide +kernel) (by decide +kernel)
set_option maxRecDepth 100000 in
theorem km_2158 : Cond.code yy_Mo_together bb_Mo_together 12 (some (.int)) ∈ zT := zm 2158 (by decide +kernel) (by decide +kernel)
set_option maxRecDepth 100000 in
theorem km_2163 : Cond.constant rr_Mo 564 2000000000 ∈ zT := zm 2163 (by decide +kernel) (by decide +kernel)
set_option maxRecDepth 100000 in
theorem km_2176 : Cond.fieldLink rr_String 15 "java/lang/String" "coder" "B" ∈ zT := zm 2176 (by decide +kernel) (by decide +kernel)
set_option maxRecDepth 100000 in
theorem km_2177 : Cond.fieldLink rr_String 9 "java/lang/String" "value" "[B" ∈ zT := zm 2177 (by decide +kernel) (by decide +kernel)
