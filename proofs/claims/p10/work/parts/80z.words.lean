set_option maxRecDepth 100000 in
theorem km_147 : Cond.classLink R_law 7 rr_PQ ∈ zT := zm 147 (by decide +kernel) (by decide +kernel)
set_option maxRecDepth 100000 in
theorem km_148 : Cond.instantiable rr_PQ 11 ∈ zT := zm 148 (by decide +kernel) (by decide +kernel)
set_option maxRecDepth 100000 in
theorem km_149 : Cond.methodLink R_law 9 yy_PQ_init ∈ zT := zm 149 (by decide +kernel) (by decide +kernel)
set_option maxRecDepth 100000 in
theorem km_150 : Cond.instanceMethod yy_PQ_init ∈ zT := zm 150 (by decide +kernel) (by decide +kernel)
set_option maxRecDepth 100000 in
theorem km_151 : Cond.code yy_PQ_init bb_PQ_init 2 none ∈ zT := zm 151 (by decide +kernel) (by decide +kernel)
set_option maxRecDepth 100000 in
theorem km_723 : Cond.methodLink R_law 13 yy_PQ_feed ∈ zT := zm 723 (by decide +kernel) (by decide +kernel)
set_option maxRecDepth 100000 in
theorem km_724 : Cond.instanceMethod yy_PQ_feed ∈ zT := zm 724 (by decide +kernel) (by decide +kernel)
set_option maxRecDepth 100000 in
theorem km_725 : Cond.selects rr_PQ yy_PQ_feed yy_PQ_feed ∈ zT := zm 725 (by decide +kernel) (by decide +kernel)
set_option maxRecDepth 100000 in
theorem km_726 : Cond.code yy_PQ_feed bb_PQ_feed 6 (some (.int)) ∈ zT := zm 726 (by decide +kernel) (by decide +kernel)
set_option maxRecDepth 100000 in
theorem km_731 : Cond.methodLink R_law 18 yy_PQ_cut ∈ zT := zm 731 (by decide +kernel) (by decide +kernel)
set_option maxRecDepth 100000 in
theorem km_732 : Cond.instanceMethod yy_PQ_cut ∈ zT := zm 732 (by decide +kernel) (by decide +kernel)
set_option maxRecDepth 100000 in
theorem km_733 : Cond.selects rr_PQ yy_PQ_cut yy_PQ_cut ∈ zT := zm 733 (by decide +kernel) (by decide +kernel)
set_option maxRecDepth 100000 in
theorem km_734 : Cond.code yy_PQ_cut bb_PQ_cut 2 (some (.int)) ∈ zT := zm 734 (by decide +kernel) (by decide +kernel)
set_option maxRecDepth 100000 in
theorem km_735 : Cond.methodLink R_law 23 yy_PQ_node ∈ zT := zm 735 (by decide +kernel) (by decide +kernel)
set_option maxRecDepth 100000 in
theorem km_736 : Cond.instanceMethod yy_PQ_node ∈ zT := zm 736 (by decide +kernel) (by decide +kernel)
set_option maxRecDepth 100000 in
theorem km_737 : Cond.selects rr_PQ yy_PQ_node yy_PQ_node ∈ zT := zm 737 (by decide +kernel) (by decide +kernel)
set_option maxRecDepth 100000 in
theorem km_738 : Cond.code yy_PQ_node bb_PQ_node 2 (some (.int)) ∈ zT := zm 738 (by decide +kernel) (by decide +kernel)
set_option maxRecDepth 100000 in
theorem km_743 : Cond.methodLink R_law 27 yy_PQ_mark ∈ zT := zm 743 (by decide +kernel) (by decide +kernel)
set_option maxRecDepth 100000 in
theorem km_744 : Cond.instanceMethod yy_PQ_mark ∈ zT := zm 744 (by decide +kernel) (by decide +kernel)
set_option maxRecDepth 100000 in
theorem km_745 : Cond.selects rr_PQ yy_PQ_mark yy_PQ_mark ∈ zT := zm 745 (by decide +kernel) (by decide +kernel)
set_option maxRecDepth 100000 in
theorem km_746 : Cond.code yy_PQ_mark bb_PQ_mark 3 (some (.int)) ∈ zT := zm 746 (by decide +kernel) (by decide +kernel)
set_option maxRecDepth 100000 in
theorem km_755 : Cond.methodLink R_law 32 yy_PQ_put ∈ zT := zm 755 (by decide +kernel) (by decide +kernel)
set_option maxRecDepth 100000 in
theorem km_756 : Cond.instanceMethod yy_PQ_put ∈ zT := zm 756 (by decide +kernel) (by decide +kernel)
set_option maxRecDepth 100000 in
theorem km_757 : Cond.selects rr_PQ yy_PQ_put yy_PQ_put ∈ zT := zm 757 (by decide +kernel) (by decide +kernel)
set_option maxRecDepth 100000 in
theorem km_758 : Cond.code yy_PQ_put bb_PQ_put 5 (some (.int)) ∈ zT := zm 758 (by decide +kernel) (by decide +kernel)
set_option maxRecDepth 100000 in
theorem km_763 : Cond.methodLink R_law 37 yy_PQ_arc ∈ zT := zm 763 (by decide +kernel) (by decide +kernel)
set_option maxRecDepth 100000 in
theorem km_764 : Cond.instanceMethod yy_PQ_arc ∈ zT := zm 764 (by decide +kernel) (by decide +kernel)
set_option maxRecDepth 100000 in
theorem km_765 : Cond.selects rr_PQ yy_PQ_arc yy_PQ_arc ∈ zT := zm 765 (by decide +kernel) (by decide +kernel)
set_option maxRecDepth 100000 in
theorem km_766 : Cond.code yy_PQ_arc bb_PQ_arc 6 (some (.int)) ∈ zT := zm 766 (by decide +kernel) (by decide +kernel)
set_option maxRecDepth 100000 in
theorem km_771 : Cond.methodLink R_law 42 yy_PQ_drop ∈ zT := zm 771 (by decide +kernel) (by decide +kernel)
set_option maxRecDepth 100000 in
theorem km_772 : Cond.instanceMethod yy_PQ_drop ∈ zT := zm 772 (by decide +kernel) (by decide +kernel)
set_option maxRecDepth 100000 in
theorem km_773 : Cond.selects rr_PQ yy_PQ_drop yy_PQ_drop ∈ zT := zm 773 (by decide +kernel) (by decide +kernel)
set_option maxRecDepth 100000 in
theorem km_774 : Cond.code yy_PQ_drop bb_PQ_drop 2 (some (.int)) ∈ zT := zm 774 (by decide +kernel) (by decide +kernel)
set_option maxRecDepth 100000 in
theorem km_783 : Cond.methodLink R_law 46 yy_PQ_told ∈ zT := zm 783 (by decide +kernel) (by decide +kernel)
set_option maxRecDepth 100000 in
theorem km_784 : Cond.instanceMethod yy_PQ_told ∈ zT := zm 784 (by decide +kernel) (by decide +kernel)
set_option maxRecDepth 100000 in
theorem km_785 : Cond.selects rr_PQ yy_PQ_told yy_PQ_told ∈ zT := zm 785 (by decide +kernel) (by decide +kernel)
set_option maxRecDepth 100000 in
theorem km_786 : Cond.code yy_PQ_told bb_PQ_told 3 (some (.int)) ∈ zT := zm 786 (by decide +kernel) (by decide +kernel)
set_option maxRecDepth 100000 in
theorem km_799 : Cond.methodLink R_law 50 yy_PQ_bare ∈ zT := zm 799 (by decide +kernel) (by decide +kernel)
set_option maxRecDepth 100000 in
theorem km_800 : Cond.instanceMethod yy_PQ_bare ∈ zT := zm 800 (by decide +kernel) (by decide +kernel)
set_option maxRecDepth 100000 in
theorem km_801 : Cond.selects rr_PQ yy_PQ_bare yy_PQ_bare ∈ zT := zm 801 (by decide +kernel) (by decide +kernel)
set_option maxRecDepth 100000 in
theorem km_802 : Cond.code yy_PQ_bare bb_PQ_bare 2 (some (.int)) ∈ zT := zm 802 (by decide +kernel) (by decide +kernel)
set_option maxRecDepth 100000 in
theorem km_808 : Cond.methodLink R_law 54 yy_PQ_question ∈ zT := zm 808 (by decide +kernel) (by decide +kernel)
set_option maxRecDepth 100000 in
theorem km_809 : Cond.instanceMethod yy_PQ_question ∈ zT := zm 809 (by decide +kernel) (by decide +kernel)
set_option maxRecDepth 100000 in
theorem km_810 : Cond.selects rr_PQ yy_PQ_question yy_PQ_question ∈ zT := zm 810 (by decide +kernel) (by decide +kernel)
set_option maxRecDepth 100000 in
theorem km_811 : Cond.code yy_PQ_question bb_PQ_question 4 (some (.int)) ∈ zT := zm 811 (by decide +kernel) (by decide +kernel)
set_option maxRecDepth 100000 in
theorem km_1230 : Cond.methodLink R_law 58 yy_PQ_rule ∈ zT := zm 1230 (by decide +kernel) (by decide +kernel)
set_option maxRecDepth 100000 in
theorem km_1231 : Cond.instanceMethod yy_PQ_rule ∈ zT := zm 1231 (by decide +kernel) (by decide +kernel)
set_option maxRecDepth 100000 in
theorem km_1232 : Cond.selects rr_PQ yy_PQ_rule yy_PQ_rule ∈ zT := zm 1232 (by decide +kernel) (by decide +kernel)
set_option maxRecDepth 100000 in
theorem km_1233 : Cond.code yy_PQ_rule bb_PQ_rule 3 (some (.int)) ∈ zT := zm 1233 (by decide +kernel) (by decide +kernel)
set_option maxRecDepth 100000 in
theorem km_1238 : Cond.methodLink R_law 63 yy_PQ_forget ∈ zT := zm 1238 (by decide +kernel) (by decide +kernel)
set_option maxRecDepth 100000 in
theorem km_1239 : Cond.instanceMethod yy_PQ_forget ∈ zT := zm 1239 (by decide +kernel) (by decide +kernel)
set_option maxRecDepth 100000 in
theorem km_1240 : Cond.selects rr_PQ yy_PQ_forget yy_PQ_forget ∈ zT := zm 1240 (by decide +kernel) (by decide +kernel)
set_option maxRecDepth 100000 in
theorem km_1241 : Cond.code yy_PQ_forget bb_PQ_forget 2 (some (.int)) ∈ zT := zm 1241 (by decide +kernel) (by decide +kernel)
set_option maxRecDepth 100000 in
theorem km_1246 : Cond.methodLink R_law 67 yy_PQ_place ∈ zT := zm 1246 (by decide +kernel) (by decide +kernel)
set_option maxRecDepth 100000 in
theorem km_1247 : Cond.instanceMethod yy_PQ_place ∈ zT := zm 1247 (by decide +kernel) (by decide +kernel)
set_option maxRecDepth 100000 in
theorem km_1248 : Cond.selects rr_PQ yy_PQ_place yy_PQ_place ∈ zT := zm 1248 (by decide +kernel) (by decide +kernel)
set_option maxRecDepth 100000 in
theorem km_1249 : Cond.code yy_PQ_place bb_PQ_place 1 (some (.int)) ∈ zT := zm 1249 (by decide +kernel) (by decide +kernel)
set_option maxRecDepth 100000 in
theorem km_1250 : Cond.methodLink R_law 71 yy_PQ_ask ∈ zT := zm 1250 (by decide +kernel) (by decide +kernel)
set_option maxRecDepth 100000 in
theorem km_1251 : Cond.instanceMethod yy_PQ_ask ∈ zT := zm 1251 (by decide +kernel) (by decide +kernel)
set_option maxRecDepth 100000 in
theorem km_1252 : Cond.selects rr_PQ yy_PQ_ask yy_PQ_ask ∈ zT := zm 1252 (by decide +kernel) (by decide +kernel)
set_option maxRecDepth 100000 in
theorem km_1253 : Cond.code yy_PQ_ask bb_PQ_ask 3 (some (.int)) ∈ zT := zm 1253 (by decide +kernel) (by decide +kernel)
set_option maxRecDepth 100000 in
theorem km_1482 : Cond.methodLink R_law 75 yy_PQ_answer ∈ zT := zm 1482 (by decide +kernel) (by decide +kernel)
set_option maxRecDepth 100000 in
theorem km_1483 : Cond.instanceMethod yy_PQ_answer ∈ zT := zm 1483 (by decide +kernel) (by decide +kernel)
set_option maxRecDepth 100000 in
theorem km_1484 : Cond.selects rr_PQ yy_PQ_answer yy_PQ_answer ∈ zT := zm 1484 (by decide +kernel) (by decide +kernel)
set_option maxRecDepth 100000 in
theorem km_1485 : Cond.code yy_PQ_answer bb_PQ_answer 5 (some (.int)) ∈ zT := zm 1485 (by decide +kernel) (by decide +kernel)
set_option maxRecDepth 100000 in
theorem km_1488 : Cond.methodLink R_law 79 yy_PQ_leads ∈ zT := zm 1488 (by decide +kernel) (by decide +kernel)
set_option maxRecDepth 100000 in
theorem km_1489 : Cond.instanceMethod yy_PQ_leads ∈ zT := zm 1489 (by decide +kernel) (by decide +kernel)
set_option maxRecDepth 100000 in
theorem km_1490 : Cond.selects rr_PQ yy_PQ_leads yy_PQ_leads ∈ zT := zm 1490 (by decide +kernel) (by decide +kernel)
set_option maxRecDepth 100000 in
theorem km_1491 : Cond.code yy_PQ_leads bb_PQ_leads 4 (some (.int)) ∈ zT := zm 1491 (by decide +kernel) (by decide +kernel)
set_option maxRecDepth 100000 in
theorem km_1497 : Cond.methodLink R_law 83 yy_PQ_pairs ∈ zT := zm 1497 (by decide +kernel) (by decide +kernel)
set_option maxRecDepth 100000 in
theorem km_1498 : Cond.instanceMethod yy_PQ_pairs ∈ zT := zm 1498 (by decide +kernel) (by decide +kernel)
set_option maxRecDepth 100000 in
theorem km_1499 : Cond.selects rr_PQ yy_PQ_pairs yy_PQ_pairs ∈ zT := zm 1499 (by decide +kernel) (by decide +kernel)
set_option maxRecDepth 100000 in
theorem km_1500 : Cond.code yy_PQ_pairs bb_PQ_pairs 4 (some (.int)) ∈ zT := zm 1500 (by decide +kernel) (by decide +kernel)
set_option maxRecDepth 100000 in
theorem km_1507 : Cond.methodLink R_law 87 yy_PQ_least ∈ zT := zm 1507 (by decide +kernel) (by decide +kernel)
set_option maxRecDepth 100000 in
theorem km_1508 : Cond.instanceMethod yy_PQ_least ∈ zT := zm 1508 (by decide +kernel) (by decide +kernel)
set_option maxRecDepth 100000 in
theorem km_1509 : Cond.selects rr_PQ yy_PQ_least yy_PQ_least ∈ zT := zm 1509 (by decide +kernel) (by decide +kernel)
set_option maxRecDepth 100000 in
theorem km_1510 : Cond.code yy_PQ_least bb_PQ_least 7 (some (.int)) ∈ zT := zm 1510 (by decide +kernel) (by decide +kernel)
set_option maxRecDepth 100000 in
theorem km_1513 : Cond.classLink R_law 10 rr_Mo ∈ zT := zm 1513 (by decide +kernel) (by decide +kernel)
set_option maxRecDepth 100000 in
theorem km_1514 : Cond.instantiable rr_Mo 90 ∈ zT := zm 1514 (by decide +kernel) (by decide +kernel)
set_option maxRecDepth 100000 in
theorem km_1515 : Cond.methodLink R_law 12 yy_Mo_init ∈ zT := zm 1515 (by decide +kernel) (by decide +kernel)
set_option maxRecDepth 100000 in
theorem km_1516 : Cond.instanceMethod yy_Mo_init ∈ zT := zm 1516 (by decide +kernel) (by decide +kernel)
set_option maxRecDepth 100000 in
theorem km_1517 : Cond.code yy_Mo_init bb_Mo_init 2 none ∈ zT := List.mem_filter.mpr ⟨((List.mem_append_right _ (List.mem_append_right _ (List.mem_append_right _ (List.mem_append_right _ (List.mem_append_right _ (List.mem_append_right _ (List.mem_append_left _ (List.mem_of_getElem? (i := 193) rfl)))))))) : Cond.code yy_Mo_init bb_Mo_init 2 none ∈ lw_tbl), rfl⟩
set_option maxRecDepth 100000 in
theorem km_1793 : Cond.methodLink R_law 17 yy_Mo_feed ∈ zT := zm 1793 (by decide +kernel) (by decide +kernel)
set_option maxRecDepth 100000 in
theorem km_1794 : Cond.instanceMethod yy_Mo_feed ∈ zT := zm 1794 (by decide +kernel) (by decide +kernel)
set_option maxRecDepth 100000 in
theorem km_1795 : Cond.selects rr_Mo yy_Mo_feed yy_Mo_feed ∈ zT := zm 1795 (by decide +kernel) (by decide +kernel)
set_option maxRecDepth 100000 in
theorem km_1796 : Cond.code yy_Mo_feed bb_Mo_feed 6 (some (.int)) ∈ zT := zm 1796 (by decide +kernel) (by decide +kernel)
set_option maxRecDepth 100000 in
theorem km_1801 : Cond.methodLink R_law 22 yy_Mo_cut ∈ zT := zm 1801 (by decide +kernel) (by decide +kernel)
set_option maxRecDepth 100000 in
theorem km_1802 : Cond.instanceMethod yy_Mo_cut ∈ zT := zm 1802 (by decide +kernel) (by decide +kernel)
set_option maxRecDepth 100000 in
theorem km_1803 : Cond.selects rr_Mo yy_Mo_cut yy_Mo_cut ∈ zT := zm 1803 (by decide +kernel) (by decide +kernel)
set_option maxRecDepth 100000 in
theorem km_1804 : Cond.code yy_Mo_cut bb_Mo_cut 2 (some (.int)) ∈ zT := zm 1804 (by decide +kernel) (by decide +kernel)
set_option maxRecDepth 100000 in
theorem km_1805 : Cond.methodLink R_law 26 yy_Mo_node ∈ zT := zm 1805 (by decide +kernel) (by decide +kernel)
set_option maxRecDepth 100000 in
theorem km_1806 : Cond.instanceMethod yy_Mo_node ∈ zT := zm 1806 (by decide +kernel) (by decide +kernel)
set_option maxRecDepth 100000 in
theorem km_1807 : Cond.selects rr_Mo yy_Mo_node yy_Mo_node ∈ zT := zm 1807 (by decide +kernel) (by decide +kernel)
set_option maxRecDepth 100000 in
theorem km_1808 : Cond.code yy_Mo_node bb_Mo_node 3 (some (.int)) ∈ zT := zm 1808 (by decide +kernel) (by decide +kernel)
set_option maxRecDepth 100000 in
theorem km_1816 : Cond.methodLink R_law 31 yy_Mo_mark ∈ zT := zm 1816 (by decide +kernel) (by decide +kernel)
set_option maxRecDepth 100000 in
theorem km_1817 : Cond.instanceMethod yy_Mo_mark ∈ zT := zm 1817 (by decide +kernel) (by decide +kernel)
set_option maxRecDepth 100000 in
theorem km_1818 : Cond.selects rr_Mo yy_Mo_mark yy_Mo_mark ∈ zT := zm 1818 (by decide +kernel) (by decide +kernel)
set_option maxRecDepth 100000 in
theorem km_1819 : Cond.code yy_Mo_mark bb_Mo_mark 4 (some (.int)) ∈ zT := zm 1819 (by decide +kernel) (by decide +kernel)
set_option maxRecDepth 100000 in
theorem km_1820 : Cond.methodLink R_law 36 yy_Mo_put ∈ zT := zm 1820 (by decide +kernel) (by decide +kernel)
set_option maxRecDepth 100000 in
theorem km_1821 : Cond.instanceMethod yy_Mo_put ∈ zT := zm 1821 (by decide +kernel) (by decide +kernel)
set_option maxRecDepth 100000 in
theorem km_1822 : Cond.selects rr_Mo yy_Mo_put yy_Mo_put ∈ zT := zm 1822 (by decide +kernel) (by decide +kernel)
set_option maxRecDepth 100000 in
theorem km_1823 : Cond.code yy_Mo_put bb_Mo_put 5 (some (.int)) ∈ zT := zm 1823 (by decide +kernel) (by decide +kernel)
set_option maxRecDepth 100000 in
theorem km_1824 : Cond.methodLink R_law 41 yy_Mo_arc ∈ zT := zm 1824 (by decide +kernel) (by decide +kernel)
set_option maxRecDepth 100000 in
theorem km_1825 : Cond.instanceMethod yy_Mo_arc ∈ zT := zm 1825 (by decide +kernel) (by decide +kernel)
set_option maxRecDepth 100000 in
theorem km_1826 : Cond.selects rr_Mo yy_Mo_arc yy_Mo_arc ∈ zT := zm 1826 (by decide +kernel) (by decide +kernel)
set_option maxRecDepth 100000 in
theorem km_1827 : Cond.code yy_Mo_arc bb_Mo_arc 6 (some (.int)) ∈ zT := zm 1827 (by decide +kernel) (by decide +kernel)
set_option maxRecDepth 100000 in
theorem km_1828 : Cond.methodLink R_law 45 yy_Mo_drop ∈ zT := zm 1828 (by decide +kernel) (by decide +kernel)
set_option maxRecDepth 100000 in
theorem km_1829 : Cond.instanceMethod yy_Mo_drop ∈ zT := zm 1829 (by decide +kernel) (by decide +kernel)
set_option maxRecDepth 100000 in
theorem km_1830 : Cond.selects rr_Mo yy_Mo_drop yy_Mo_drop ∈ zT := zm 1830 (by decide +kernel) (by decide +kernel)
set_option maxRecDepth 100000 in
theorem km_1831 : Cond.code yy_Mo_drop bb_Mo_drop 2 (some (.int)) ∈ zT := zm 1831 (by decide +kernel) (by decide +kernel)
set_option maxRecDepth 100000 in
theorem km_1832 : Cond.methodLink R_law 49 yy_Mo_told ∈ zT := zm 1832 (by decide +kernel) (by decide +kernel)
set_option maxRecDepth 100000 in
theorem km_1833 : Cond.instanceMethod yy_Mo_told ∈ zT := zm 1833 (by decide +kernel) (by decide +kernel)
set_option maxRecDepth 100000 in
theorem km_1834 : Cond.selects rr_Mo yy_Mo_told yy_Mo_told ∈ zT := zm 1834 (by decide +kernel) (by decide +kernel)
set_option maxRecDepth 100000 in
theorem km_1835 : Cond.code yy_Mo_told bb_Mo_told 5 (some (.int)) ∈ zT := zm 1835 (by decide +kernel) (by decide +kernel)
set_option maxRecDepth 100000 in
theorem km_1840 : Cond.methodLink R_law 53 yy_Mo_bare ∈ zT := zm 1840 (by decide +kernel) (by decide +kernel)
set_option maxRecDepth 100000 in
theorem km_1841 : Cond.instanceMethod yy_Mo_bare ∈ zT := zm 1841 (by decide +kernel) (by decide +kernel)
set_option maxRecDepth 100000 in
theorem km_1842 : Cond.selects rr_Mo yy_Mo_bare yy_Mo_bare ∈ zT := zm 1842 (by decide +kernel) (by decide +kernel)
set_option maxRecDepth 100000 in
theorem km_1843 : Cond.code yy_Mo_bare bb_Mo_bare 4 (some (.int)) ∈ zT := zm 1843 (by decide +kernel) (by decide +kernel)
set_option maxRecDepth 100000 in
theorem km_1844 : Cond.methodLink R_law 57 yy_Mo_question ∈ zT := zm 1844 (by decide +kernel) (by decide +kernel)
set_option maxRecDepth 100000 in
theorem km_1845 : Cond.instanceMethod yy_Mo_question ∈ zT := zm 1845 (by decide +kernel) (by decide +kernel)
set_option maxRecDepth 100000 in
theorem km_1846 : Cond.selects rr_Mo yy_Mo_question yy_Mo_question ∈ zT := zm 1846 (by decide +kernel) (by decide +kernel)
set_option maxRecDepth 100000 in
theorem km_1847 : Cond.code yy_Mo_question bb_Mo_question 3 (some (.int)) ∈ zT := zm 1847 (by decide +kernel) (by decide +kernel)
set_option maxRecDepth 100000 in
theorem km_2047 : Cond.methodLink R_law 62 yy_Mo_rule ∈ zT := zm 2047 (by decide +kernel) (by decide +kernel)
set_option maxRecDepth 100000 in
theorem km_2048 : Cond.instanceMethod yy_Mo_rule ∈ zT := zm 2048 (by decide +kernel) (by decide +kernel)
set_option maxRecDepth 100000 in
theorem km_2049 : Cond.selects rr_Mo yy_Mo_rule yy_Mo_rule ∈ zT := zm 2049 (by decide +kernel) (by decide +kernel)
set_option maxRecDepth 100000 in
theorem km_2050 : Cond.code yy_Mo_rule bb_Mo_rule 2 (some (.int)) ∈ zT := zm 2050 (by decide +kernel) (by decide +kernel)
set_option maxRecDepth 100000 in
theorem km_2059 : Cond.methodLink R_law 66 yy_Mo_forget ∈ zT := zm 2059 (by decide +kernel) (by decide +kernel)
set_option maxRecDepth 100000 in
theorem km_2060 : Cond.instanceMethod yy_Mo_forget ∈ zT := zm 2060 (by decide +kernel) (by decide +kernel)
set_option maxRecDepth 100000 in
theorem km_2061 : Cond.selects rr_Mo yy_Mo_forget yy_Mo_forget ∈ zT := zm 2061 (by decide +kernel) (by decide +kernel)
set_option maxRecDepth 100000 in
theorem km_2062 : Cond.code yy_Mo_forget bb_Mo_forget 2 (some (.int)) ∈ zT := zm 2062 (by decide +kernel) (by decide +kernel)
set_option maxRecDepth 100000 in
theorem km_2063 : Cond.methodLink R_law 70 yy_Mo_place ∈ zT := zm 2063 (by decide +kernel) (by decide +kernel)
set_option maxRecDepth 100000 in
theorem km_2064 : Cond.instanceMethod yy_Mo_place ∈ zT := zm 2064 (by decide +kernel) (by decide +kernel)
set_option maxRecDepth 100000 in
theorem km_2065 : Cond.selects rr_Mo yy_Mo_place yy_Mo_place ∈ zT := zm 2065 (by decide +kernel) (by decide +kernel)
set_option maxRecDepth 100000 in
theorem km_2066 : Cond.code yy_Mo_place bb_Mo_place 1 (some (.int)) ∈ zT := zm 2066 (by decide +kernel) (by decide +kernel)
set_option maxRecDepth 100000 in
theorem km_2067 : Cond.methodLink R_law 74 yy_Mo_ask ∈ zT := zm 2067 (by decide +kernel) (by decide +kernel)
set_option maxRecDepth 100000 in
theorem km_2068 : Cond.instanceMethod yy_Mo_ask ∈ zT := zm 2068 (by decide +kernel) (by decide +kernel)
set_option maxRecDepth 100000 in
theorem km_2069 : Cond.selects rr_Mo yy_Mo_ask yy_Mo_ask ∈ zT := zm 2069 (by decide +kernel) (by decide +kernel)
set_option maxRecDepth 100000 in
theorem km_2070 : Cond.code yy_Mo_ask bb_Mo_ask 2 (some (.int)) ∈ zT := zm 2070 (by decide +kernel) (by decide +kernel)
set_option maxRecDepth 100000 in
theorem km_2159 : Cond.methodLink R_law 78 yy_Mo_answer ∈ zT := zm 2159 (by decide +kernel) (by decide +kernel)
set_option maxRecDepth 100000 in
theorem km_2160 : Cond.instanceMethod yy_Mo_answer ∈ zT := zm 2160 (by decide +kernel) (by decide +kernel)
set_option maxRecDepth 100000 in
theorem km_2161 : Cond.selects rr_Mo yy_Mo_answer yy_Mo_answer ∈ zT := zm 2161 (by decide +kernel) (by decide +kernel)
set_option maxRecDepth 100000 in
theorem km_2162 : Cond.code yy_Mo_answer bb_Mo_answer 4 (some (.int)) ∈ zT := zm 2162 (by decide +kernel) (by decide +kernel)
set_option maxRecDepth 100000 in
theorem km_2164 : Cond.methodLink R_law 82 yy_Mo_leads ∈ zT := zm 2164 (by decide +kernel) (by decide +kernel)
set_option maxRecDepth 100000 in
theorem km_2165 : Cond.instanceMethod yy_Mo_leads ∈ zT := zm 2165 (by decide +kernel) (by decide +kernel)
set_option maxRecDepth 100000 in
theorem km_2166 : Cond.selects rr_Mo yy_Mo_leads yy_Mo_leads ∈ zT := zm 2166 (by decide +kernel) (by decide +kernel)
set_option maxRecDepth 100000 in
theorem km_2167 : Cond.code yy_Mo_leads bb_Mo_leads 4 (some (.int)) ∈ zT := zm 2167 (by decide +kernel) (by decide +kernel)
set_option maxRecDepth 100000 in
theorem km_2168 : Cond.methodLink R_law 86 yy_Mo_pairs ∈ zT := zm 2168 (by decide +kernel) (by decide +kernel)
set_option maxRecDepth 100000 in
theorem km_2169 : Cond.instanceMethod yy_Mo_pairs ∈ zT := zm 2169 (by decide +kernel) (by decide +kernel)
set_option maxRecDepth 100000 in
theorem km_2170 : Cond.selects rr_Mo yy_Mo_pairs yy_Mo_pairs ∈ zT := zm 2170 (by decide +kernel) (by decide +kernel)
set_option maxRecDepth 100000 in
theorem km_2171 : Cond.code yy_Mo_pairs bb_Mo_pairs 4 (some (.int)) ∈ zT := zm 2171 (by decide +kernel) (by decide +kernel)
set_option maxRecDepth 100000 in
theorem km_2172 : Cond.methodLink R_law 90 yy_Mo_least ∈ zT := zm 2172 (by decide +kernel) (by decide +kernel)
set_option maxRecDepth 100000 in
theorem km_2173 : Cond.instanceMethod yy_Mo_least ∈ zT := zm 2173 (by decide +kernel) (by decide +kernel)
set_option maxRecDepth 100000 in
theorem km_2174 : Cond.selects rr_Mo yy_Mo_least yy_Mo_least ∈ zT := zm 2174 (by decide +kernel) (by decide +kernel)
set_option maxRecDepth 100000 in
theorem km_2175 : Cond.code yy_Mo_least bb_Mo_least 7 (some (.int)) ∈ zT := zm 2175 (by decide +kernel) (by decide +kernel)
