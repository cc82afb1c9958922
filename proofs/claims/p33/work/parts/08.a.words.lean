set_option maxRecDepth 100000 in
theorem tw_685 : (.methodLink R_Md 52 objectInit) ∈ TB := tw_f (tw_t4 (List.mem_of_getElem? (i := 162) rfl)) rfl
set_option maxRecDepth 100000 in
theorem tw_686 : (.arrayClass .boolean) ∈ TB := tw_f (tw_t1 (List.mem_of_getElem? (i := 57) rfl)) rfl
set_option maxRecDepth 100000 in
theorem tw_687 : (.arrayClass .byte) ∈ TB := tw_f (tw_t1 (List.mem_of_getElem? (i := 92) rfl)) rfl
set_option maxRecDepth 100000 in
theorem tw_688 : (.arrayClass .long) ∈ TB := tw_f (tw_t5 (List.mem_of_getElem? (i := 115) rfl)) rfl
set_option maxRecDepth 100000 in
theorem tw_689 : (.methodLink R_WM 3 objectInit) ∈ TB := tw_f (tw_t1 (List.mem_of_getElem? (i := 22) rfl)) rfl
set_option maxRecDepth 100000 in
theorem tw_690 : (.classLink R_WM 9 R_Rv) ∈ TB := tw_f (tw_t1 (List.mem_of_getElem? (i := 25) rfl)) rfl
set_option maxRecDepth 100000 in
theorem tw_691 : (.instantiable R_Rv 6) ∈ TB := tw_f (tw_t1 (List.mem_of_getElem? (i := 26) rfl)) rfl
set_option maxRecDepth 100000 in
theorem tw_692 : (.methodLink R_Rv 3 objectInit) ∈ TB := tw_f (tw_t1 (List.mem_of_getElem? (i := 30) rfl)) rfl
set_option maxRecDepth 100000 in
theorem tw_693 : (.classLink R_Rv 18 "[I") ∈ TB := tw_f (tw_t1 (List.mem_of_getElem? (i := 31) rfl)) rfl
set_option maxRecDepth 100000 in
theorem tw_694 : (.code y_Rv_init b_Rv_init 1 none) ∈ TB := tw_f (tw_t1 (List.mem_of_getElem? (i := 29) rfl)) rfl
set_option maxRecDepth 100000 in
theorem tw_695 : (.instanceMethod y_Rv_init) ∈ TB := tw_f (tw_t1 (List.mem_of_getElem? (i := 28) rfl)) rfl
set_option maxRecDepth 100000 in
theorem tw_696 : (.classLink R_WM 16 R_Mn) ∈ TB := tw_f (tw_t1 (List.mem_of_getElem? (i := 58) rfl)) rfl
set_option maxRecDepth 100000 in
theorem tw_697 : (.classLink R_WM 40 R_Tp) ∈ TB := tw_f (tw_t1 (List.mem_of_getElem? (i := 66) rfl)) rfl
set_option maxRecDepth 100000 in
theorem tw_698 : (.instantiable R_Tp 6) ∈ TB := tw_f (tw_t1 (List.mem_of_getElem? (i := 67) rfl)) rfl
set_option maxRecDepth 100000 in
theorem tw_699 : (.methodLink R_Tp 3 objectInit) ∈ TB := tw_f (tw_t1 (List.mem_of_getElem? (i := 71) rfl)) rfl
set_option maxRecDepth 100000 in
theorem tw_700 : (.code y_Tp_init b_Tp_init 1 none) ∈ TB := tw_f (tw_t1 (List.mem_of_getElem? (i := 70) rfl)) rfl
set_option maxRecDepth 100000 in
theorem tw_701 : (.instanceMethod y_Tp_init) ∈ TB := tw_f (tw_t1 (List.mem_of_getElem? (i := 69) rfl)) rfl
set_option maxRecDepth 100000 in
theorem tw_702 : (.classLink R_WM 47 R_Bx) ∈ TB := tw_f (tw_t1 (List.mem_of_getElem? (i := 93) rfl)) rfl
set_option maxRecDepth 100000 in
theorem tw_703 : (.instantiable R_Bx 7) ∈ TB := tw_f (tw_t1 (List.mem_of_getElem? (i := 94) rfl)) rfl
set_option maxRecDepth 100000 in
theorem tw_704 : (.methodLink R_Bx 3 objectInit) ∈ TB := tw_f (tw_t1 (List.mem_of_getElem? (i := 98) rfl)) rfl
set_option maxRecDepth 100000 in
theorem tw_705 : (.code y_Bx_init b_Bx_init 1 none) ∈ TB := tw_f (tw_t1 (List.mem_of_getElem? (i := 97) rfl)) rfl
set_option maxRecDepth 100000 in
theorem tw_706 : (.instanceMethod y_Bx_init) ∈ TB := tw_f (tw_t1 (List.mem_of_getElem? (i := 96) rfl)) rfl
set_option maxRecDepth 100000 in
theorem tw_707 : (.instantiable R_Mn 8) ∈ TB := tw_f (tw_t1 (List.mem_of_getElem? (i := 159) rfl)) rfl
set_option maxRecDepth 100000 in
theorem tw_708 : (.methodLink R_Mn 3 objectInit) ∈ TB := tw_f (tw_t1 (List.mem_of_getElem? (i := 163) rfl)) rfl
set_option maxRecDepth 100000 in
theorem tw_709 : (.fieldLink R_Mn 9 "WaterMen$Man" "state" "I") ∈ TB := tw_f (tw_t1 (List.mem_of_getElem? (i := 164) rfl)) rfl
set_option maxRecDepth 100000 in
theorem tw_710 : (.fieldLink R_Mn 18 "WaterMen$Man" "lastSunday" "I") ∈ TB := tw_f (tw_t1 (List.mem_of_getElem? (i := 175) rfl)) rfl
set_option maxRecDepth 100000 in
theorem tw_711 : (.code y_Mn_init b_Mn_init 1 none) ∈ TB := tw_f (tw_t1 (List.mem_of_getElem? (i := 162) rfl)) rfl
set_option maxRecDepth 100000 in
theorem tw_712 : (.instanceMethod y_Mn_init) ∈ TB := tw_f (tw_t1 (List.mem_of_getElem? (i := 161) rfl)) rfl
set_option maxRecDepth 100000 in
theorem tw_713 : (.methodLink R_law 13 y_WM_stairs) ∈ TB := tw_f (tw_t1 (List.mem_of_getElem? (i := 234) rfl)) rfl
set_option maxRecDepth 100000 in
theorem tw_714 : (.instanceMethod y_WM_stairs) ∈ TB := tw_f (tw_t1 (List.mem_of_getElem? (i := 235) rfl)) rfl
set_option maxRecDepth 100000 in
theorem tw_715 : (.selects R_WM y_WM_stairs y_WM_stairs) ∈ TB := tw_f (tw_t1 (List.mem_of_getElem? (i := 236) rfl)) rfl
set_option maxRecDepth 100000 in
theorem tw_716 : (.code y_WM_stairs b_WM_stairs 2 (some .int)) ∈ TB := tw_f (tw_t1 (List.mem_of_getElem? (i := 237) rfl)) rfl
set_option maxRecDepth 100000 in
theorem tw_717 : (.methodLink R_law 17 y_Md_stairs) ∈ TB := tw_f (tw_t4 (List.mem_of_getElem? (i := 115) rfl)) rfl
set_option maxRecDepth 100000 in
theorem tw_718 : (.instanceMethod y_Md_stairs) ∈ TB := tw_f (tw_t4 (List.mem_of_getElem? (i := 116) rfl)) rfl
set_option maxRecDepth 100000 in
theorem tw_719 : (.selects R_Md y_Md_stairs y_Md_stairs) ∈ TB := tw_f (tw_t4 (List.mem_of_getElem? (i := 117) rfl)) rfl
set_option maxRecDepth 100000 in
theorem tw_720 : (.code y_Md_stairs b_Md_stairs 2 (some .int)) ∈ TB := tw_f (tw_t4 (List.mem_of_getElem? (i := 118) rfl)) rfl
set_option maxRecDepth 100000 in
theorem tw_721 : (.methodLink R_law 18 y_WM_bridge) ∈ TB := tw_f (tw_t2 (List.mem_of_getElem? (i := 6) rfl)) rfl
set_option maxRecDepth 100000 in
theorem tw_722 : (.instanceMethod y_WM_bridge) ∈ TB := tw_f (tw_t2 (List.mem_of_getElem? (i := 7) rfl)) rfl
set_option maxRecDepth 100000 in
theorem tw_723 : (.selects R_WM y_WM_bridge y_WM_bridge) ∈ TB := tw_f (tw_t2 (List.mem_of_getElem? (i := 8) rfl)) rfl
set_option maxRecDepth 100000 in
theorem tw_724 : (.code y_WM_bridge b_WM_bridge 2 (some .int)) ∈ TB := tw_f (tw_t2 (List.mem_of_getElem? (i := 9) rfl)) rfl
set_option maxRecDepth 100000 in
theorem tw_725 : (.methodLink R_law 21 y_Md_bridge) ∈ TB := tw_f (tw_t4 (List.mem_of_getElem? (i := 122) rfl)) rfl
set_option maxRecDepth 100000 in
theorem tw_726 : (.instanceMethod y_Md_bridge) ∈ TB := tw_f (tw_t4 (List.mem_of_getElem? (i := 123) rfl)) rfl
set_option maxRecDepth 100000 in
theorem tw_727 : (.selects R_Md y_Md_bridge y_Md_bridge) ∈ TB := tw_f (tw_t4 (List.mem_of_getElem? (i := 124) rfl)) rfl
set_option maxRecDepth 100000 in
theorem tw_728 : (.code y_Md_bridge b_Md_bridge 2 (some .int)) ∈ TB := tw_f (tw_t4 (List.mem_of_getElem? (i := 125) rfl)) rfl
set_option maxRecDepth 100000 in
theorem tw_729 : (.methodLink R_law 22 y_WM_level) ∈ TB := tw_f (tw_t2 (List.mem_of_getElem? (i := 10) rfl)) rfl
set_option maxRecDepth 100000 in
theorem tw_730 : (.instanceMethod y_WM_level) ∈ TB := tw_f (tw_t2 (List.mem_of_getElem? (i := 11) rfl)) rfl
set_option maxRecDepth 100000 in
theorem tw_731 : (.selects R_WM y_WM_level y_WM_level) ∈ TB := tw_f (tw_t2 (List.mem_of_getElem? (i := 12) rfl)) rfl
set_option maxRecDepth 100000 in
theorem tw_732 : (.code y_WM_level b_WM_level 4 (some .int)) ∈ TB := tw_f (tw_t2 (List.mem_of_getElem? (i := 13) rfl)) rfl
set_option maxRecDepth 100000 in
theorem tw_733 : (.methodLink R_law 26 y_Md_level) ∈ TB := tw_f (tw_t4 (List.mem_of_getElem? (i := 126) rfl)) rfl
set_option maxRecDepth 100000 in
theorem tw_734 : (.instanceMethod y_Md_level) ∈ TB := tw_f (tw_t4 (List.mem_of_getElem? (i := 127) rfl)) rfl
set_option maxRecDepth 100000 in
theorem tw_735 : (.selects R_Md y_Md_level y_Md_level) ∈ TB := tw_f (tw_t4 (List.mem_of_getElem? (i := 128) rfl)) rfl
set_option maxRecDepth 100000 in
theorem tw_736 : (.code y_Md_level b_Md_level 5 (some .int)) ∈ TB := tw_f (tw_t4 (List.mem_of_getElem? (i := 129) rfl)) rfl
set_option maxRecDepth 100000 in
theorem tw_737 : (.methodLink R_law 27 y_WM_table) ∈ TB := tw_f (tw_t2 (List.mem_of_getElem? (i := 27) rfl)) rfl
set_option maxRecDepth 100000 in
theorem tw_738 : (.instanceMethod y_WM_table) ∈ TB := tw_f (tw_t2 (List.mem_of_getElem? (i := 28) rfl)) rfl
set_option maxRecDepth 100000 in
theorem tw_739 : (.selects R_WM y_WM_table y_WM_table) ∈ TB := tw_f (tw_t2 (List.mem_of_getElem? (i := 29) rfl)) rfl
set_option maxRecDepth 100000 in
theorem tw_740 : (.code y_WM_table b_WM_table 4 (some .int)) ∈ TB := tw_f (tw_t2 (List.mem_of_getElem? (i := 30) rfl)) rfl
set_option maxRecDepth 100000 in
theorem tw_741 : (.methodLink R_law 31 y_Md_table) ∈ TB := tw_f (tw_t4 (List.mem_of_getElem? (i := 133) rfl)) rfl
set_option maxRecDepth 100000 in
theorem tw_742 : (.instanceMethod y_Md_table) ∈ TB := tw_f (tw_t4 (List.mem_of_getElem? (i := 134) rfl)) rfl
set_option maxRecDepth 100000 in
theorem tw_743 : (.selects R_Md y_Md_table y_Md_table) ∈ TB := tw_f (tw_t4 (List.mem_of_getElem? (i := 135) rfl)) rfl
set_option maxRecDepth 100000 in
theorem tw_744 : (.code y_Md_table b_Md_table 4 (some .int)) ∈ TB := tw_f (tw_t4 (List.mem_of_getElem? (i := 136) rfl)) rfl
set_option maxRecDepth 100000 in
theorem tw_745 : (.methodLink R_law 32 y_WM_flow) ∈ TB := tw_f (tw_t2 (List.mem_of_getElem? (i := 31) rfl)) rfl
set_option maxRecDepth 100000 in
theorem tw_746 : (.instanceMethod y_WM_flow) ∈ TB := tw_f (tw_t2 (List.mem_of_getElem? (i := 32) rfl)) rfl
set_option maxRecDepth 100000 in
theorem tw_747 : (.selects R_WM y_WM_flow y_WM_flow) ∈ TB := tw_f (tw_t2 (List.mem_of_getElem? (i := 33) rfl)) rfl
set_option maxRecDepth 100000 in
theorem tw_748 : (.code y_WM_flow b_WM_flow 3 (some .int)) ∈ TB := tw_f (tw_t2 (List.mem_of_getElem? (i := 34) rfl)) rfl
set_option maxRecDepth 100000 in
theorem tw_749 : (.methodLink R_law 35 y_Md_flow) ∈ TB := tw_f (tw_t4 (List.mem_of_getElem? (i := 137) rfl)) rfl
set_option maxRecDepth 100000 in
theorem tw_750 : (.instanceMethod y_Md_flow) ∈ TB := tw_f (tw_t4 (List.mem_of_getElem? (i := 138) rfl)) rfl
set_option maxRecDepth 100000 in
theorem tw_751 : (.selects R_Md y_Md_flow y_Md_flow) ∈ TB := tw_f (tw_t4 (List.mem_of_getElem? (i := 139) rfl)) rfl
set_option maxRecDepth 100000 in
theorem tw_752 : (.code y_Md_flow b_Md_flow 3 (some .int)) ∈ TB := tw_f (tw_t4 (List.mem_of_getElem? (i := 140) rfl)) rfl
set_option maxRecDepth 100000 in
theorem tw_753 : (.methodLink R_law 36 y_WM_frost) ∈ TB := tw_f (tw_t2 (List.mem_of_getElem? (i := 43) rfl)) rfl
set_option maxRecDepth 100000 in
theorem tw_754 : (.instanceMethod y_WM_frost) ∈ TB := tw_f (tw_t2 (List.mem_of_getElem? (i := 44) rfl)) rfl
set_option maxRecDepth 100000 in
theorem tw_755 : (.selects R_WM y_WM_frost y_WM_frost) ∈ TB := tw_f (tw_t2 (List.mem_of_getElem? (i := 45) rfl)) rfl
set_option maxRecDepth 100000 in
theorem tw_756 : (.code y_WM_frost b_WM_frost 4 (some .int)) ∈ TB := tw_f (tw_t2 (List.mem_of_getElem? (i := 46) rfl)) rfl
set_option maxRecDepth 100000 in
theorem tw_757 : (.methodLink R_law 39 y_Md_frost) ∈ TB := tw_f (tw_t4 (List.mem_of_getElem? (i := 150) rfl)) rfl
set_option maxRecDepth 100000 in
theorem tw_758 : (.instanceMethod y_Md_frost) ∈ TB := tw_f (tw_t4 (List.mem_of_getElem? (i := 151) rfl)) rfl
set_option maxRecDepth 100000 in
theorem tw_759 : (.selects R_Md y_Md_frost y_Md_frost) ∈ TB := tw_f (tw_t4 (List.mem_of_getElem? (i := 152) rfl)) rfl
set_option maxRecDepth 100000 in
theorem tw_760 : (.code y_Md_frost b_Md_frost 4 (some .int)) ∈ TB := tw_f (tw_t4 (List.mem_of_getElem? (i := 153) rfl)) rfl
set_option maxRecDepth 100000 in
theorem tw_761 : (.methodLink R_law 40 y_WM_free) ∈ TB := tw_f (tw_t2 (List.mem_of_getElem? (i := 56) rfl)) rfl
set_option maxRecDepth 100000 in
theorem tw_762 : (.instanceMethod y_WM_free) ∈ TB := tw_f (tw_t2 (List.mem_of_getElem? (i := 57) rfl)) rfl
set_option maxRecDepth 100000 in
theorem tw_763 : (.selects R_WM y_WM_free y_WM_free) ∈ TB := tw_f (tw_t2 (List.mem_of_getElem? (i := 58) rfl)) rfl
set_option maxRecDepth 100000 in
theorem tw_764 : (.code y_WM_free b_WM_free 3 (some .int)) ∈ TB := tw_f (tw_t2 (List.mem_of_getElem? (i := 59) rfl)) rfl
set_option maxRecDepth 100000 in
theorem tw_765 : (.methodLink R_law 43 y_Md_free) ∈ TB := tw_f (tw_t5 (List.mem_of_getElem? (i := 116) rfl)) rfl
set_option maxRecDepth 100000 in
theorem tw_766 : (.instanceMethod y_Md_free) ∈ TB := tw_f (tw_t5 (List.mem_of_getElem? (i := 117) rfl)) rfl
set_option maxRecDepth 100000 in
theorem tw_767 : (.selects R_Md y_Md_free y_Md_free) ∈ TB := tw_f (tw_t5 (List.mem_of_getElem? (i := 118) rfl)) rfl
set_option maxRecDepth 100000 in
theorem tw_768 : (.code y_Md_free b_Md_free 2 (some .int)) ∈ TB := tw_f (tw_t5 (List.mem_of_getElem? (i := 119) rfl)) rfl
set_option maxRecDepth 100000 in
theorem tw_769 : (.methodLink R_law 44 y_WM_bind) ∈ TB := tw_f (tw_t2 (List.mem_of_getElem? (i := 64) rfl)) rfl
set_option maxRecDepth 100000 in
theorem tw_770 : (.instanceMethod y_WM_bind) ∈ TB := tw_f (tw_t2 (List.mem_of_getElem? (i := 65) rfl)) rfl
set_option maxRecDepth 100000 in
theorem tw_771 : (.selects R_WM y_WM_bind y_WM_bind) ∈ TB := tw_f (tw_t2 (List.mem_of_getElem? (i := 66) rfl)) rfl
set_option maxRecDepth 100000 in
theorem tw_772 : (.code y_WM_bind b_WM_bind 5 (some .int)) ∈ TB := tw_f (tw_t2 (List.mem_of_getElem? (i := 67) rfl)) rfl
set_option maxRecDepth 100000 in
theorem tw_773 : (.methodLink R_law 47 y_Md_bind) ∈ TB := tw_f (tw_t5 (List.mem_of_getElem? (i := 123) rfl)) rfl
set_option maxRecDepth 100000 in
theorem tw_774 : (.instanceMethod y_Md_bind) ∈ TB := tw_f (tw_t5 (List.mem_of_getElem? (i := 124) rfl)) rfl
set_option maxRecDepth 100000 in
theorem tw_775 : (.selects R_Md y_Md_bind y_Md_bind) ∈ TB := tw_f (tw_t5 (List.mem_of_getElem? (i := 125) rfl)) rfl
set_option maxRecDepth 100000 in
theorem tw_776 : (.code y_Md_bind b_Md_bind 3 (some .int)) ∈ TB := tw_f (tw_t5 (List.mem_of_getElem? (i := 126) rfl)) rfl
set_option maxRecDepth 100000 in
theorem tw_777 : (.methodLink R_law 48 y_WM_absent) ∈ TB := tw_f (tw_t2 (List.mem_of_getElem? (i := 93) rfl)) rfl
set_option maxRecDepth 100000 in
theorem tw_778 : (.instanceMethod y_WM_absent) ∈ TB := tw_f (tw_t2 (List.mem_of_getElem? (i := 94) rfl)) rfl
set_option maxRecDepth 100000 in
theorem tw_779 : (.selects R_WM y_WM_absent y_WM_absent) ∈ TB := tw_f (tw_t2 (List.mem_of_getElem? (i := 95) rfl)) rfl
set_option maxRecDepth 100000 in
theorem tw_780 : (.code y_WM_absent b_WM_absent 6 (some .int)) ∈ TB := tw_f (tw_t2 (List.mem_of_getElem? (i := 96) rfl)) rfl
set_option maxRecDepth 100000 in
theorem tw_781 : (.methodLink R_law 51 y_Md_absent) ∈ TB := tw_f (tw_t5 (List.mem_of_getElem? (i := 127) rfl)) rfl
set_option maxRecDepth 100000 in
theorem tw_782 : (.instanceMethod y_Md_absent) ∈ TB := tw_f (tw_t5 (List.mem_of_getElem? (i := 128) rfl)) rfl
set_option maxRecDepth 100000 in
theorem tw_783 : (.selects R_Md y_Md_absent y_Md_absent) ∈ TB := tw_f (tw_t5 (List.mem_of_getElem? (i := 129) rfl)) rfl
set_option maxRecDepth 100000 in
theorem tw_784 : (.code y_Md_absent b_Md_absent 5 (some .int)) ∈ TB := tw_f (tw_t5 (List.mem_of_getElem? (i := 130) rfl)) rfl
set_option maxRecDepth 100000 in
theorem tw_785 : (.methodLink R_law 52 y_WM_served) ∈ TB := tw_f (tw_t2 (List.mem_of_getElem? (i := 105) rfl)) rfl
set_option maxRecDepth 100000 in
theorem tw_786 : (.methodLink R_law 55 y_Md_served) ∈ TB := tw_f (tw_t5 (List.mem_of_getElem? (i := 131) rfl)) rfl
set_option maxRecDepth 100000 in
theorem tw_787 : (.instanceMethod y_Md_served) ∈ TB := tw_f (tw_t5 (List.mem_of_getElem? (i := 132) rfl)) rfl
set_option maxRecDepth 100000 in
theorem tw_788 : (.selects R_Md y_Md_served y_Md_served) ∈ TB := tw_f (tw_t5 (List.mem_of_getElem? (i := 133) rfl)) rfl
set_option maxRecDepth 100000 in
theorem tw_789 : (.code y_Md_served b_Md_served 2 (some .int)) ∈ TB := tw_f (tw_t5 (List.mem_of_getElem? (i := 134) rfl)) rfl
set_option maxRecDepth 100000 in
theorem tw_790 : (.methodLink R_law 56 y_WM_pass) ∈ TB := tw_f (tw_t2 (List.mem_of_getElem? (i := 116) rfl)) rfl
set_option maxRecDepth 100000 in
theorem tw_791 : (.instanceMethod y_WM_pass) ∈ TB := tw_f (tw_t2 (List.mem_of_getElem? (i := 117) rfl)) rfl
set_option maxRecDepth 100000 in
theorem tw_792 : (.selects R_WM y_WM_pass y_WM_pass) ∈ TB := tw_f (tw_t2 (List.mem_of_getElem? (i := 118) rfl)) rfl
set_option maxRecDepth 100000 in
theorem tw_793 : (.code y_WM_pass b_WM_pass 4 (some .int)) ∈ TB := tw_f (tw_t2 (List.mem_of_getElem? (i := 119) rfl)) rfl
set_option maxRecDepth 100000 in
theorem tw_794 : (.methodLink R_law 59 y_Md_pass) ∈ TB := tw_f (tw_t5 (List.mem_of_getElem? (i := 139) rfl)) rfl
set_option maxRecDepth 100000 in
theorem tw_795 : (.instanceMethod y_Md_pass) ∈ TB := tw_f (tw_t5 (List.mem_of_getElem? (i := 140) rfl)) rfl
set_option maxRecDepth 100000 in
theorem tw_796 : (.selects R_Md y_Md_pass y_Md_pass) ∈ TB := tw_f (tw_t5 (List.mem_of_getElem? (i := 141) rfl)) rfl
set_option maxRecDepth 100000 in
theorem tw_797 : (.code y_Md_pass b_Md_pass 3 (some .int)) ∈ TB := tw_f (tw_t5 (List.mem_of_getElem? (i := 142) rfl)) rfl
set_option maxRecDepth 100000 in
theorem tw_798 : (.methodLink R_law 60 y_WM_man) ∈ TB := tw_f (tw_t2 (List.mem_of_getElem? (i := 121) rfl)) rfl
set_option maxRecDepth 100000 in
theorem tw_799 : (.instanceMethod y_WM_man) ∈ TB := tw_f (tw_t2 (List.mem_of_getElem? (i := 122) rfl)) rfl
set_option maxRecDepth 100000 in
theorem tw_800 : (.selects R_WM y_WM_man y_WM_man) ∈ TB := tw_f (tw_t2 (List.mem_of_getElem? (i := 123) rfl)) rfl
set_option maxRecDepth 100000 in
theorem tw_801 : (.code y_WM_man b_WM_man 4 (some .int)) ∈ TB := tw_f (tw_t2 (List.mem_of_getElem? (i := 124) rfl)) rfl
set_option maxRecDepth 100000 in
theorem tw_802 : (.methodLink R_law 63 y_Md_man) ∈ TB := tw_f (tw_t5 (List.mem_of_getElem? (i := 143) rfl)) rfl
set_option maxRecDepth 100000 in
theorem tw_803 : (.instanceMethod y_Md_man) ∈ TB := tw_f (tw_t5 (List.mem_of_getElem? (i := 144) rfl)) rfl
set_option maxRecDepth 100000 in
theorem tw_804 : (.selects R_Md y_Md_man y_Md_man) ∈ TB := tw_f (tw_t5 (List.mem_of_getElem? (i := 145) rfl)) rfl
set_option maxRecDepth 100000 in
theorem tw_805 : (.code y_Md_man b_Md_man 3 (some .int)) ∈ TB := tw_f (tw_t5 (List.mem_of_getElem? (i := 146) rfl)) rfl
set_option maxRecDepth 100000 in
theorem tw_806 : (.methodLink R_law 64 y_WM_boat) ∈ TB := tw_f (tw_t2 (List.mem_of_getElem? (i := 133) rfl)) rfl
set_option maxRecDepth 100000 in
theorem tw_807 : (.instanceMethod y_WM_boat) ∈ TB := tw_f (tw_t2 (List.mem_of_getElem? (i := 134) rfl)) rfl
set_option maxRecDepth 100000 in
theorem tw_808 : (.selects R_WM y_WM_boat y_WM_boat) ∈ TB := tw_f (tw_t2 (List.mem_of_getElem? (i := 135) rfl)) rfl
set_option maxRecDepth 100000 in
theorem tw_809 : (.code y_WM_boat b_WM_boat 3 (some .int)) ∈ TB := tw_f (tw_t2 (List.mem_of_getElem? (i := 136) rfl)) rfl
set_option maxRecDepth 100000 in
theorem tw_810 : (.methodLink R_law 67 y_Md_boat) ∈ TB := tw_f (tw_t5 (List.mem_of_getElem? (i := 171) rfl)) rfl
set_option maxRecDepth 100000 in
theorem tw_811 : (.instanceMethod y_Md_boat) ∈ TB := tw_f (tw_t5 (List.mem_of_getElem? (i := 172) rfl)) rfl
set_option maxRecDepth 100000 in
theorem tw_812 : (.selects R_Md y_Md_boat y_Md_boat) ∈ TB := tw_f (tw_t5 (List.mem_of_getElem? (i := 173) rfl)) rfl
set_option maxRecDepth 100000 in
theorem tw_813 : (.code y_Md_boat b_Md_boat 3 (some .int)) ∈ TB := tw_f (tw_t5 (List.mem_of_getElem? (i := 174) rfl)) rfl
set_option maxRecDepth 100000 in
theorem tw_814 : (.methodLink R_law 68 y_WM_craft) ∈ TB := tw_f (tw_t2 (List.mem_of_getElem? (i := 174) rfl)) rfl
set_option maxRecDepth 100000 in
theorem tw_815 : (.instanceMethod y_WM_craft) ∈ TB := tw_f (tw_t2 (List.mem_of_getElem? (i := 175) rfl)) rfl
set_option maxRecDepth 100000 in
theorem tw_816 : (.selects R_WM y_WM_craft y_WM_craft) ∈ TB := tw_f (tw_t2 (List.mem_of_getElem? (i := 176) rfl)) rfl
set_option maxRecDepth 100000 in
theorem tw_817 : (.code y_WM_craft b_WM_craft 4 (some .int)) ∈ TB := tw_f (tw_t2 (List.mem_of_getElem? (i := 177) rfl)) rfl
set_option maxRecDepth 100000 in
theorem tw_818 : (.methodLink R_law 71 y_Md_craft) ∈ TB := tw_f (tw_t5 (List.mem_of_getElem? (i := 175) rfl)) rfl
set_option maxRecDepth 100000 in
theorem tw_819 : (.instanceMethod y_Md_craft) ∈ TB := tw_f (tw_t5 (List.mem_of_getElem? (i := 176) rfl)) rfl
set_option maxRecDepth 100000 in
theorem tw_820 : (.selects R_Md y_Md_craft y_Md_craft) ∈ TB := tw_f (tw_t5 (List.mem_of_getElem? (i := 177) rfl)) rfl
set_option maxRecDepth 100000 in
theorem tw_821 : (.code y_Md_craft b_Md_craft 3 (some .int)) ∈ TB := tw_f (tw_t5 (List.mem_of_getElem? (i := 178) rfl)) rfl
set_option maxRecDepth 100000 in
theorem tw_822 : (.methodLink R_law 72 y_WM_join) ∈ TB := tw_f (tw_t2 (List.mem_of_getElem? (i := 186) rfl)) rfl
set_option maxRecDepth 100000 in
theorem tw_823 : (.instanceMethod y_WM_join) ∈ TB := tw_f (tw_t2 (List.mem_of_getElem? (i := 187) rfl)) rfl
set_option maxRecDepth 100000 in
theorem tw_824 : (.selects R_WM y_WM_join y_WM_join) ∈ TB := tw_f (tw_t2 (List.mem_of_getElem? (i := 188) rfl)) rfl
set_option maxRecDepth 100000 in
theorem tw_825 : (.code y_WM_join b_WM_join 4 (some .int)) ∈ TB := tw_f (tw_t2 (List.mem_of_getElem? (i := 189) rfl)) rfl
set_option maxRecDepth 100000 in
theorem tw_826 : (.methodLink R_law 75 y_Md_join) ∈ TB := tw_f (tw_t5 (List.mem_of_getElem? (i := 155) rfl)) rfl
set_option maxRecDepth 100000 in
theorem tw_827 : (.instanceMethod y_Md_join) ∈ TB := tw_f (tw_t5 (List.mem_of_getElem? (i := 156) rfl)) rfl
set_option maxRecDepth 100000 in
theorem tw_828 : (.selects R_Md y_Md_join y_Md_join) ∈ TB := tw_f (tw_t5 (List.mem_of_getElem? (i := 157) rfl)) rfl
set_option maxRecDepth 100000 in
theorem tw_829 : (.code y_Md_join b_Md_join 3 (some .int)) ∈ TB := tw_f (tw_t5 (List.mem_of_getElem? (i := 158) rfl)) rfl
set_option maxRecDepth 100000 in
theorem tw_830 : (.methodLink R_law 76 y_WM_leave) ∈ TB := tw_f (tw_t2 (List.mem_of_getElem? (i := 190) rfl)) rfl
set_option maxRecDepth 100000 in
theorem tw_831 : (.instanceMethod y_WM_leave) ∈ TB := tw_f (tw_t2 (List.mem_of_getElem? (i := 191) rfl)) rfl
set_option maxRecDepth 100000 in
theorem tw_832 : (.selects R_WM y_WM_leave y_WM_leave) ∈ TB := tw_f (tw_t2 (List.mem_of_getElem? (i := 192) rfl)) rfl
set_option maxRecDepth 100000 in
theorem tw_833 : (.code y_WM_leave b_WM_leave 3 (some .int)) ∈ TB := tw_f (tw_t2 (List.mem_of_getElem? (i := 193) rfl)) rfl
set_option maxRecDepth 100000 in
theorem tw_834 : (.methodLink R_law 79 y_Md_leave) ∈ TB := tw_f (tw_t5 (List.mem_of_getElem? (i := 163) rfl)) rfl
set_option maxRecDepth 100000 in
theorem tw_835 : (.instanceMethod y_Md_leave) ∈ TB := tw_f (tw_t5 (List.mem_of_getElem? (i := 164) rfl)) rfl
set_option maxRecDepth 100000 in
theorem tw_836 : (.selects R_Md y_Md_leave y_Md_leave) ∈ TB := tw_f (tw_t5 (List.mem_of_getElem? (i := 165) rfl)) rfl
set_option maxRecDepth 100000 in
theorem tw_837 : (.code y_Md_leave b_Md_leave 2 (some .int)) ∈ TB := tw_f (tw_t5 (List.mem_of_getElem? (i := 166) rfl)) rfl
set_option maxRecDepth 100000 in
theorem tw_838 : (.methodLink R_law 80 y_WM_feed) ∈ TB := tw_f (tw_t2 (List.mem_of_getElem? (i := 194) rfl)) rfl
set_option maxRecDepth 100000 in
theorem tw_839 : (.instanceMethod y_WM_feed) ∈ TB := tw_f (tw_t2 (List.mem_of_getElem? (i := 195) rfl)) rfl
set_option maxRecDepth 100000 in
theorem tw_840 : (.selects R_WM y_WM_feed y_WM_feed) ∈ TB := tw_f (tw_t2 (List.mem_of_getElem? (i := 196) rfl)) rfl
set_option maxRecDepth 100000 in
theorem tw_841 : (.code y_WM_feed b_WM_feed 6 (some .int)) ∈ TB := tw_f (tw_t2 (List.mem_of_getElem? (i := 197) rfl)) rfl
set_option maxRecDepth 100000 in
theorem tw_842 : (.methodLink R_law 84 y_Md_feed) ∈ TB := tw_f (tw_t5 (List.mem_of_getElem? (i := 183) rfl)) rfl
set_option maxRecDepth 100000 in
theorem tw_843 : (.instanceMethod y_Md_feed) ∈ TB := tw_f (tw_t5 (List.mem_of_getElem? (i := 184) rfl)) rfl
set_option maxRecDepth 100000 in
theorem tw_844 : (.selects R_Md y_Md_feed y_Md_feed) ∈ TB := tw_f (tw_t5 (List.mem_of_getElem? (i := 185) rfl)) rfl
set_option maxRecDepth 100000 in
theorem tw_845 : (.code y_Md_feed b_Md_feed 6 (some .int)) ∈ TB := tw_f (tw_t5 (List.mem_of_getElem? (i := 186) rfl)) rfl
set_option maxRecDepth 100000 in
theorem tw_846 : (.methodLink R_law 85 y_WM_end) ∈ TB := tw_f (tw_t2 (List.mem_of_getElem? (i := 206) rfl)) rfl
set_option maxRecDepth 100000 in
theorem tw_847 : (.instanceMethod y_WM_end) ∈ TB := tw_f (tw_t2 (List.mem_of_getElem? (i := 207) rfl)) rfl
set_option maxRecDepth 100000 in
theorem tw_848 : (.selects R_WM y_WM_end y_WM_end) ∈ TB := tw_f (tw_t2 (List.mem_of_getElem? (i := 208) rfl)) rfl
set_option maxRecDepth 100000 in
theorem tw_849 : (.code y_WM_end b_WM_end 2 (some .int)) ∈ TB := tw_f (tw_t2 (List.mem_of_getElem? (i := 209) rfl)) rfl
set_option maxRecDepth 100000 in
theorem tw_850 : (.methodLink R_law 88 y_Md_end) ∈ TB := tw_f (tw_t5 (List.mem_of_getElem? (i := 191) rfl)) rfl
set_option maxRecDepth 100000 in
theorem tw_851 : (.instanceMethod y_Md_end) ∈ TB := tw_f (tw_t5 (List.mem_of_getElem? (i := 192) rfl)) rfl
set_option maxRecDepth 100000 in
theorem tw_852 : (.selects R_Md y_Md_end y_Md_end) ∈ TB := tw_f (tw_t5 (List.mem_of_getElem? (i := 193) rfl)) rfl
set_option maxRecDepth 100000 in
theorem tw_853 : (.code y_Md_end b_Md_end 2 (some .int)) ∈ TB := tw_f (tw_t5 (List.mem_of_getElem? (i := 194) rfl)) rfl
set_option maxRecDepth 100000 in
theorem tw_854 : (.methodLink R_law 89 y_WM_order) ∈ TB := tw_f (tw_t2 (List.mem_of_getElem? (i := 210) rfl)) rfl
set_option maxRecDepth 100000 in
theorem tw_855 : (.instanceMethod y_WM_order) ∈ TB := tw_f (tw_t2 (List.mem_of_getElem? (i := 211) rfl)) rfl
set_option maxRecDepth 100000 in
theorem tw_856 : (.selects R_WM y_WM_order y_WM_order) ∈ TB := tw_f (tw_t2 (List.mem_of_getElem? (i := 212) rfl)) rfl
set_option maxRecDepth 100000 in
theorem tw_857 : (.code y_WM_order b_WM_order 3 (some .int)) ∈ TB := tw_f (tw_t2 (List.mem_of_getElem? (i := 213) rfl)) rfl
set_option maxRecDepth 100000 in
theorem tw_858 : (.methodLink R_law 92 y_Md_order) ∈ TB := tw_f (tw_t5 (List.mem_of_getElem? (i := 195) rfl)) rfl
set_option maxRecDepth 100000 in
theorem tw_859 : (.instanceMethod y_Md_order) ∈ TB := tw_f (tw_t5 (List.mem_of_getElem? (i := 196) rfl)) rfl
set_option maxRecDepth 100000 in
theorem tw_860 : (.selects R_Md y_Md_order y_Md_order) ∈ TB := tw_f (tw_t5 (List.mem_of_getElem? (i := 197) rfl)) rfl
set_option maxRecDepth 100000 in
theorem tw_861 : (.code y_Md_order b_Md_order 5 (some .int)) ∈ TB := tw_f (tw_t5 (List.mem_of_getElem? (i := 198) rfl)) rfl
set_option maxRecDepth 100000 in
theorem tw_862 : (.methodLink R_law 93 y_WM_inForce) ∈ TB := tw_f (tw_t3 (List.mem_of_getElem? (i := 90) rfl)) rfl
set_option maxRecDepth 100000 in
theorem tw_863 : (.instanceMethod y_WM_inForce) ∈ TB := tw_f (tw_t3 (List.mem_of_getElem? (i := 91) rfl)) rfl
set_option maxRecDepth 100000 in
theorem tw_864 : (.selects R_WM y_WM_inForce y_WM_inForce) ∈ TB := tw_f (tw_t3 (List.mem_of_getElem? (i := 92) rfl)) rfl
set_option maxRecDepth 100000 in
theorem tw_865 : (.code y_WM_inForce b_WM_inForce 3 (some .int)) ∈ TB := tw_f (tw_t3 (List.mem_of_getElem? (i := 93) rfl)) rfl
set_option maxRecDepth 100000 in
theorem tw_866 : (.methodLink R_law 96 y_Md_inForce) ∈ TB := tw_f (tw_t5 (List.mem_of_getElem? (i := 233) rfl)) rfl
set_option maxRecDepth 100000 in
theorem tw_867 : (.instanceMethod y_Md_inForce) ∈ TB := tw_f (tw_t5 (List.mem_of_getElem? (i := 234) rfl)) rfl
set_option maxRecDepth 100000 in
theorem tw_868 : (.selects R_Md y_Md_inForce y_Md_inForce) ∈ TB := tw_f (tw_t5 (List.mem_of_getElem? (i := 235) rfl)) rfl
set_option maxRecDepth 100000 in
theorem tw_869 : (.code y_Md_inForce b_Md_inForce 3 (some .int)) ∈ TB := tw_f (tw_t5 (List.mem_of_getElem? (i := 236) rfl)) rfl
set_option maxRecDepth 100000 in
theorem tw_870 : (.methodLink R_law 97 y_WM_fare) ∈ TB := tw_f (tw_t3 (List.mem_of_getElem? (i := 102) rfl)) rfl
set_option maxRecDepth 100000 in
theorem tw_871 : (.instanceMethod y_WM_fare) ∈ TB := tw_f (tw_t3 (List.mem_of_getElem? (i := 103) rfl)) rfl
set_option maxRecDepth 100000 in
theorem tw_872 : (.selects R_WM y_WM_fare y_WM_fare) ∈ TB := tw_f (tw_t3 (List.mem_of_getElem? (i := 104) rfl)) rfl
set_option maxRecDepth 100000 in
theorem tw_873 : (.code y_WM_fare b_WM_fare 8 (some .int)) ∈ TB := tw_f (tw_t3 (List.mem_of_getElem? (i := 105) rfl)) rfl
set_option maxRecDepth 100000 in
theorem tw_874 : (.methodLink R_law 100 y_Md_fare) ∈ TB := tw_f (tw_t6 (List.mem_of_getElem? (i := 1) rfl)) rfl
set_option maxRecDepth 100000 in
theorem tw_875 : (.instanceMethod y_Md_fare) ∈ TB := tw_f (tw_t6 (List.mem_of_getElem? (i := 2) rfl)) rfl
set_option maxRecDepth 100000 in
theorem tw_876 : (.selects R_Md y_Md_fare y_Md_fare) ∈ TB := tw_f (tw_t6 (List.mem_of_getElem? (i := 3) rfl)) rfl
set_option maxRecDepth 100000 in
theorem tw_877 : (.code y_Md_fare b_Md_fare 6 (some .int)) ∈ TB := tw_f (tw_t6 (List.mem_of_getElem? (i := 4) rfl)) rfl
set_option maxRecDepth 100000 in
theorem tw_878 : (.methodLink R_law 101 y_WM_why) ∈ TB := tw_f (tw_t3 (List.mem_of_getElem? (i := 145) rfl)) rfl
set_option maxRecDepth 100000 in
theorem tw_879 : (.instanceMethod y_WM_why) ∈ TB := tw_f (tw_t3 (List.mem_of_getElem? (i := 146) rfl)) rfl
set_option maxRecDepth 100000 in
theorem tw_880 : (.selects R_WM y_WM_why y_WM_why) ∈ TB := tw_f (tw_t3 (List.mem_of_getElem? (i := 147) rfl)) rfl
set_option maxRecDepth 100000 in
theorem tw_881 : (.code y_WM_why b_WM_why 6 (some .int)) ∈ TB := tw_f (tw_t3 (List.mem_of_getElem? (i := 148) rfl)) rfl
set_option maxRecDepth 100000 in
theorem tw_882 : (.methodLink R_law 104 y_Md_why) ∈ TB := tw_f (tw_t6 (List.mem_of_getElem? (i := 19) rfl)) rfl
set_option maxRecDepth 100000 in
theorem tw_883 : (.instanceMethod y_Md_why) ∈ TB := tw_f (tw_t6 (List.mem_of_getElem? (i := 20) rfl)) rfl
set_option maxRecDepth 100000 in
theorem tw_884 : (.selects R_Md y_Md_why y_Md_why) ∈ TB := tw_f (tw_t6 (List.mem_of_getElem? (i := 21) rfl)) rfl
set_option maxRecDepth 100000 in
theorem tw_885 : (.code y_Md_why b_Md_why 4 (some .int)) ∈ TB := tw_f (tw_t6 (List.mem_of_getElem? (i := 22) rfl)) rfl
set_option maxRecDepth 100000 in
theorem tw_886 : (.methodLink R_law 105 y_WM_row) ∈ TB := tw_f (tw_t3 (List.mem_of_getElem? (i := 186) rfl)) rfl
set_option maxRecDepth 100000 in
theorem tw_887 : (.instanceMethod y_WM_row) ∈ TB := tw_f (tw_t3 (List.mem_of_getElem? (i := 187) rfl)) rfl
set_option maxRecDepth 100000 in
theorem tw_888 : (.selects R_WM y_WM_row y_WM_row) ∈ TB := tw_f (tw_t3 (List.mem_of_getElem? (i := 188) rfl)) rfl
set_option maxRecDepth 100000 in
theorem tw_889 : (.code y_WM_row b_WM_row 9 (some .int)) ∈ TB := tw_f (tw_t3 (List.mem_of_getElem? (i := 189) rfl)) rfl
set_option maxRecDepth 100000 in
theorem tw_890 : (.methodLink R_law 109 y_Md_row) ∈ TB := tw_f (tw_t6 (List.mem_of_getElem? (i := 40) rfl)) rfl
set_option maxRecDepth 100000 in
theorem tw_891 : (.instanceMethod y_Md_row) ∈ TB := tw_f (tw_t6 (List.mem_of_getElem? (i := 41) rfl)) rfl
set_option maxRecDepth 100000 in
theorem tw_892 : (.selects R_Md y_Md_row y_Md_row) ∈ TB := tw_f (tw_t6 (List.mem_of_getElem? (i := 42) rfl)) rfl
set_option maxRecDepth 100000 in
theorem tw_893 : (.code y_Md_row b_Md_row 7 (some .int)) ∈ TB := tw_f (tw_t6 (List.mem_of_getElem? (i := 43) rfl)) rfl
set_option maxRecDepth 100000 in
theorem tw_894 : (.methodLink R_law 110 y_WM_minutes) ∈ TB := tw_f (tw_t4 (List.mem_of_getElem? (i := 6) rfl)) rfl
set_option maxRecDepth 100000 in
theorem tw_895 : (.instanceMethod y_WM_minutes) ∈ TB := tw_f (tw_t4 (List.mem_of_getElem? (i := 7) rfl)) rfl
set_option maxRecDepth 100000 in
theorem tw_896 : (.selects R_WM y_WM_minutes y_WM_minutes) ∈ TB := tw_f (tw_t4 (List.mem_of_getElem? (i := 8) rfl)) rfl
set_option maxRecDepth 100000 in
theorem tw_897 : (.code y_WM_minutes b_WM_minutes 4 (some .int)) ∈ TB := tw_f (tw_t4 (List.mem_of_getElem? (i := 9) rfl)) rfl
set_option maxRecDepth 100000 in
theorem tw_898 : (.methodLink R_law 113 y_Md_minutes) ∈ TB := tw_f (tw_t6 (List.mem_of_getElem? (i := 44) rfl)) rfl
set_option maxRecDepth 100000 in
theorem tw_899 : (.instanceMethod y_Md_minutes) ∈ TB := tw_f (tw_t6 (List.mem_of_getElem? (i := 45) rfl)) rfl
set_option maxRecDepth 100000 in
theorem tw_900 : (.selects R_Md y_Md_minutes y_Md_minutes) ∈ TB := tw_f (tw_t6 (List.mem_of_getElem? (i := 46) rfl)) rfl
set_option maxRecDepth 100000 in
theorem tw_901 : (.code y_Md_minutes b_Md_minutes 3 (some .int)) ∈ TB := tw_f (tw_t6 (List.mem_of_getElem? (i := 47) rfl)) rfl
set_option maxRecDepth 100000 in
theorem tw_902 : (.methodLink R_law 114 y_WM_sink) ∈ TB := tw_f (tw_t4 (List.mem_of_getElem? (i := 22) rfl)) rfl
set_option maxRecDepth 100000 in
theorem tw_903 : (.instanceMethod y_WM_sink) ∈ TB := tw_f (tw_t4 (List.mem_of_getElem? (i := 23) rfl)) rfl
set_option maxRecDepth 100000 in
theorem tw_904 : (.selects R_WM y_WM_sink y_WM_sink) ∈ TB := tw_f (tw_t4 (List.mem_of_getElem? (i := 24) rfl)) rfl
set_option maxRecDepth 100000 in
theorem tw_905 : (.code y_WM_sink b_WM_sink 7 (some .int)) ∈ TB := tw_f (tw_t4 (List.mem_of_getElem? (i := 25) rfl)) rfl
set_option maxRecDepth 100000 in
theorem tw_906 : (.methodLink R_law 117 y_Md_sink) ∈ TB := tw_f (tw_t6 (List.mem_of_getElem? (i := 60) rfl)) rfl
set_option maxRecDepth 100000 in
theorem tw_907 : (.instanceMethod y_Md_sink) ∈ TB := tw_f (tw_t6 (List.mem_of_getElem? (i := 61) rfl)) rfl
set_option maxRecDepth 100000 in
theorem tw_908 : (.selects R_Md y_Md_sink y_Md_sink) ∈ TB := tw_f (tw_t6 (List.mem_of_getElem? (i := 62) rfl)) rfl
set_option maxRecDepth 100000 in
theorem tw_909 : (.code y_Md_sink b_Md_sink 5 (some .int)) ∈ TB := tw_f (tw_t6 (List.mem_of_getElem? (i := 63) rfl)) rfl
set_option maxRecDepth 100000 in
theorem tw_910 : (.methodLink R_law 118 y_WM_trip) ∈ TB := tw_f (tw_t4 (List.mem_of_getElem? (i := 57) rfl)) rfl
set_option maxRecDepth 100000 in
theorem tw_911 : (.instanceMethod y_WM_trip) ∈ TB := tw_f (tw_t4 (List.mem_of_getElem? (i := 58) rfl)) rfl
set_option maxRecDepth 100000 in
theorem tw_912 : (.selects R_WM y_WM_trip y_WM_trip) ∈ TB := tw_f (tw_t4 (List.mem_of_getElem? (i := 59) rfl)) rfl
set_option maxRecDepth 100000 in
theorem tw_913 : (.code y_WM_trip b_WM_trip 4 (some .int)) ∈ TB := tw_f (tw_t4 (List.mem_of_getElem? (i := 60) rfl)) rfl
set_option maxRecDepth 100000 in
theorem tw_914 : (.methodLink R_law 121 y_Md_trip) ∈ TB := tw_f (tw_t6 (List.mem_of_getElem? (i := 71) rfl)) rfl
set_option maxRecDepth 100000 in
theorem tw_915 : (.instanceMethod y_Md_trip) ∈ TB := tw_f (tw_t6 (List.mem_of_getElem? (i := 72) rfl)) rfl
set_option maxRecDepth 100000 in
theorem tw_916 : (.selects R_Md y_Md_trip y_Md_trip) ∈ TB := tw_f (tw_t6 (List.mem_of_getElem? (i := 73) rfl)) rfl
set_option maxRecDepth 100000 in
theorem tw_917 : (.code y_Md_trip b_Md_trip 3 (some .int)) ∈ TB := tw_f (tw_t6 (List.mem_of_getElem? (i := 74) rfl)) rfl
set_option maxRecDepth 100000 in
theorem tw_918 : (.methodLink R_law 122 y_WM_due) ∈ TB := tw_f (tw_t4 (List.mem_of_getElem? (i := 61) rfl)) rfl
set_option maxRecDepth 100000 in
theorem tw_919 : (.instanceMethod y_WM_due) ∈ TB := tw_f (tw_t4 (List.mem_of_getElem? (i := 62) rfl)) rfl
set_option maxRecDepth 100000 in
theorem tw_920 : (.selects R_WM y_WM_due y_WM_due) ∈ TB := tw_f (tw_t4 (List.mem_of_getElem? (i := 63) rfl)) rfl
set_option maxRecDepth 100000 in
theorem tw_921 : (.code y_WM_due b_WM_due 4 (some .int)) ∈ TB := tw_f (tw_t4 (List.mem_of_getElem? (i := 64) rfl)) rfl
set_option maxRecDepth 100000 in
theorem tw_922 : (.methodLink R_law 125 y_Md_due) ∈ TB := tw_f (tw_t6 (List.mem_of_getElem? (i := 75) rfl)) rfl
set_option maxRecDepth 100000 in
theorem tw_923 : (.instanceMethod y_Md_due) ∈ TB := tw_f (tw_t6 (List.mem_of_getElem? (i := 76) rfl)) rfl
set_option maxRecDepth 100000 in
theorem tw_924 : (.selects R_Md y_Md_due y_Md_due) ∈ TB := tw_f (tw_t6 (List.mem_of_getElem? (i := 77) rfl)) rfl
set_option maxRecDepth 100000 in
theorem tw_925 : (.code y_Md_due b_Md_due 3 (some .int)) ∈ TB := tw_f (tw_t6 (List.mem_of_getElem? (i := 78) rfl)) rfl
set_option maxRecDepth 100000 in
theorem tw_926 : (.methodLink R_law 126 y_WM_over) ∈ TB := tw_f (tw_t4 (List.mem_of_getElem? (i := 69) rfl)) rfl
set_option maxRecDepth 100000 in
theorem tw_927 : (.instanceMethod y_WM_over) ∈ TB := tw_f (tw_t4 (List.mem_of_getElem? (i := 70) rfl)) rfl
set_option maxRecDepth 100000 in
theorem tw_928 : (.selects R_WM y_WM_over y_WM_over) ∈ TB := tw_f (tw_t4 (List.mem_of_getElem? (i := 71) rfl)) rfl
set_option maxRecDepth 100000 in
theorem tw_929 : (.code y_WM_over b_WM_over 6 (some .int)) ∈ TB := tw_f (tw_t4 (List.mem_of_getElem? (i := 72) rfl)) rfl
set_option maxRecDepth 100000 in
theorem tw_930 : (.methodLink R_law 129 y_Md_over) ∈ TB := tw_f (tw_t6 (List.mem_of_getElem? (i := 83) rfl)) rfl
set_option maxRecDepth 100000 in
theorem tw_931 : (.instanceMethod y_Md_over) ∈ TB := tw_f (tw_t6 (List.mem_of_getElem? (i := 84) rfl)) rfl
set_option maxRecDepth 100000 in
theorem tw_932 : (.selects R_Md y_Md_over y_Md_over) ∈ TB := tw_f (tw_t6 (List.mem_of_getElem? (i := 85) rfl)) rfl
set_option maxRecDepth 100000 in
theorem tw_933 : (.code y_Md_over b_Md_over 6 (some .int)) ∈ TB := tw_f (tw_t6 (List.mem_of_getElem? (i := 86) rfl)) rfl
set_option maxRecDepth 100000 in
theorem tw_934 : (.methodLink R_law 130 y_WM_pension) ∈ TB := tw_f (tw_t4 (List.mem_of_getElem? (i := 77) rfl)) rfl
set_option maxRecDepth 100000 in
theorem tw_935 : (.instanceMethod y_WM_pension) ∈ TB := tw_f (tw_t4 (List.mem_of_getElem? (i := 78) rfl)) rfl
set_option maxRecDepth 100000 in
theorem tw_936 : (.selects R_WM y_WM_pension y_WM_pension) ∈ TB := tw_f (tw_t4 (List.mem_of_getElem? (i := 79) rfl)) rfl
set_option maxRecDepth 100000 in
theorem tw_937 : (.code y_WM_pension b_WM_pension 3 (some .int)) ∈ TB := tw_f (tw_t4 (List.mem_of_getElem? (i := 80) rfl)) rfl
set_option maxRecDepth 100000 in
theorem tw_938 : (.methodLink R_law 133 y_Md_pension) ∈ TB := tw_f (tw_t6 (List.mem_of_getElem? (i := 87) rfl)) rfl
set_option maxRecDepth 100000 in
theorem tw_939 : (.instanceMethod y_Md_pension) ∈ TB := tw_f (tw_t6 (List.mem_of_getElem? (i := 88) rfl)) rfl
set_option maxRecDepth 100000 in
theorem tw_940 : (.selects R_Md y_Md_pension y_Md_pension) ∈ TB := tw_f (tw_t6 (List.mem_of_getElem? (i := 89) rfl)) rfl
set_option maxRecDepth 100000 in
theorem tw_941 : (.code y_Md_pension b_Md_pension 3 (some .int)) ∈ TB := tw_f (tw_t6 (List.mem_of_getElem? (i := 90) rfl)) rfl
set_option maxRecDepth 100000 in
theorem tw_942 : (.methodLink R_law 134 y_WM_foretold) ∈ TB := tw_f (tw_t4 (List.mem_of_getElem? (i := 81) rfl)) rfl
set_option maxRecDepth 100000 in
theorem tw_943 : (.instanceMethod y_WM_foretold) ∈ TB := tw_f (tw_t4 (List.mem_of_getElem? (i := 82) rfl)) rfl
set_option maxRecDepth 100000 in
theorem tw_944 : (.selects R_WM y_WM_foretold y_WM_foretold) ∈ TB := tw_f (tw_t4 (List.mem_of_getElem? (i := 83) rfl)) rfl
set_option maxRecDepth 100000 in
theorem tw_945 : (.code y_WM_foretold b_WM_foretold 2 (some .int)) ∈ TB := tw_f (tw_t4 (List.mem_of_getElem? (i := 84) rfl)) rfl
set_option maxRecDepth 100000 in
theorem tw_946 : (.methodLink R_law 138 y_Md_foretold) ∈ TB := tw_f (tw_t6 (List.mem_of_getElem? (i := 91) rfl)) rfl
set_option maxRecDepth 100000 in
theorem tw_947 : (.instanceMethod y_Md_foretold) ∈ TB := tw_f (tw_t6 (List.mem_of_getElem? (i := 92) rfl)) rfl
set_option maxRecDepth 100000 in
theorem tw_948 : (.selects R_Md y_Md_foretold y_Md_foretold) ∈ TB := tw_f (tw_t6 (List.mem_of_getElem? (i := 93) rfl)) rfl
set_option maxRecDepth 100000 in
theorem tw_949 : (.code y_Md_foretold b_Md_foretold 8 (some .int)) ∈ TB := tw_f (tw_t6 (List.mem_of_getElem? (i := 94) rfl)) rfl
set_option maxRecDepth 100000 in
theorem tw_950 : (.methodLink R_law 139 y_WM_pensioner) ∈ TB := tw_f (tw_t4 (List.mem_of_getElem? (i := 94) rfl)) rfl
set_option maxRecDepth 100000 in
theorem tw_951 : (.instanceMethod y_WM_pensioner) ∈ TB := tw_f (tw_t4 (List.mem_of_getElem? (i := 95) rfl)) rfl
set_option maxRecDepth 100000 in
theorem tw_952 : (.selects R_WM y_WM_pensioner y_WM_pensioner) ∈ TB := tw_f (tw_t4 (List.mem_of_getElem? (i := 96) rfl)) rfl
set_option maxRecDepth 100000 in
theorem tw_953 : (.code y_WM_pensioner b_WM_pensioner 4 (some .int)) ∈ TB := tw_f (tw_t4 (List.mem_of_getElem? (i := 97) rfl)) rfl
set_option maxRecDepth 100000 in
theorem tw_954 : (.methodLink R_law 142 y_Md_pensioner) ∈ TB := tw_f (tw_t6 (List.mem_of_getElem? (i := 95) rfl)) rfl
set_option maxRecDepth 100000 in
theorem tw_955 : (.instanceMethod y_Md_pensioner) ∈ TB := tw_f (tw_t6 (List.mem_of_getElem? (i := 96) rfl)) rfl
set_option maxRecDepth 100000 in
theorem tw_956 : (.selects R_Md y_Md_pensioner y_Md_pensioner) ∈ TB := tw_f (tw_t6 (List.mem_of_getElem? (i := 97) rfl)) rfl
set_option maxRecDepth 100000 in
theorem tw_957 : (.code y_Md_pensioner b_Md_pensioner 3 (some .int)) ∈ TB := tw_f (tw_t6 (List.mem_of_getElem? (i := 98) rfl)) rfl
set_option maxRecDepth 100000 in
theorem tw_958 : (.methodLink R_law 143 y_WM_count) ∈ TB := tw_f (tw_t4 (List.mem_of_getElem? (i := 99) rfl)) rfl
set_option maxRecDepth 100000 in
theorem tw_959 : (.instanceMethod y_WM_count) ∈ TB := tw_f (tw_t4 (List.mem_of_getElem? (i := 100) rfl)) rfl
set_option maxRecDepth 100000 in
theorem tw_960 : (.selects R_WM y_WM_count y_WM_count) ∈ TB := tw_f (tw_t4 (List.mem_of_getElem? (i := 101) rfl)) rfl
set_option maxRecDepth 100000 in
theorem tw_961 : (.code y_WM_count b_WM_count 2 (some .int)) ∈ TB := tw_f (tw_t4 (List.mem_of_getElem? (i := 102) rfl)) rfl
set_option maxRecDepth 100000 in
theorem tw_962 : (.methodLink R_law 146 y_Md_count) ∈ TB := tw_f (tw_t6 (List.mem_of_getElem? (i := 99) rfl)) rfl
set_option maxRecDepth 100000 in
theorem tw_963 : (.instanceMethod y_Md_count) ∈ TB := tw_f (tw_t6 (List.mem_of_getElem? (i := 100) rfl)) rfl
set_option maxRecDepth 100000 in
theorem tw_964 : (.selects R_Md y_Md_count y_Md_count) ∈ TB := tw_f (tw_t6 (List.mem_of_getElem? (i := 101) rfl)) rfl
set_option maxRecDepth 100000 in
theorem tw_965 : (.code y_Md_count b_Md_count 2 (some .int)) ∈ TB := tw_f (tw_t6 (List.mem_of_getElem? (i := 102) rfl)) rfl
set_option maxRecDepth 100000 in
theorem tw_966 : (.methodLink R_law 147 y_WM_coins) ∈ TB := tw_f (tw_t4 (List.mem_of_getElem? (i := 107) rfl)) rfl
set_option maxRecDepth 100000 in
theorem tw_967 : (.instanceMethod y_WM_coins) ∈ TB := tw_f (tw_t4 (List.mem_of_getElem? (i := 108) rfl)) rfl
set_option maxRecDepth 100000 in
theorem tw_968 : (.selects R_WM y_WM_coins y_WM_coins) ∈ TB := tw_f (tw_t4 (List.mem_of_getElem? (i := 109) rfl)) rfl
set_option maxRecDepth 100000 in
theorem tw_969 : (.code y_WM_coins b_WM_coins 2 (some .int)) ∈ TB := tw_f (tw_t4 (List.mem_of_getElem? (i := 110) rfl)) rfl
set_option maxRecDepth 100000 in
theorem tw_970 : (.methodLink R_law 150 y_Md_coins) ∈ TB := tw_f (tw_t6 (List.mem_of_getElem? (i := 107) rfl)) rfl
set_option maxRecDepth 100000 in
theorem tw_971 : (.instanceMethod y_Md_coins) ∈ TB := tw_f (tw_t6 (List.mem_of_getElem? (i := 108) rfl)) rfl
set_option maxRecDepth 100000 in
theorem tw_972 : (.selects R_Md y_Md_coins y_Md_coins) ∈ TB := tw_f (tw_t6 (List.mem_of_getElem? (i := 109) rfl)) rfl
set_option maxRecDepth 100000 in
theorem tw_973 : (.code y_Md_coins b_Md_coins 5 (some .int)) ∈ TB := tw_f (tw_t6 (List.mem_of_getElem? (i := 110) rfl)) rfl
set_option maxRecDepth 100000 in
theorem tw_974 : (.instantiable R_WM 13) ∈ TB := tw_f (tw_t1 (List.mem_of_getElem? (i := 18) rfl)) rfl
set_option maxRecDepth 100000 in
theorem tw_975 : (.instantiable R_Md 64) ∈ TB := tw_f (tw_t4 (List.mem_of_getElem? (i := 144) rfl)) rfl
set_option maxRecDepth 100000 in
theorem tw_976 : (.classLink R_law 7 R_WM) ∈ TB := tw_f (tw_t1 (List.mem_of_getElem? (i := 17) rfl)) rfl
set_option maxRecDepth 100000 in
theorem tw_977 : (.code y_WM_init b_WM_init 2 none) ∈ TB := tw_f (tw_t1 (List.mem_of_getElem? (i := 21) rfl)) rfl
set_option maxRecDepth 100000 in
theorem tw_978 : (.methodLink R_law 9 y_WM_init) ∈ TB := tw_f (tw_t1 (List.mem_of_getElem? (i := 19) rfl)) rfl
set_option maxRecDepth 100000 in
theorem tw_979 : (.instanceMethod y_WM_init) ∈ TB := tw_f (tw_t1 (List.mem_of_getElem? (i := 20) rfl)) rfl
set_option maxRecDepth 100000 in
theorem tw_980 : (.classLink R_law 10 R_Md) ∈ TB := tw_f (tw_t4 (List.mem_of_getElem? (i := 158) rfl)) rfl
set_option maxRecDepth 100000 in
theorem tw_981 : (.code y_Md_init b_Md_init 2 none) ∈ TB := tw_f (tw_t4 (List.mem_of_getElem? (i := 161) rfl)) rfl
set_option maxRecDepth 100000 in
theorem tw_982 : (.methodLink R_law 12 y_Md_init) ∈ TB := tw_f (tw_t4 (List.mem_of_getElem? (i := 159) rfl)) rfl
set_option maxRecDepth 100000 in
theorem tw_983 : (.instanceMethod y_Md_init) ∈ TB := tw_f (tw_t4 (List.mem_of_getElem? (i := 160) rfl)) rfl
set_option maxRecDepth 100000 in
theorem d_Bx_init_0 : decode b_Bx_init 0 = .ok (.aload_n 0, 1) := by decide +kernel
set_option maxRecDepth 100000 in
theorem d_Bx_init_1 : decode b_Bx_init 1 = .ok (.invokespecial 3, 3) := by decide +kernel
set_option maxRecDepth 100000 in
theorem d_Bx_init_4 : decode b_Bx_init 4 = .ok (.aload_n 0, 1) := by decide +kernel
set_option maxRecDepth 100000 in
theorem d_Bx_init_5 : decode b_Bx_init 5 = .ok (.sipush 500, 3) := by decide +kernel
set_option maxRecDepth 100000 in
theorem d_Bx_init_8 : decode b_Bx_init 8 = .ok (.newarray .int, 2) := by decide +kernel
set_option maxRecDepth 100000 in
theorem d_Bx_init_10 : decode b_Bx_init 10 = .ok (.putfield 9, 3) := by decide +kernel
set_option maxRecDepth 100000 in
theorem d_Bx_init_13 : decode b_Bx_init 13 = .ok (.aload_n 0, 1) := by decide +kernel
set_option maxRecDepth 100000 in
theorem d_Bx_init_14 : decode b_Bx_init 14 = .ok (.bipush 30, 2) := by decide +kernel
set_option maxRecDepth 100000 in
theorem d_Bx_init_16 : decode b_Bx_init 16 = .ok (.anewarray 15, 3) := by decide +kernel
set_option maxRecDepth 100000 in
theorem d_Bx_init_19 : decode b_Bx_init 19 = .ok (.putfield 17, 3) := by decide +kernel
set_option maxRecDepth 100000 in
theorem d_Bx_init_22 : decode b_Bx_init 22 = .ok (.return_, 1) := by decide +kernel
set_option maxRecDepth 100000 in
theorem d_Md_init_0 : decode b_Md_init 0 = .ok (.aload_n 0, 1) := by decide +kernel
set_option maxRecDepth 100000 in
theorem d_Md_init_1 : decode b_Md_init 1 = .ok (.invokespecial 52, 3) := by decide +kernel
set_option maxRecDepth 100000 in
theorem d_Md_init_4 : decode b_Md_init 4 = .ok (.aload_n 0, 1) := by decide +kernel
set_option maxRecDepth 100000 in
theorem d_Md_init_5 : decode b_Md_init 5 = .ok (.bipush 12, 2) := by decide +kernel
set_option maxRecDepth 100000 in
theorem d_Md_init_7 : decode b_Md_init 7 = .ok (.newarray .int, 2) := by decide +kernel
set_option maxRecDepth 100000 in
theorem d_Md_init_9 : decode b_Md_init 9 = .ok (.putfield 32, 3) := by decide +kernel
set_option maxRecDepth 100000 in
theorem d_Md_init_12 : decode b_Md_init 12 = .ok (.aload_n 0, 1) := by decide +kernel
set_option maxRecDepth 100000 in
theorem d_Md_init_13 : decode b_Md_init 13 = .ok (.iconst (-1), 1) := by decide +kernel
set_option maxRecDepth 100000 in
theorem d_Md_init_14 : decode b_Md_init 14 = .ok (.putfield 35, 3) := by decide +kernel
set_option maxRecDepth 100000 in
theorem d_Md_init_17 : decode b_Md_init 17 = .ok (.aload_n 0, 1) := by decide +kernel
set_option maxRecDepth 100000 in
theorem d_Md_init_18 : decode b_Md_init 18 = .ok (.bipush 12, 2) := by decide +kernel
set_option maxRecDepth 100000 in
theorem d_Md_init_20 : decode b_Md_init 20 = .ok (.newarray .int, 2) := by decide +kernel
set_option maxRecDepth 100000 in
theorem d_Md_init_22 : decode b_Md_init 22 = .ok (.putfield 25, 3) := by decide +kernel
set_option maxRecDepth 100000 in
theorem d_Md_init_25 : decode b_Md_init 25 = .ok (.aload_n 0, 1) := by decide +kernel
set_option maxRecDepth 100000 in
theorem d_Md_init_26 : decode b_Md_init 26 = .ok (.sipush 500, 3) := by decide +kernel
set_option maxRecDepth 100000 in
theorem d_Md_init_29 : decode b_Md_init 29 = .ok (.newarray .boolean, 2) := by decide +kernel
set_option maxRecDepth 100000 in
theorem d_Md_init_31 : decode b_Md_init 31 = .ok (.putfield 17, 3) := by decide +kernel
set_option maxRecDepth 100000 in
theorem d_Md_init_34 : decode b_Md_init 34 = .ok (.aload_n 0, 1) := by decide +kernel
set_option maxRecDepth 100000 in
theorem d_Md_init_35 : decode b_Md_init 35 = .ok (.sipush 6000, 3) := by decide +kernel
set_option maxRecDepth 100000 in
theorem d_Md_init_38 : decode b_Md_init 38 = .ok (.newarray .int, 2) := by decide +kernel
set_option maxRecDepth 100000 in
theorem d_Md_init_40 : decode b_Md_init 40 = .ok (.putfield 21, 3) := by decide +kernel
set_option maxRecDepth 100000 in
theorem d_Md_init_43 : decode b_Md_init 43 = .ok (.aload_n 0, 1) := by decide +kernel
set_option maxRecDepth 100000 in
theorem d_Md_init_44 : decode b_Md_init 44 = .ok (.sipush 500, 3) := by decide +kernel
set_option maxRecDepth 100000 in
theorem d_Md_init_47 : decode b_Md_init 47 = .ok (.newarray .boolean, 2) := by decide +kernel
set_option maxRecDepth 100000 in
theorem d_Md_init_49 : decode b_Md_init 49 = .ok (.putfield 49, 3) := by decide +kernel
set_option maxRecDepth 100000 in
theorem d_Md_init_52 : decode b_Md_init 52 = .ok (.aload_n 0, 1) := by decide +kernel
set_option maxRecDepth 100000 in
theorem d_Md_init_53 : decode b_Md_init 53 = .ok (.bipush 40, 2) := by decide +kernel
set_option maxRecDepth 100000 in
theorem d_Md_init_55 : decode b_Md_init 55 = .ok (.newarray .int, 2) := by decide +kernel
set_option maxRecDepth 100000 in
theorem d_Md_init_57 : decode b_Md_init 57 = .ok (.putfield 58, 3) := by decide +kernel
set_option maxRecDepth 100000 in
theorem d_Md_init_60 : decode b_Md_init 60 = .ok (.aload_n 0, 1) := by decide +kernel
set_option maxRecDepth 100000 in
theorem d_Md_init_61 : decode b_Md_init 61 = .ok (.bipush 40, 2) := by decide +kernel
set_option maxRecDepth 100000 in
theorem d_Md_init_63 : decode b_Md_init 63 = .ok (.newarray .int, 2) := by decide +kernel
set_option maxRecDepth 100000 in
theorem d_Md_init_65 : decode b_Md_init 65 = .ok (.putfield 61, 3) := by decide +kernel
set_option maxRecDepth 100000 in
theorem d_Md_init_68 : decode b_Md_init 68 = .ok (.aload_n 0, 1) := by decide +kernel
set_option maxRecDepth 100000 in
theorem d_Md_init_69 : decode b_Md_init 69 = .ok (.bipush 40, 2) := by decide +kernel
set_option maxRecDepth 100000 in
theorem d_Md_init_71 : decode b_Md_init 71 = .ok (.newarray .int, 2) := by decide +kernel
set_option maxRecDepth 100000 in
theorem d_Md_init_73 : decode b_Md_init 73 = .ok (.putfield 64, 3) := by decide +kernel
set_option maxRecDepth 100000 in
theorem d_Md_init_76 : decode b_Md_init 76 = .ok (.aload_n 0, 1) := by decide +kernel
set_option maxRecDepth 100000 in
theorem d_Md_init_77 : decode b_Md_init 77 = .ok (.bipush 40, 2) := by decide +kernel
set_option maxRecDepth 100000 in
theorem d_Md_init_79 : decode b_Md_init 79 = .ok (.newarray .int, 2) := by decide +kernel
set_option maxRecDepth 100000 in
theorem d_Md_init_81 : decode b_Md_init 81 = .ok (.putfield 67, 3) := by decide +kernel
set_option maxRecDepth 100000 in
theorem d_Md_init_84 : decode b_Md_init 84 = .ok (.aload_n 0, 1) := by decide +kernel
set_option maxRecDepth 100000 in
theorem d_Md_init_85 : decode b_Md_init 85 = .ok (.sipush 240, 3) := by decide +kernel
set_option maxRecDepth 100000 in
theorem d_Md_init_88 : decode b_Md_init 88 = .ok (.newarray .int, 2) := by decide +kernel
set_option maxRecDepth 100000 in
theorem d_Md_init_90 : decode b_Md_init 90 = .ok (.putfield 70, 3) := by decide +kernel
set_option maxRecDepth 100000 in
theorem d_Md_init_93 : decode b_Md_init 93 = .ok (.aload_n 0, 1) := by decide +kernel
set_option maxRecDepth 100000 in
theorem d_Md_init_94 : decode b_Md_init 94 = .ok (.sipush 240, 3) := by decide +kernel
set_option maxRecDepth 100000 in
theorem d_Md_init_97 : decode b_Md_init 97 = .ok (.newarray .int, 2) := by decide +kernel
set_option maxRecDepth 100000 in
theorem d_Md_init_99 : decode b_Md_init 99 = .ok (.putfield 73, 3) := by decide +kernel
set_option maxRecDepth 100000 in
theorem d_Md_init_102 : decode b_Md_init 102 = .ok (.aload_n 0, 1) := by decide +kernel
set_option maxRecDepth 100000 in
theorem d_Md_init_103 : decode b_Md_init 103 = .ok (.bipush 40, 2) := by decide +kernel
set_option maxRecDepth 100000 in
theorem d_Md_init_105 : decode b_Md_init 105 = .ok (.newarray .int, 2) := by decide +kernel
set_option maxRecDepth 100000 in
theorem d_Md_init_107 : decode b_Md_init 107 = .ok (.putfield 76, 3) := by decide +kernel
set_option maxRecDepth 100000 in
theorem d_Md_init_110 : decode b_Md_init 110 = .ok (.aload_n 0, 1) := by decide +kernel
set_option maxRecDepth 100000 in
theorem d_Md_init_111 : decode b_Md_init 111 = .ok (.bipush 40, 2) := by decide +kernel
set_option maxRecDepth 100000 in
theorem d_Md_init_113 : decode b_Md_init 113 = .ok (.newarray .int, 2) := by decide +kernel
set_option maxRecDepth 100000 in
theorem d_Md_init_115 : decode b_Md_init 115 = .ok (.putfield 79, 3) := by decide +kernel
set_option maxRecDepth 100000 in
theorem d_Md_init_118 : decode b_Md_init 118 = .ok (.aload_n 0, 1) := by decide +kernel
set_option maxRecDepth 100000 in
theorem d_Md_init_119 : decode b_Md_init 119 = .ok (.bipush 40, 2) := by decide +kernel
set_option maxRecDepth 100000 in
theorem d_Md_init_121 : decode b_Md_init 121 = .ok (.newarray .int, 2) := by decide +kernel
set_option maxRecDepth 100000 in
theorem d_Md_init_123 : decode b_Md_init 123 = .ok (.putfield 82, 3) := by decide +kernel
set_option maxRecDepth 100000 in
theorem d_Md_init_126 : decode b_Md_init 126 = .ok (.aload_n 0, 1) := by decide +kernel
set_option maxRecDepth 100000 in
theorem d_Md_init_127 : decode b_Md_init 127 = .ok (.bipush 40, 2) := by decide +kernel
set_option maxRecDepth 100000 in
theorem d_Md_init_129 : decode b_Md_init 129 = .ok (.newarray .boolean, 2) := by decide +kernel
set_option maxRecDepth 100000 in
theorem d_Md_init_131 : decode b_Md_init 131 = .ok (.putfield 85, 3) := by decide +kernel
set_option maxRecDepth 100000 in
theorem d_Md_init_134 : decode b_Md_init 134 = .ok (.aload_n 0, 1) := by decide +kernel
set_option maxRecDepth 100000 in
theorem d_Md_init_135 : decode b_Md_init 135 = .ok (.bipush 12, 2) := by decide +kernel
set_option maxRecDepth 100000 in
theorem d_Md_init_137 : decode b_Md_init 137 = .ok (.newarray .int, 2) := by decide +kernel
set_option maxRecDepth 100000 in
theorem d_Md_init_139 : decode b_Md_init 139 = .ok (.putfield 88, 3) := by decide +kernel
set_option maxRecDepth 100000 in
theorem d_Md_init_142 : decode b_Md_init 142 = .ok (.aload_n 0, 1) := by decide +kernel
set_option maxRecDepth 100000 in
theorem d_Md_init_143 : decode b_Md_init 143 = .ok (.sipush 480, 3) := by decide +kernel
set_option maxRecDepth 100000 in
theorem d_Md_init_146 : decode b_Md_init 146 = .ok (.newarray .int, 2) := by decide +kernel
set_option maxRecDepth 100000 in
theorem d_Md_init_148 : decode b_Md_init 148 = .ok (.putfield 91, 3) := by decide +kernel
set_option maxRecDepth 100000 in
theorem d_Md_init_151 : decode b_Md_init 151 = .ok (.aload_n 0, 1) := by decide +kernel
set_option maxRecDepth 100000 in
theorem d_Md_init_152 : decode b_Md_init 152 = .ok (.bipush 20, 2) := by decide +kernel
set_option maxRecDepth 100000 in
theorem d_Md_init_154 : decode b_Md_init 154 = .ok (.newarray .int, 2) := by decide +kernel
set_option maxRecDepth 100000 in
theorem d_Md_init_156 : decode b_Md_init 156 = .ok (.putfield 94, 3) := by decide +kernel
set_option maxRecDepth 100000 in
theorem d_Md_init_159 : decode b_Md_init 159 = .ok (.aload_n 0, 1) := by decide +kernel
set_option maxRecDepth 100000 in
theorem d_Md_init_160 : decode b_Md_init 160 = .ok (.bipush 20, 2) := by decide +kernel
set_option maxRecDepth 100000 in
theorem d_Md_init_162 : decode b_Md_init 162 = .ok (.newarray .int, 2) := by decide +kernel
set_option maxRecDepth 100000 in
theorem d_Md_init_164 : decode b_Md_init 164 = .ok (.putfield 97, 3) := by decide +kernel
set_option maxRecDepth 100000 in
theorem d_Md_init_167 : decode b_Md_init 167 = .ok (.aload_n 0, 1) := by decide +kernel
set_option maxRecDepth 100000 in
theorem d_Md_init_168 : decode b_Md_init 168 = .ok (.bipush 20, 2) := by decide +kernel
set_option maxRecDepth 100000 in
theorem d_Md_init_170 : decode b_Md_init 170 = .ok (.newarray .int, 2) := by decide +kernel
set_option maxRecDepth 100000 in
theorem d_Md_init_172 : decode b_Md_init 172 = .ok (.putfield 100, 3) := by decide +kernel
set_option maxRecDepth 100000 in
theorem d_Md_init_175 : decode b_Md_init 175 = .ok (.aload_n 0, 1) := by decide +kernel
set_option maxRecDepth 100000 in
theorem d_Md_init_176 : decode b_Md_init 176 = .ok (.bipush 20, 2) := by decide +kernel
set_option maxRecDepth 100000 in
theorem d_Md_init_178 : decode b_Md_init 178 = .ok (.newarray .int, 2) := by decide +kernel
set_option maxRecDepth 100000 in
theorem d_Md_init_180 : decode b_Md_init 180 = .ok (.putfield 103, 3) := by decide +kernel
set_option maxRecDepth 100000 in
theorem d_Md_init_183 : decode b_Md_init 183 = .ok (.aload_n 0, 1) := by decide +kernel
set_option maxRecDepth 100000 in
theorem d_Md_init_184 : decode b_Md_init 184 = .ok (.bipush 20, 2) := by decide +kernel
set_option maxRecDepth 100000 in
theorem d_Md_init_186 : decode b_Md_init 186 = .ok (.newarray .boolean, 2) := by decide +kernel
set_option maxRecDepth 100000 in
theorem d_Md_init_188 : decode b_Md_init 188 = .ok (.putfield 106, 3) := by decide +kernel
set_option maxRecDepth 100000 in
theorem d_Md_init_191 : decode b_Md_init 191 = .ok (.aload_n 0, 1) := by decide +kernel
set_option maxRecDepth 100000 in
theorem d_Md_init_192 : decode b_Md_init 192 = .ok (.sipush 400, 3) := by decide +kernel
set_option maxRecDepth 100000 in
theorem d_Md_init_195 : decode b_Md_init 195 = .ok (.newarray .byte, 2) := by decide +kernel
set_option maxRecDepth 100000 in
theorem d_Md_init_197 : decode b_Md_init 197 = .ok (.putfield 109, 3) := by decide +kernel
set_option maxRecDepth 100000 in
theorem d_Md_init_200 : decode b_Md_init 200 = .ok (.aload_n 0, 1) := by decide +kernel
set_option maxRecDepth 100000 in
theorem d_Md_init_201 : decode b_Md_init 201 = .ok (.bipush 20, 2) := by decide +kernel
set_option maxRecDepth 100000 in
theorem d_Md_init_203 : decode b_Md_init 203 = .ok (.newarray .int, 2) := by decide +kernel
set_option maxRecDepth 100000 in
theorem d_Md_init_205 : decode b_Md_init 205 = .ok (.putfield 113, 3) := by decide +kernel
set_option maxRecDepth 100000 in
theorem d_Md_init_208 : decode b_Md_init 208 = .ok (.aload_n 0, 1) := by decide +kernel
set_option maxRecDepth 100000 in
theorem d_Md_init_209 : decode b_Md_init 209 = .ok (.bipush 20, 2) := by decide +kernel
set_option maxRecDepth 100000 in
theorem d_Md_init_211 : decode b_Md_init 211 = .ok (.newarray .int, 2) := by decide +kernel
set_option maxRecDepth 100000 in
theorem d_Md_init_213 : decode b_Md_init 213 = .ok (.putfield 116, 3) := by decide +kernel
set_option maxRecDepth 100000 in
theorem d_Md_init_216 : decode b_Md_init 216 = .ok (.aload_n 0, 1) := by decide +kernel
set_option maxRecDepth 100000 in
theorem d_Md_init_217 : decode b_Md_init 217 = .ok (.bipush 20, 2) := by decide +kernel
set_option maxRecDepth 100000 in
theorem d_Md_init_219 : decode b_Md_init 219 = .ok (.newarray .int, 2) := by decide +kernel
set_option maxRecDepth 100000 in
theorem d_Md_init_221 : decode b_Md_init 221 = .ok (.putfield 119, 3) := by decide +kernel
set_option maxRecDepth 100000 in
theorem d_Md_init_224 : decode b_Md_init 224 = .ok (.aload_n 0, 1) := by decide +kernel
set_option maxRecDepth 100000 in
theorem d_Md_init_225 : decode b_Md_init 225 = .ok (.sipush 240, 3) := by decide +kernel
set_option maxRecDepth 100000 in
theorem d_Md_init_228 : decode b_Md_init 228 = .ok (.newarray .int, 2) := by decide +kernel
set_option maxRecDepth 100000 in
theorem d_Md_init_230 : decode b_Md_init 230 = .ok (.putfield 122, 3) := by decide +kernel
set_option maxRecDepth 100000 in
theorem d_Md_init_233 : decode b_Md_init 233 = .ok (.aload_n 0, 1) := by decide +kernel
set_option maxRecDepth 100000 in
theorem d_Md_init_234 : decode b_Md_init 234 = .ok (.sipush 240, 3) := by decide +kernel
set_option maxRecDepth 100000 in
theorem d_Md_init_237 : decode b_Md_init 237 = .ok (.newarray .int, 2) := by decide +kernel
set_option maxRecDepth 100000 in
theorem d_Md_init_239 : decode b_Md_init 239 = .ok (.putfield 125, 3) := by decide +kernel
set_option maxRecDepth 100000 in
theorem d_Md_init_242 : decode b_Md_init 242 = .ok (.aload_n 0, 1) := by decide +kernel
set_option maxRecDepth 100000 in
theorem d_Md_init_243 : decode b_Md_init 243 = .ok (.sipush 240, 3) := by decide +kernel
set_option maxRecDepth 100000 in
theorem d_Md_init_246 : decode b_Md_init 246 = .ok (.newarray .int, 2) := by decide +kernel
set_option maxRecDepth 100000 in
theorem d_Md_init_248 : decode b_Md_init 248 = .ok (.putfield 128, 3) := by decide +kernel
set_option maxRecDepth 100000 in
theorem d_Md_init_251 : decode b_Md_init 251 = .ok (.aload_n 0, 1) := by decide +kernel
set_option maxRecDepth 100000 in
theorem d_Md_init_252 : decode b_Md_init 252 = .ok (.bipush 20, 2) := by decide +kernel
set_option maxRecDepth 100000 in
theorem d_Md_init_254 : decode b_Md_init 254 = .ok (.newarray .int, 2) := by decide +kernel
set_option maxRecDepth 100000 in
theorem d_Md_init_256 : decode b_Md_init 256 = .ok (.putfield 131, 3) := by decide +kernel
set_option maxRecDepth 100000 in
theorem d_Md_init_259 : decode b_Md_init 259 = .ok (.aload_n 0, 1) := by decide +kernel
set_option maxRecDepth 100000 in
theorem d_Md_init_260 : decode b_Md_init 260 = .ok (.sipush 240, 3) := by decide +kernel
set_option maxRecDepth 100000 in
theorem d_Md_init_263 : decode b_Md_init 263 = .ok (.newarray .int, 2) := by decide +kernel
set_option maxRecDepth 100000 in
theorem d_Md_init_265 : decode b_Md_init 265 = .ok (.putfield 134, 3) := by decide +kernel
set_option maxRecDepth 100000 in
theorem d_Md_init_268 : decode b_Md_init 268 = .ok (.aload_n 0, 1) := by decide +kernel
set_option maxRecDepth 100000 in
theorem d_Md_init_269 : decode b_Md_init 269 = .ok (.sipush 240, 3) := by decide +kernel
set_option maxRecDepth 100000 in
theorem d_Md_init_272 : decode b_Md_init 272 = .ok (.newarray .int, 2) := by decide +kernel
set_option maxRecDepth 100000 in
theorem d_Md_init_274 : decode b_Md_init 274 = .ok (.putfield 137, 3) := by decide +kernel
set_option maxRecDepth 100000 in
theorem d_Md_init_277 : decode b_Md_init 277 = .ok (.aload_n 0, 1) := by decide +kernel
set_option maxRecDepth 100000 in
theorem d_Md_init_278 : decode b_Md_init 278 = .ok (.sipush 240, 3) := by decide +kernel
set_option maxRecDepth 100000 in
theorem d_Md_init_281 : decode b_Md_init 281 = .ok (.newarray .int, 2) := by decide +kernel
set_option maxRecDepth 100000 in
theorem d_Md_init_283 : decode b_Md_init 283 = .ok (.putfield 140, 3) := by decide +kernel
set_option maxRecDepth 100000 in
theorem d_Md_init_286 : decode b_Md_init 286 = .ok (.aload_n 0, 1) := by decide +kernel
set_option maxRecDepth 100000 in
theorem d_Md_init_287 : decode b_Md_init 287 = .ok (.sipush 180, 3) := by decide +kernel
set_option maxRecDepth 100000 in
theorem d_Md_init_290 : decode b_Md_init 290 = .ok (.newarray .int, 2) := by decide +kernel
set_option maxRecDepth 100000 in
theorem d_Md_init_292 : decode b_Md_init 292 = .ok (.putfield 143, 3) := by decide +kernel
set_option maxRecDepth 100000 in
theorem d_Md_init_295 : decode b_Md_init 295 = .ok (.aload_n 0, 1) := by decide +kernel
set_option maxRecDepth 100000 in
theorem d_Md_init_296 : decode b_Md_init 296 = .ok (.bipush 20, 2) := by decide +kernel
set_option maxRecDepth 100000 in
theorem d_Md_init_298 : decode b_Md_init 298 = .ok (.newarray .int, 2) := by decide +kernel
set_option maxRecDepth 100000 in
theorem d_Md_init_300 : decode b_Md_init 300 = .ok (.putfield 146, 3) := by decide +kernel
set_option maxRecDepth 100000 in
theorem d_Md_init_303 : decode b_Md_init 303 = .ok (.aload_n 0, 1) := by decide +kernel
set_option maxRecDepth 100000 in
theorem d_Md_init_304 : decode b_Md_init 304 = .ok (.sipush 600, 3) := by decide +kernel
set_option maxRecDepth 100000 in
theorem d_Md_init_307 : decode b_Md_init 307 = .ok (.newarray .int, 2) := by decide +kernel
set_option maxRecDepth 100000 in
theorem d_Md_init_309 : decode b_Md_init 309 = .ok (.putfield 149, 3) := by decide +kernel
set_option maxRecDepth 100000 in
theorem d_Md_init_312 : decode b_Md_init 312 = .ok (.aload_n 0, 1) := by decide +kernel
set_option maxRecDepth 100000 in
theorem d_Md_init_313 : decode b_Md_init 313 = .ok (.sipush 600, 3) := by decide +kernel
set_option maxRecDepth 100000 in
theorem d_Md_init_316 : decode b_Md_init 316 = .ok (.newarray .int, 2) := by decide +kernel
set_option maxRecDepth 100000 in
theorem d_Md_init_318 : decode b_Md_init 318 = .ok (.putfield 152, 3) := by decide +kernel
set_option maxRecDepth 100000 in
theorem d_Md_init_321 : decode b_Md_init 321 = .ok (.aload_n 0, 1) := by decide +kernel
set_option maxRecDepth 100000 in
theorem d_Md_init_322 : decode b_Md_init 322 = .ok (.sipush 600, 3) := by decide +kernel
set_option maxRecDepth 100000 in
theorem d_Md_init_325 : decode b_Md_init 325 = .ok (.newarray .int, 2) := by decide +kernel
set_option maxRecDepth 100000 in
theorem d_Md_init_327 : decode b_Md_init 327 = .ok (.putfield 155, 3) := by decide +kernel
set_option maxRecDepth 100000 in
theorem d_Md_init_330 : decode b_Md_init 330 = .ok (.aload_n 0, 1) := by decide +kernel
set_option maxRecDepth 100000 in
theorem d_Md_init_331 : decode b_Md_init 331 = .ok (.sipush 600, 3) := by decide +kernel
set_option maxRecDepth 100000 in
theorem d_Md_init_334 : decode b_Md_init 334 = .ok (.newarray .int, 2) := by decide +kernel
set_option maxRecDepth 100000 in
theorem d_Md_init_336 : decode b_Md_init 336 = .ok (.putfield 158, 3) := by decide +kernel
set_option maxRecDepth 100000 in
theorem d_Md_init_339 : decode b_Md_init 339 = .ok (.aload_n 0, 1) := by decide +kernel
set_option maxRecDepth 100000 in
theorem d_Md_init_340 : decode b_Md_init 340 = .ok (.sipush 600, 3) := by decide +kernel
set_option maxRecDepth 100000 in
theorem d_Md_init_343 : decode b_Md_init 343 = .ok (.newarray .int, 2) := by decide +kernel
set_option maxRecDepth 100000 in
theorem d_Md_init_345 : decode b_Md_init 345 = .ok (.putfield 161, 3) := by decide +kernel
set_option maxRecDepth 100000 in
theorem d_Md_init_348 : decode b_Md_init 348 = .ok (.aload_n 0, 1) := by decide +kernel
set_option maxRecDepth 100000 in
theorem d_Md_init_349 : decode b_Md_init 349 = .ok (.sipush 600, 3) := by decide +kernel
set_option maxRecDepth 100000 in
theorem d_Md_init_352 : decode b_Md_init 352 = .ok (.newarray .int, 2) := by decide +kernel
set_option maxRecDepth 100000 in
theorem d_Md_init_354 : decode b_Md_init 354 = .ok (.putfield 164, 3) := by decide +kernel
set_option maxRecDepth 100000 in
theorem d_Md_init_357 : decode b_Md_init 357 = .ok (.aload_n 0, 1) := by decide +kernel
set_option maxRecDepth 100000 in
theorem d_Md_init_358 : decode b_Md_init 358 = .ok (.sipush 600, 3) := by decide +kernel
set_option maxRecDepth 100000 in
theorem d_Md_init_361 : decode b_Md_init 361 = .ok (.newarray .int, 2) := by decide +kernel
set_option maxRecDepth 100000 in
theorem d_Md_init_363 : decode b_Md_init 363 = .ok (.putfield 167, 3) := by decide +kernel
set_option maxRecDepth 100000 in
theorem d_Md_init_366 : decode b_Md_init 366 = .ok (.aload_n 0, 1) := by decide +kernel
set_option maxRecDepth 100000 in
theorem d_Md_init_367 : decode b_Md_init 367 = .ok (.sipush 600, 3) := by decide +kernel
set_option maxRecDepth 100000 in
theorem d_Md_init_370 : decode b_Md_init 370 = .ok (.newarray .boolean, 2) := by decide +kernel
set_option maxRecDepth 100000 in
theorem d_Md_init_372 : decode b_Md_init 372 = .ok (.putfield 170, 3) := by decide +kernel
set_option maxRecDepth 100000 in
theorem d_Md_init_375 : decode b_Md_init 375 = .ok (.aload_n 0, 1) := by decide +kernel
set_option maxRecDepth 100000 in
theorem d_Md_init_376 : decode b_Md_init 376 = .ok (.sipush 500, 3) := by decide +kernel
set_option maxRecDepth 100000 in
theorem d_Md_init_379 : decode b_Md_init 379 = .ok (.newarray .long, 2) := by decide +kernel
set_option maxRecDepth 100000 in
theorem d_Md_init_381 : decode b_Md_init 381 = .ok (.putfield 173, 3) := by decide +kernel
set_option maxRecDepth 100000 in
theorem d_Md_init_384 : decode b_Md_init 384 = .ok (.aload_n 0, 1) := by decide +kernel
set_option maxRecDepth 100000 in
theorem d_Md_init_385 : decode b_Md_init 385 = .ok (.bipush 30, 2) := by decide +kernel
set_option maxRecDepth 100000 in
theorem d_Md_init_387 : decode b_Md_init 387 = .ok (.newarray .int, 2) := by decide +kernel
set_option maxRecDepth 100000 in
theorem d_Md_init_389 : decode b_Md_init 389 = .ok (.putfield 177, 3) := by decide +kernel
set_option maxRecDepth 100000 in
theorem d_Md_init_392 : decode b_Md_init 392 = .ok (.aload_n 0, 1) := by decide +kernel
set_option maxRecDepth 100000 in
theorem d_Md_init_393 : decode b_Md_init 393 = .ok (.bipush 30, 2) := by decide +kernel
set_option maxRecDepth 100000 in
theorem d_Md_init_395 : decode b_Md_init 395 = .ok (.newarray .int, 2) := by decide +kernel
set_option maxRecDepth 100000 in
theorem d_Md_init_397 : decode b_Md_init 397 = .ok (.putfield 180, 3) := by decide +kernel
set_option maxRecDepth 100000 in
theorem d_Md_init_400 : decode b_Md_init 400 = .ok (.aload_n 0, 1) := by decide +kernel
set_option maxRecDepth 100000 in
theorem d_Md_init_401 : decode b_Md_init 401 = .ok (.bipush 30, 2) := by decide +kernel
set_option maxRecDepth 100000 in
theorem d_Md_init_403 : decode b_Md_init 403 = .ok (.newarray .int, 2) := by decide +kernel
set_option maxRecDepth 100000 in
theorem d_Md_init_405 : decode b_Md_init 405 = .ok (.putfield 183, 3) := by decide +kernel
set_option maxRecDepth 100000 in
theorem d_Md_init_408 : decode b_Md_init 408 = .ok (.iconst 0, 1) := by decide +kernel
set_option maxRecDepth 100000 in
theorem d_Md_init_409 : decode b_Md_init 409 = .ok (.istore_n 1, 1) := by decide +kernel
set_option maxRecDepth 100000 in
theorem d_Md_init_410 : decode b_Md_init 410 = .ok (.iload_n 1, 1) := by decide +kernel
set_option maxRecDepth 100000 in
theorem d_Md_init_411 : decode b_Md_init 411 = .ok (.bipush 40, 2) := by decide +kernel
set_option maxRecDepth 100000 in
theorem d_Md_init_413 : decode b_Md_init 413 = .ok (.if_icmp .ge 23, 3) := by decide +kernel
set_option maxRecDepth 100000 in
theorem d_Md_init_416 : decode b_Md_init 416 = .ok (.aload_n 0, 1) := by decide +kernel
set_option maxRecDepth 100000 in
theorem d_Md_init_417 : decode b_Md_init 417 = .ok (.getfield 61, 3) := by decide +kernel
set_option maxRecDepth 100000 in
theorem d_Md_init_420 : decode b_Md_init 420 = .ok (.iload_n 1, 1) := by decide +kernel
set_option maxRecDepth 100000 in
theorem d_Md_init_421 : decode b_Md_init 421 = .ok (.iconst (-1), 1) := by decide +kernel
set_option maxRecDepth 100000 in
theorem d_Md_init_422 : decode b_Md_init 422 = .ok (.iastore, 1) := by decide +kernel
set_option maxRecDepth 100000 in
theorem d_Md_init_423 : decode b_Md_init 423 = .ok (.aload_n 0, 1) := by decide +kernel
set_option maxRecDepth 100000 in
theorem d_Md_init_424 : decode b_Md_init 424 = .ok (.getfield 79, 3) := by decide +kernel
set_option maxRecDepth 100000 in
theorem d_Md_init_427 : decode b_Md_init 427 = .ok (.iload_n 1, 1) := by decide +kernel
set_option maxRecDepth 100000 in
theorem d_Md_init_428 : decode b_Md_init 428 = .ok (.iconst (-1), 1) := by decide +kernel
set_option maxRecDepth 100000 in
theorem d_Md_init_429 : decode b_Md_init 429 = .ok (.iastore, 1) := by decide +kernel
set_option maxRecDepth 100000 in
theorem d_Md_init_430 : decode b_Md_init 430 = .ok (.iinc 1 1, 3) := by decide +kernel
set_option maxRecDepth 100000 in
theorem d_Md_init_433 : decode b_Md_init 433 = .ok (.goto (-23), 3) := by decide +kernel
set_option maxRecDepth 100000 in
theorem d_Md_init_436 : decode b_Md_init 436 = .ok (.return_, 1) := by decide +kernel
set_option maxRecDepth 100000 in
theorem d_Mn_init_0 : decode b_Mn_init 0 = .ok (.aload_n 0, 1) := by decide +kernel
set_option maxRecDepth 100000 in
theorem d_Mn_init_1 : decode b_Mn_init 1 = .ok (.invokespecial 3, 3) := by decide +kernel
set_option maxRecDepth 100000 in
theorem d_Mn_init_4 : decode b_Mn_init 4 = .ok (.aload_n 0, 1) := by decide +kernel
set_option maxRecDepth 100000 in
theorem d_Mn_init_5 : decode b_Mn_init 5 = .ok (.iconst 0, 1) := by decide +kernel
set_option maxRecDepth 100000 in
theorem d_Mn_init_6 : decode b_Mn_init 6 = .ok (.putfield 9, 3) := by decide +kernel
set_option maxRecDepth 100000 in
theorem d_Mn_init_9 : decode b_Mn_init 9 = .ok (.aload_n 0, 1) := by decide +kernel
set_option maxRecDepth 100000 in
theorem d_Mn_init_10 : decode b_Mn_init 10 = .ok (.iconst (-1), 1) := by decide +kernel
set_option maxRecDepth 100000 in
theorem d_Mn_init_11 : decode b_Mn_init 11 = .ok (.putfield 15, 3) := by decide +kernel
set_option maxRecDepth 100000 in
theorem d_Mn_init_14 : decode b_Mn_init 14 = .ok (.aload_n 0, 1) := by decide +kernel
set_option maxRecDepth 100000 in
theorem d_Mn_init_15 : decode b_Mn_init 15 = .ok (.iconst (-1), 1) := by decide +kernel
set_option maxRecDepth 100000 in
theorem d_Mn_init_16 : decode b_Mn_init 16 = .ok (.putfield 18, 3) := by decide +kernel
set_option maxRecDepth 100000 in
theorem d_Mn_init_19 : decode b_Mn_init 19 = .ok (.return_, 1) := by decide +kernel
set_option maxRecDepth 100000 in
theorem d_Rv_init_0 : decode b_Rv_init 0 = .ok (.aload_n 0, 1) := by decide +kernel
set_option maxRecDepth 100000 in
theorem d_Rv_init_1 : decode b_Rv_init 1 = .ok (.invokespecial 3, 3) := by decide +kernel
set_option maxRecDepth 100000 in
theorem d_Rv_init_4 : decode b_Rv_init 4 = .ok (.aload_n 0, 1) := by decide +kernel
set_option maxRecDepth 100000 in
theorem d_Rv_init_5 : decode b_Rv_init 5 = .ok (.bipush 12, 2) := by decide +kernel
set_option maxRecDepth 100000 in
theorem d_Rv_init_7 : decode b_Rv_init 7 = .ok (.newarray .int, 2) := by decide +kernel
set_option maxRecDepth 100000 in
theorem d_Rv_init_9 : decode b_Rv_init 9 = .ok (.putfield 9, 3) := by decide +kernel
set_option maxRecDepth 100000 in
theorem d_Rv_init_12 : decode b_Rv_init 12 = .ok (.aload_n 0, 1) := by decide +kernel
set_option maxRecDepth 100000 in
theorem d_Rv_init_13 : decode b_Rv_init 13 = .ok (.bipush 12, 2) := by decide +kernel
set_option maxRecDepth 100000 in
theorem d_Rv_init_15 : decode b_Rv_init 15 = .ok (.newarray .int, 2) := by decide +kernel
set_option maxRecDepth 100000 in
theorem d_Rv_init_17 : decode b_Rv_init 17 = .ok (.putfield 15, 3) := by decide +kernel
set_option maxRecDepth 100000 in
theorem d_Rv_init_20 : decode b_Rv_init 20 = .ok (.aload_n 0, 1) := by decide +kernel
set_option maxRecDepth 100000 in
theorem d_Rv_init_21 : decode b_Rv_init 21 = .ok (.sipush 500, 3) := by decide +kernel
set_option maxRecDepth 100000 in
theorem d_Rv_init_24 : decode b_Rv_init 24 = .ok (.anewarray 18, 3) := by decide +kernel
set_option maxRecDepth 100000 in
theorem d_Rv_init_27 : decode b_Rv_init 27 = .ok (.putfield 19, 3) := by decide +kernel
set_option maxRecDepth 100000 in
theorem d_Rv_init_30 : decode b_Rv_init 30 = .ok (.aload_n 0, 1) := by decide +kernel
set_option maxRecDepth 100000 in
theorem d_Rv_init_31 : decode b_Rv_init 31 = .ok (.sipush 500, 3) := by decide +kernel
set_option maxRecDepth 100000 in
theorem d_Rv_init_34 : decode b_Rv_init 34 = .ok (.newarray .boolean, 2) := by decide +kernel
set_option maxRecDepth 100000 in
theorem d_Rv_init_36 : decode b_Rv_init 36 = .ok (.putfield 23, 3) := by decide +kernel
set_option maxRecDepth 100000 in
theorem d_Rv_init_39 : decode b_Rv_init 39 = .ok (.aload_n 0, 1) := by decide +kernel
set_option maxRecDepth 100000 in
theorem d_Rv_init_40 : decode b_Rv_init 40 = .ok (.iconst (-1), 1) := by decide +kernel
set_option maxRecDepth 100000 in
theorem d_Rv_init_41 : decode b_Rv_init 41 = .ok (.putfield 27, 3) := by decide +kernel
set_option maxRecDepth 100000 in
theorem d_Rv_init_44 : decode b_Rv_init 44 = .ok (.return_, 1) := by decide +kernel
set_option maxRecDepth 100000 in
theorem d_Tp_init_0 : decode b_Tp_init 0 = .ok (.aload_n 0, 1) := by decide +kernel
set_option maxRecDepth 100000 in
theorem d_Tp_init_1 : decode b_Tp_init 1 = .ok (.invokespecial 3, 3) := by decide +kernel
set_option maxRecDepth 100000 in
theorem d_Tp_init_4 : decode b_Tp_init 4 = .ok (.aload_n 0, 1) := by decide +kernel
set_option maxRecDepth 100000 in
theorem d_Tp_init_5 : decode b_Tp_init 5 = .ok (.sipush 400, 3) := by decide +kernel
set_option maxRecDepth 100000 in
theorem d_Tp_init_8 : decode b_Tp_init 8 = .ok (.newarray .byte, 2) := by decide +kernel
set_option maxRecDepth 100000 in
theorem d_Tp_init_10 : decode b_Tp_init 10 = .ok (.putfield 9, 3) := by decide +kernel
set_option maxRecDepth 100000 in
theorem d_Tp_init_13 : decode b_Tp_init 13 = .ok (.return_, 1) := by decide +kernel
set_option maxRecDepth 100000 in
theorem d_WM_init_0 : decode b_WM_init 0 = .ok (.aload_n 0, 1) := by decide +kernel
set_option maxRecDepth 100000 in
theorem d_WM_init_1 : decode b_WM_init 1 = .ok (.invokespecial 3, 3) := by decide +kernel
set_option maxRecDepth 100000 in
theorem d_WM_init_4 : decode b_WM_init 4 = .ok (.aload_n 0, 1) := by decide +kernel
set_option maxRecDepth 100000 in
theorem d_WM_init_5 : decode b_WM_init 5 = .ok (.new 9, 3) := by decide +kernel
set_option maxRecDepth 100000 in
theorem d_WM_init_8 : decode b_WM_init 8 = .ok (.dup, 1) := by decide +kernel
set_option maxRecDepth 100000 in
theorem d_WM_init_9 : decode b_WM_init 9 = .ok (.invokespecial 11, 3) := by decide +kernel
set_option maxRecDepth 100000 in
theorem d_WM_init_12 : decode b_WM_init 12 = .ok (.putfield 12, 3) := by decide +kernel
set_option maxRecDepth 100000 in
theorem d_WM_init_15 : decode b_WM_init 15 = .ok (.aload_n 0, 1) := by decide +kernel
set_option maxRecDepth 100000 in
theorem d_WM_init_16 : decode b_WM_init 16 = .ok (.bipush 40, 2) := by decide +kernel
set_option maxRecDepth 100000 in
theorem d_WM_init_18 : decode b_WM_init 18 = .ok (.anewarray 16, 3) := by decide +kernel
set_option maxRecDepth 100000 in
theorem d_WM_init_21 : decode b_WM_init 21 = .ok (.putfield 18, 3) := by decide +kernel
set_option maxRecDepth 100000 in
theorem d_WM_init_24 : decode b_WM_init 24 = .ok (.aload_n 0, 1) := by decide +kernel
set_option maxRecDepth 100000 in
theorem d_WM_init_25 : decode b_WM_init 25 = .ok (.bipush 20, 2) := by decide +kernel
set_option maxRecDepth 100000 in
theorem d_WM_init_27 : decode b_WM_init 27 = .ok (.anewarray 22, 3) := by decide +kernel
set_option maxRecDepth 100000 in
theorem d_WM_init_30 : decode b_WM_init 30 = .ok (.putfield 24, 3) := by decide +kernel
set_option maxRecDepth 100000 in
theorem d_WM_init_33 : decode b_WM_init 33 = .ok (.aload_n 0, 1) := by decide +kernel
set_option maxRecDepth 100000 in
theorem d_WM_init_34 : decode b_WM_init 34 = .ok (.bipush 20, 2) := by decide +kernel
set_option maxRecDepth 100000 in
theorem d_WM_init_36 : decode b_WM_init 36 = .ok (.anewarray 28, 3) := by decide +kernel
set_option maxRecDepth 100000 in
theorem d_WM_init_39 : decode b_WM_init 39 = .ok (.putfield 30, 3) := by decide +kernel
set_option maxRecDepth 100000 in
theorem d_WM_init_42 : decode b_WM_init 42 = .ok (.aload_n 0, 1) := by decide +kernel
set_option maxRecDepth 100000 in
theorem d_WM_init_43 : decode b_WM_init 43 = .ok (.sipush 600, 3) := by decide +kernel
set_option maxRecDepth 100000 in
theorem d_WM_init_46 : decode b_WM_init 46 = .ok (.anewarray 34, 3) := by decide +kernel
set_option maxRecDepth 100000 in
theorem d_WM_init_49 : decode b_WM_init 49 = .ok (.putfield 36, 3) := by decide +kernel
set_option maxRecDepth 100000 in
theorem d_WM_init_52 : decode b_WM_init 52 = .ok (.aload_n 0, 1) := by decide +kernel
set_option maxRecDepth 100000 in
theorem d_WM_init_53 : decode b_WM_init 53 = .ok (.new 40, 3) := by decide +kernel
set_option maxRecDepth 100000 in
theorem d_WM_init_56 : decode b_WM_init 56 = .ok (.dup, 1) := by decide +kernel
set_option maxRecDepth 100000 in
theorem d_WM_init_57 : decode b_WM_init 57 = .ok (.invokespecial 42, 3) := by decide +kernel
set_option maxRecDepth 100000 in
theorem d_WM_init_60 : decode b_WM_init 60 = .ok (.putfield 43, 3) := by decide +kernel
set_option maxRecDepth 100000 in
theorem d_WM_init_63 : decode b_WM_init 63 = .ok (.aload_n 0, 1) := by decide +kernel
set_option maxRecDepth 100000 in
theorem d_WM_init_64 : decode b_WM_init 64 = .ok (.new 47, 3) := by decide +kernel
set_option maxRecDepth 100000 in
theorem d_WM_init_67 : decode b_WM_init 67 = .ok (.dup, 1) := by decide +kernel
set_option maxRecDepth 100000 in
theorem d_WM_init_68 : decode b_WM_init 68 = .ok (.invokespecial 49, 3) := by decide +kernel
set_option maxRecDepth 100000 in
theorem d_WM_init_71 : decode b_WM_init 71 = .ok (.putfield 50, 3) := by decide +kernel
set_option maxRecDepth 100000 in
theorem d_WM_init_74 : decode b_WM_init 74 = .ok (.aload_n 0, 1) := by decide +kernel
set_option maxRecDepth 100000 in
theorem d_WM_init_75 : decode b_WM_init 75 = .ok (.new 28, 3) := by decide +kernel
set_option maxRecDepth 100000 in
theorem d_WM_init_78 : decode b_WM_init 78 = .ok (.dup, 1) := by decide +kernel
set_option maxRecDepth 100000 in
theorem d_WM_init_79 : decode b_WM_init 79 = .ok (.invokespecial 54, 3) := by decide +kernel
set_option maxRecDepth 100000 in
theorem d_WM_init_82 : decode b_WM_init 82 = .ok (.putfield 55, 3) := by decide +kernel
set_option maxRecDepth 100000 in
theorem d_WM_init_85 : decode b_WM_init 85 = .ok (.iconst 0, 1) := by decide +kernel
set_option maxRecDepth 100000 in
theorem d_WM_init_86 : decode b_WM_init 86 = .ok (.istore_n 1, 1) := by decide +kernel
set_option maxRecDepth 100000 in
theorem d_WM_init_87 : decode b_WM_init 87 = .ok (.iload_n 1, 1) := by decide +kernel
set_option maxRecDepth 100000 in
theorem d_WM_init_88 : decode b_WM_init 88 = .ok (.bipush 40, 2) := by decide +kernel
set_option maxRecDepth 100000 in
theorem d_WM_init_90 : decode b_WM_init 90 = .ok (.if_icmp .ge 22, 3) := by decide +kernel
set_option maxRecDepth 100000 in
theorem d_WM_init_93 : decode b_WM_init 93 = .ok (.aload_n 0, 1) := by decide +kernel
set_option maxRecDepth 100000 in
theorem d_WM_init_94 : decode b_WM_init 94 = .ok (.getfield 18, 3) := by decide +kernel
set_option maxRecDepth 100000 in
theorem d_WM_init_97 : decode b_WM_init 97 = .ok (.iload_n 1, 1) := by decide +kernel
set_option maxRecDepth 100000 in
theorem d_WM_init_98 : decode b_WM_init 98 = .ok (.new 16, 3) := by decide +kernel
set_option maxRecDepth 100000 in
theorem d_WM_init_101 : decode b_WM_init 101 = .ok (.dup, 1) := by decide +kernel
set_option maxRecDepth 100000 in
theorem d_WM_init_102 : decode b_WM_init 102 = .ok (.invokespecial 59, 3) := by decide +kernel
set_option maxRecDepth 100000 in
theorem d_WM_init_105 : decode b_WM_init 105 = .ok (.aastore, 1) := by decide +kernel
set_option maxRecDepth 100000 in
theorem d_WM_init_106 : decode b_WM_init 106 = .ok (.iinc 1 1, 3) := by decide +kernel
set_option maxRecDepth 100000 in
theorem d_WM_init_109 : decode b_WM_init 109 = .ok (.goto (-22), 3) := by decide +kernel
set_option maxRecDepth 100000 in
theorem d_WM_init_112 : decode b_WM_init 112 = .ok (.return_, 1) := by decide +kernel
set_option maxRecDepth 100000 in
theorem d_law_0 : decode code 0 = .ok (.new 7, 3) := by decide +kernel
set_option maxRecDepth 100000 in
theorem d_law_3 : decode code 3 = .ok (.dup, 1) := by decide +kernel
set_option maxRecDepth 100000 in
theorem d_law_4 : decode code 4 = .ok (.invokespecial 9, 3) := by decide +kernel
set_option maxRecDepth 100000 in
theorem d_law_7 : decode code 7 = .ok (.astore_n 1, 1) := by decide +kernel
set_option maxRecDepth 100000 in
theorem d_law_8 : decode code 8 = .ok (.new 10, 3) := by decide +kernel
set_option maxRecDepth 100000 in
theorem d_law_11 : decode code 11 = .ok (.dup, 1) := by decide +kernel
set_option maxRecDepth 100000 in
theorem d_law_12 : decode code 12 = .ok (.invokespecial 12, 3) := by decide +kernel
set_option maxRecDepth 100000 in
theorem d_law_15 : decode code 15 = .ok (.astore_n 2, 1) := by decide +kernel
set_option maxRecDepth 100000 in
theorem d_law_16 : decode code 16 = .ok (.iconst 0, 1) := by decide +kernel
set_option maxRecDepth 100000 in
theorem d_law_17 : decode code 17 = .ok (.istore_n 3, 1) := by decide +kernel
set_option maxRecDepth 100000 in
theorem d_law_18 : decode code 18 = .ok (.iload_n 3, 1) := by decide +kernel
set_option maxRecDepth 100000 in
theorem d_law_19 : decode code 19 = .ok (.aload_n 0, 1) := by decide +kernel
set_option maxRecDepth 100000 in
theorem d_law_20 : decode code 20 = .ok (.arraylength, 1) := by decide +kernel
set_option maxRecDepth 100000 in
theorem d_law_21 : decode code 21 = .ok (.bipush 6, 2) := by decide +kernel
set_option maxRecDepth 100000 in
theorem d_law_23 : decode code 23 = .ok (.isub, 1) := by decide +kernel
set_option maxRecDepth 100000 in
theorem d_law_24 : decode code 24 = .ok (.if_icmp .gt 1241, 3) := by decide +kernel
set_option maxRecDepth 100000 in
theorem d_law_27 : decode code 27 = .ok (.aload_n 0, 1) := by decide +kernel
set_option maxRecDepth 100000 in
theorem d_law_28 : decode code 28 = .ok (.iload_n 3, 1) := by decide +kernel
set_option maxRecDepth 100000 in
theorem d_law_29 : decode code 29 = .ok (.iaload, 1) := by decide +kernel
set_option maxRecDepth 100000 in
theorem d_law_30 : decode code 30 = .ok (.bipush 63, 2) := by decide +kernel
set_option maxRecDepth 100000 in
theorem d_law_32 : decode code 32 = .ok (.iand, 1) := by decide +kernel
set_option maxRecDepth 100000 in
theorem d_law_33 : decode code 33 = .ok (.tableswitch 1226 0 32 #[147, 170, 193, 236, 269, 302, 335, 358, 391, 434, 457, 480, 513, 546, 579, 612, 635, 698, 721, 744, 777, 840, 883, 936, 959, 1002, 1035, 1068, 1101, 1134, 1147, 1180, 1203], 147) := by decide +kernel
set_option maxRecDepth 100000 in
theorem d_law_180 : decode code 180 = .ok (.aload_n 1, 1) := by decide +kernel
set_option maxRecDepth 100000 in
theorem d_law_181 : decode code 181 = .ok (.aload_n 0, 1) := by decide +kernel
set_option maxRecDepth 100000 in
theorem d_law_182 : decode code 182 = .ok (.iload_n 3, 1) := by decide +kernel
set_option maxRecDepth 100000 in
theorem d_law_183 : decode code 183 = .ok (.iconst 1, 1) := by decide +kernel
set_option maxRecDepth 100000 in
theorem d_law_184 : decode code 184 = .ok (.iadd, 1) := by decide +kernel
set_option maxRecDepth 100000 in
theorem d_law_185 : decode code 185 = .ok (.iaload, 1) := by decide +kernel
set_option maxRecDepth 100000 in
theorem d_law_186 : decode code 186 = .ok (.invokevirtual 13, 3) := by decide +kernel
set_option maxRecDepth 100000 in
theorem d_law_189 : decode code 189 = .ok (.pop, 1) := by decide +kernel
set_option maxRecDepth 100000 in
theorem d_law_190 : decode code 190 = .ok (.aload_n 2, 1) := by decide +kernel
set_option maxRecDepth 100000 in
theorem d_law_191 : decode code 191 = .ok (.aload_n 0, 1) := by decide +kernel
set_option maxRecDepth 100000 in
theorem d_law_192 : decode code 192 = .ok (.iload_n 3, 1) := by decide +kernel
set_option maxRecDepth 100000 in
theorem d_law_193 : decode code 193 = .ok (.iconst 1, 1) := by decide +kernel
set_option maxRecDepth 100000 in
theorem d_law_194 : decode code 194 = .ok (.iadd, 1) := by decide +kernel
set_option maxRecDepth 100000 in
theorem d_law_195 : decode code 195 = .ok (.iaload, 1) := by decide +kernel
set_option maxRecDepth 100000 in
theorem d_law_196 : decode code 196 = .ok (.invokevirtual 17, 3) := by decide +kernel
set_option maxRecDepth 100000 in
theorem d_law_199 : decode code 199 = .ok (.pop, 1) := by decide +kernel
set_option maxRecDepth 100000 in
theorem d_law_200 : decode code 200 = .ok (.goto 1059, 3) := by decide +kernel
set_option maxRecDepth 100000 in
theorem d_law_203 : decode code 203 = .ok (.aload_n 1, 1) := by decide +kernel
set_option maxRecDepth 100000 in
theorem d_law_204 : decode code 204 = .ok (.aload_n 0, 1) := by decide +kernel
set_option maxRecDepth 100000 in
theorem d_law_205 : decode code 205 = .ok (.iload_n 3, 1) := by decide +kernel
set_option maxRecDepth 100000 in
theorem d_law_206 : decode code 206 = .ok (.iconst 1, 1) := by decide +kernel
set_option maxRecDepth 100000 in
theorem d_law_207 : decode code 207 = .ok (.iadd, 1) := by decide +kernel
set_option maxRecDepth 100000 in
theorem d_law_208 : decode code 208 = .ok (.iaload, 1) := by decide +kernel
set_option maxRecDepth 100000 in
theorem d_law_209 : decode code 209 = .ok (.invokevirtual 18, 3) := by decide +kernel
set_option maxRecDepth 100000 in
theorem d_law_212 : decode code 212 = .ok (.pop, 1) := by decide +kernel
set_option maxRecDepth 100000 in
theorem d_law_213 : decode code 213 = .ok (.aload_n 2, 1) := by decide +kernel
set_option maxRecDepth 100000 in
theorem d_law_214 : decode code 214 = .ok (.aload_n 0, 1) := by decide +kernel
set_option maxRecDepth 100000 in
theorem d_law_215 : decode code 215 = .ok (.iload_n 3, 1) := by decide +kernel
set_option maxRecDepth 100000 in
theorem d_law_216 : decode code 216 = .ok (.iconst 1, 1) := by decide +kernel
set_option maxRecDepth 100000 in
theorem d_law_217 : decode code 217 = .ok (.iadd, 1) := by decide +kernel
set_option maxRecDepth 100000 in
theorem d_law_218 : decode code 218 = .ok (.iaload, 1) := by decide +kernel
set_option maxRecDepth 100000 in
theorem d_law_219 : decode code 219 = .ok (.invokevirtual 21, 3) := by decide +kernel
set_option maxRecDepth 100000 in
theorem d_law_222 : decode code 222 = .ok (.pop, 1) := by decide +kernel
set_option maxRecDepth 100000 in
theorem d_law_223 : decode code 223 = .ok (.goto 1036, 3) := by decide +kernel
set_option maxRecDepth 100000 in
theorem d_law_226 : decode code 226 = .ok (.aload_n 1, 1) := by decide +kernel
set_option maxRecDepth 100000 in
theorem d_law_227 : decode code 227 = .ok (.aload_n 0, 1) := by decide +kernel
set_option maxRecDepth 100000 in
theorem d_law_228 : decode code 228 = .ok (.iload_n 3, 1) := by decide +kernel
set_option maxRecDepth 100000 in
theorem d_law_229 : decode code 229 = .ok (.iconst 1, 1) := by decide +kernel
set_option maxRecDepth 100000 in
theorem d_law_230 : decode code 230 = .ok (.iadd, 1) := by decide +kernel
set_option maxRecDepth 100000 in
theorem d_law_231 : decode code 231 = .ok (.iaload, 1) := by decide +kernel
set_option maxRecDepth 100000 in
theorem d_law_232 : decode code 232 = .ok (.aload_n 0, 1) := by decide +kernel
set_option maxRecDepth 100000 in
theorem d_law_233 : decode code 233 = .ok (.iload_n 3, 1) := by decide +kernel
set_option maxRecDepth 100000 in
theorem d_law_234 : decode code 234 = .ok (.iconst 2, 1) := by decide +kernel
set_option maxRecDepth 100000 in
theorem d_law_235 : decode code 235 = .ok (.iadd, 1) := by decide +kernel
set_option maxRecDepth 100000 in
theorem d_law_236 : decode code 236 = .ok (.iaload, 1) := by decide +kernel
set_option maxRecDepth 100000 in
theorem d_law_237 : decode code 237 = .ok (.aload_n 0, 1) := by decide +kernel
set_option maxRecDepth 100000 in
theorem d_law_238 : decode code 238 = .ok (.iload_n 3, 1) := by decide +kernel
set_option maxRecDepth 100000 in
theorem d_law_239 : decode code 239 = .ok (.iconst 3, 1) := by decide +kernel
set_option maxRecDepth 100000 in
theorem d_law_240 : decode code 240 = .ok (.iadd, 1) := by decide +kernel
set_option maxRecDepth 100000 in
theorem d_law_241 : decode code 241 = .ok (.iaload, 1) := by decide +kernel
set_option maxRecDepth 100000 in
theorem d_law_242 : decode code 242 = .ok (.invokevirtual 22, 3) := by decide +kernel
set_option maxRecDepth 100000 in
theorem d_law_245 : decode code 245 = .ok (.pop, 1) := by decide +kernel
set_option maxRecDepth 100000 in
theorem d_law_246 : decode code 246 = .ok (.aload_n 2, 1) := by decide +kernel
set_option maxRecDepth 100000 in
theorem d_law_247 : decode code 247 = .ok (.aload_n 0, 1) := by decide +kernel
set_option maxRecDepth 100000 in
theorem d_law_248 : decode code 248 = .ok (.iload_n 3, 1) := by decide +kernel
set_option maxRecDepth 100000 in
theorem d_law_249 : decode code 249 = .ok (.iconst 1, 1) := by decide +kernel
set_option maxRecDepth 100000 in
theorem d_law_250 : decode code 250 = .ok (.iadd, 1) := by decide +kernel
set_option maxRecDepth 100000 in
theorem d_law_251 : decode code 251 = .ok (.iaload, 1) := by decide +kernel
set_option maxRecDepth 100000 in
theorem d_law_252 : decode code 252 = .ok (.aload_n 0, 1) := by decide +kernel
set_option maxRecDepth 100000 in
theorem d_law_253 : decode code 253 = .ok (.iload_n 3, 1) := by decide +kernel
set_option maxRecDepth 100000 in
theorem d_law_254 : decode code 254 = .ok (.iconst 2, 1) := by decide +kernel
set_option maxRecDepth 100000 in
theorem d_law_255 : decode code 255 = .ok (.iadd, 1) := by decide +kernel
set_option maxRecDepth 100000 in
theorem d_law_256 : decode code 256 = .ok (.iaload, 1) := by decide +kernel
set_option maxRecDepth 100000 in
theorem d_law_257 : decode code 257 = .ok (.aload_n 0, 1) := by decide +kernel
set_option maxRecDepth 100000 in
theorem d_law_258 : decode code 258 = .ok (.iload_n 3, 1) := by decide +kernel
set_option maxRecDepth 100000 in
theorem d_law_259 : decode code 259 = .ok (.iconst 3, 1) := by decide +kernel
set_option maxRecDepth 100000 in
theorem d_law_260 : decode code 260 = .ok (.iadd, 1) := by decide +kernel
set_option maxRecDepth 100000 in
theorem d_law_261 : decode code 261 = .ok (.iaload, 1) := by decide +kernel
set_option maxRecDepth 100000 in
theorem d_law_262 : decode code 262 = .ok (.invokevirtual 26, 3) := by decide +kernel
set_option maxRecDepth 100000 in
theorem d_law_265 : decode code 265 = .ok (.pop, 1) := by decide +kernel
set_option maxRecDepth 100000 in
theorem d_law_266 : decode code 266 = .ok (.goto 993, 3) := by decide +kernel
set_option maxRecDepth 100000 in
theorem d_law_269 : decode code 269 = .ok (.aload_n 1, 1) := by decide +kernel
set_option maxRecDepth 100000 in
theorem d_law_270 : decode code 270 = .ok (.aload_n 0, 1) := by decide +kernel
set_option maxRecDepth 100000 in
theorem d_law_271 : decode code 271 = .ok (.iload_n 3, 1) := by decide +kernel
set_option maxRecDepth 100000 in
theorem d_law_272 : decode code 272 = .ok (.iconst 1, 1) := by decide +kernel
set_option maxRecDepth 100000 in
theorem d_law_273 : decode code 273 = .ok (.iadd, 1) := by decide +kernel
set_option maxRecDepth 100000 in
theorem d_law_274 : decode code 274 = .ok (.iaload, 1) := by decide +kernel
set_option maxRecDepth 100000 in
theorem d_law_275 : decode code 275 = .ok (.aload_n 0, 1) := by decide +kernel
set_option maxRecDepth 100000 in
theorem d_law_276 : decode code 276 = .ok (.iload_n 3, 1) := by decide +kernel
set_option maxRecDepth 100000 in
theorem d_law_277 : decode code 277 = .ok (.iconst 2, 1) := by decide +kernel
set_option maxRecDepth 100000 in
theorem d_law_278 : decode code 278 = .ok (.iadd, 1) := by decide +kernel
set_option maxRecDepth 100000 in
theorem d_law_279 : decode code 279 = .ok (.iaload, 1) := by decide +kernel
set_option maxRecDepth 100000 in
theorem d_law_280 : decode code 280 = .ok (.invokevirtual 27, 3) := by decide +kernel
set_option maxRecDepth 100000 in
theorem d_law_283 : decode code 283 = .ok (.pop, 1) := by decide +kernel
set_option maxRecDepth 100000 in
theorem d_law_284 : decode code 284 = .ok (.aload_n 2, 1) := by decide +kernel
set_option maxRecDepth 100000 in
theorem d_law_285 : decode code 285 = .ok (.aload_n 0, 1) := by decide +kernel
set_option maxRecDepth 100000 in
theorem d_law_286 : decode code 286 = .ok (.iload_n 3, 1) := by decide +kernel
set_option maxRecDepth 100000 in
theorem d_law_287 : decode code 287 = .ok (.iconst 1, 1) := by decide +kernel
set_option maxRecDepth 100000 in
theorem d_law_288 : decode code 288 = .ok (.iadd, 1) := by decide +kernel
set_option maxRecDepth 100000 in
theorem d_law_289 : decode code 289 = .ok (.iaload, 1) := by decide +kernel
set_option maxRecDepth 100000 in
theorem d_law_290 : decode code 290 = .ok (.aload_n 0, 1) := by decide +kernel
set_option maxRecDepth 100000 in
theorem d_law_291 : decode code 291 = .ok (.iload_n 3, 1) := by decide +kernel
set_option maxRecDepth 100000 in
theorem d_law_292 : decode code 292 = .ok (.iconst 2, 1) := by decide +kernel
set_option maxRecDepth 100000 in
theorem d_law_293 : decode code 293 = .ok (.iadd, 1) := by decide +kernel
set_option maxRecDepth 100000 in
theorem d_law_294 : decode code 294 = .ok (.iaload, 1) := by decide +kernel
set_option maxRecDepth 100000 in
theorem d_law_295 : decode code 295 = .ok (.invokevirtual 31, 3) := by decide +kernel
set_option maxRecDepth 100000 in
theorem d_law_298 : decode code 298 = .ok (.pop, 1) := by decide +kernel
set_option maxRecDepth 100000 in
theorem d_law_299 : decode code 299 = .ok (.goto 960, 3) := by decide +kernel
set_option maxRecDepth 100000 in
theorem d_law_302 : decode code 302 = .ok (.aload_n 1, 1) := by decide +kernel
set_option maxRecDepth 100000 in
theorem d_law_303 : decode code 303 = .ok (.aload_n 0, 1) := by decide +kernel
set_option maxRecDepth 100000 in
theorem d_law_304 : decode code 304 = .ok (.iload_n 3, 1) := by decide +kernel
set_option maxRecDepth 100000 in
theorem d_law_305 : decode code 305 = .ok (.iconst 1, 1) := by decide +kernel
set_option maxRecDepth 100000 in
theorem d_law_306 : decode code 306 = .ok (.iadd, 1) := by decide +kernel
set_option maxRecDepth 100000 in
theorem d_law_307 : decode code 307 = .ok (.iaload, 1) := by decide +kernel
set_option maxRecDepth 100000 in
theorem d_law_308 : decode code 308 = .ok (.aload_n 0, 1) := by decide +kernel
set_option maxRecDepth 100000 in
theorem d_law_309 : decode code 309 = .ok (.iload_n 3, 1) := by decide +kernel
set_option maxRecDepth 100000 in
theorem d_law_310 : decode code 310 = .ok (.iconst 2, 1) := by decide +kernel
set_option maxRecDepth 100000 in
theorem d_law_311 : decode code 311 = .ok (.iadd, 1) := by decide +kernel
set_option maxRecDepth 100000 in
theorem d_law_312 : decode code 312 = .ok (.iaload, 1) := by decide +kernel
set_option maxRecDepth 100000 in
theorem d_law_313 : decode code 313 = .ok (.invokevirtual 32, 3) := by decide +kernel
set_option maxRecDepth 100000 in
theorem d_law_316 : decode code 316 = .ok (.pop, 1) := by decide +kernel
set_option maxRecDepth 100000 in
theorem d_law_317 : decode code 317 = .ok (.aload_n 2, 1) := by decide +kernel
set_option maxRecDepth 100000 in
theorem d_law_318 : decode code 318 = .ok (.aload_n 0, 1) := by decide +kernel
set_option maxRecDepth 100000 in
theorem d_law_319 : decode code 319 = .ok (.iload_n 3, 1) := by decide +kernel
set_option maxRecDepth 100000 in
theorem d_law_320 : decode code 320 = .ok (.iconst 1, 1) := by decide +kernel
set_option maxRecDepth 100000 in
theorem d_law_321 : decode code 321 = .ok (.iadd, 1) := by decide +kernel
set_option maxRecDepth 100000 in
theorem d_law_322 : decode code 322 = .ok (.iaload, 1) := by decide +kernel
set_option maxRecDepth 100000 in
theorem d_law_323 : decode code 323 = .ok (.aload_n 0, 1) := by decide +kernel
set_option maxRecDepth 100000 in
theorem d_law_324 : decode code 324 = .ok (.iload_n 3, 1) := by decide +kernel
set_option maxRecDepth 100000 in
theorem d_law_325 : decode code 325 = .ok (.iconst 2, 1) := by decide +kernel
set_option maxRecDepth 100000 in
theorem d_law_326 : decode code 326 = .ok (.iadd, 1) := by decide +kernel
set_option maxRecDepth 100000 in
theorem d_law_327 : decode code 327 = .ok (.iaload, 1) := by decide +kernel
set_option maxRecDepth 100000 in
theorem d_law_328 : decode code 328 = .ok (.invokevirtual 35, 3) := by decide +kernel
set_option maxRecDepth 100000 in
theorem d_law_331 : decode code 331 = .ok (.pop, 1) := by decide +kernel
set_option maxRecDepth 100000 in
theorem d_law_332 : decode code 332 = .ok (.goto 927, 3) := by decide +kernel
set_option maxRecDepth 100000 in
theorem d_law_335 : decode code 335 = .ok (.aload_n 1, 1) := by decide +kernel
set_option maxRecDepth 100000 in
theorem d_law_336 : decode code 336 = .ok (.aload_n 0, 1) := by decide +kernel
set_option maxRecDepth 100000 in
theorem d_law_337 : decode code 337 = .ok (.iload_n 3, 1) := by decide +kernel
set_option maxRecDepth 100000 in
theorem d_law_338 : decode code 338 = .ok (.iconst 1, 1) := by decide +kernel
set_option maxRecDepth 100000 in
theorem d_law_339 : decode code 339 = .ok (.iadd, 1) := by decide +kernel
set_option maxRecDepth 100000 in
theorem d_law_340 : decode code 340 = .ok (.iaload, 1) := by decide +kernel
set_option maxRecDepth 100000 in
theorem d_law_341 : decode code 341 = .ok (.aload_n 0, 1) := by decide +kernel
set_option maxRecDepth 100000 in
theorem d_law_342 : decode code 342 = .ok (.iload_n 3, 1) := by decide +kernel
set_option maxRecDepth 100000 in
theorem d_law_343 : decode code 343 = .ok (.iconst 2, 1) := by decide +kernel
set_option maxRecDepth 100000 in
theorem d_law_344 : decode code 344 = .ok (.iadd, 1) := by decide +kernel
set_option maxRecDepth 100000 in
theorem d_law_345 : decode code 345 = .ok (.iaload, 1) := by decide +kernel
set_option maxRecDepth 100000 in
theorem d_law_346 : decode code 346 = .ok (.invokevirtual 36, 3) := by decide +kernel
set_option maxRecDepth 100000 in
theorem d_law_349 : decode code 349 = .ok (.pop, 1) := by decide +kernel
set_option maxRecDepth 100000 in
theorem d_law_350 : decode code 350 = .ok (.aload_n 2, 1) := by decide +kernel
set_option maxRecDepth 100000 in
theorem d_law_351 : decode code 351 = .ok (.aload_n 0, 1) := by decide +kernel
set_option maxRecDepth 100000 in
theorem d_law_352 : decode code 352 = .ok (.iload_n 3, 1) := by decide +kernel
set_option maxRecDepth 100000 in
theorem d_law_353 : decode code 353 = .ok (.iconst 1, 1) := by decide +kernel
set_option maxRecDepth 100000 in
theorem d_law_354 : decode code 354 = .ok (.iadd, 1) := by decide +kernel
set_option maxRecDepth 100000 in
theorem d_law_355 : decode code 355 = .ok (.iaload, 1) := by decide +kernel
set_option maxRecDepth 100000 in
theorem d_law_356 : decode code 356 = .ok (.aload_n 0, 1) := by decide +kernel
set_option maxRecDepth 100000 in
theorem d_law_357 : decode code 357 = .ok (.iload_n 3, 1) := by decide +kernel
set_option maxRecDepth 100000 in
theorem d_law_358 : decode code 358 = .ok (.iconst 2, 1) := by decide +kernel
set_option maxRecDepth 100000 in
theorem d_law_359 : decode code 359 = .ok (.iadd, 1) := by decide +kernel
set_option maxRecDepth 100000 in
theorem d_law_360 : decode code 360 = .ok (.iaload, 1) := by decide +kernel
set_option maxRecDepth 100000 in
theorem d_law_361 : decode code 361 = .ok (.invokevirtual 39, 3) := by decide +kernel
set_option maxRecDepth 100000 in
theorem d_law_364 : decode code 364 = .ok (.pop, 1) := by decide +kernel
set_option maxRecDepth 100000 in
theorem d_law_365 : decode code 365 = .ok (.goto 894, 3) := by decide +kernel
set_option maxRecDepth 100000 in
theorem d_law_368 : decode code 368 = .ok (.aload_n 1, 1) := by decide +kernel
set_option maxRecDepth 100000 in
theorem d_law_369 : decode code 369 = .ok (.aload_n 0, 1) := by decide +kernel
set_option maxRecDepth 100000 in
theorem d_law_370 : decode code 370 = .ok (.iload_n 3, 1) := by decide +kernel
set_option maxRecDepth 100000 in
theorem d_law_371 : decode code 371 = .ok (.iconst 1, 1) := by decide +kernel
set_option maxRecDepth 100000 in
theorem d_law_372 : decode code 372 = .ok (.iadd, 1) := by decide +kernel
set_option maxRecDepth 100000 in
theorem d_law_373 : decode code 373 = .ok (.iaload, 1) := by decide +kernel
set_option maxRecDepth 100000 in
theorem d_law_374 : decode code 374 = .ok (.invokevirtual 40, 3) := by decide +kernel
set_option maxRecDepth 100000 in
theorem d_law_377 : decode code 377 = .ok (.pop, 1) := by decide +kernel
set_option maxRecDepth 100000 in
theorem d_law_378 : decode code 378 = .ok (.aload_n 2, 1) := by decide +kernel
set_option maxRecDepth 100000 in
theorem d_law_379 : decode code 379 = .ok (.aload_n 0, 1) := by decide +kernel
set_option maxRecDepth 100000 in
theorem d_law_380 : decode code 380 = .ok (.iload_n 3, 1) := by decide +kernel
set_option maxRecDepth 100000 in
theorem d_law_381 : decode code 381 = .ok (.iconst 1, 1) := by decide +kernel
set_option maxRecDepth 100000 in
theorem d_law_382 : decode code 382 = .ok (.iadd, 1) := by decide +kernel
set_option maxRecDepth 100000 in
theorem d_law_383 : decode code 383 = .ok (.iaload, 1) := by decide +kernel
set_option maxRecDepth 100000 in
theorem d_law_384 : decode code 384 = .ok (.invokevirtual 43, 3) := by decide +kernel
set_option maxRecDepth 100000 in
theorem d_law_387 : decode code 387 = .ok (.pop, 1) := by decide +kernel
set_option maxRecDepth 100000 in
theorem d_law_388 : decode code 388 = .ok (.goto 871, 3) := by decide +kernel
set_option maxRecDepth 100000 in
theorem d_law_391 : decode code 391 = .ok (.aload_n 1, 1) := by decide +kernel
set_option maxRecDepth 100000 in
theorem d_law_392 : decode code 392 = .ok (.aload_n 0, 1) := by decide +kernel
set_option maxRecDepth 100000 in
theorem d_law_393 : decode code 393 = .ok (.iload_n 3, 1) := by decide +kernel
set_option maxRecDepth 100000 in
theorem d_law_394 : decode code 394 = .ok (.iconst 1, 1) := by decide +kernel
set_option maxRecDepth 100000 in
theorem d_law_395 : decode code 395 = .ok (.iadd, 1) := by decide +kernel
set_option maxRecDepth 100000 in
theorem d_law_396 : decode code 396 = .ok (.iaload, 1) := by decide +kernel
set_option maxRecDepth 100000 in
theorem d_law_397 : decode code 397 = .ok (.aload_n 0, 1) := by decide +kernel
set_option maxRecDepth 100000 in
theorem d_law_398 : decode code 398 = .ok (.iload_n 3, 1) := by decide +kernel
set_option maxRecDepth 100000 in
theorem d_law_399 : decode code 399 = .ok (.iconst 2, 1) := by decide +kernel
set_option maxRecDepth 100000 in
theorem d_law_400 : decode code 400 = .ok (.iadd, 1) := by decide +kernel
set_option maxRecDepth 100000 in
theorem d_law_401 : decode code 401 = .ok (.iaload, 1) := by decide +kernel
set_option maxRecDepth 100000 in
theorem d_law_402 : decode code 402 = .ok (.invokevirtual 44, 3) := by decide +kernel
set_option maxRecDepth 100000 in
theorem d_law_405 : decode code 405 = .ok (.pop, 1) := by decide +kernel
set_option maxRecDepth 100000 in
theorem d_law_406 : decode code 406 = .ok (.aload_n 2, 1) := by decide +kernel
set_option maxRecDepth 100000 in
theorem d_law_407 : decode code 407 = .ok (.aload_n 0, 1) := by decide +kernel
set_option maxRecDepth 100000 in
theorem d_law_408 : decode code 408 = .ok (.iload_n 3, 1) := by decide +kernel
set_option maxRecDepth 100000 in
theorem d_law_409 : decode code 409 = .ok (.iconst 1, 1) := by decide +kernel
set_option maxRecDepth 100000 in
theorem d_law_410 : decode code 410 = .ok (.iadd, 1) := by decide +kernel
set_option maxRecDepth 100000 in
theorem d_law_411 : decode code 411 = .ok (.iaload, 1) := by decide +kernel
set_option maxRecDepth 100000 in
theorem d_law_412 : decode code 412 = .ok (.aload_n 0, 1) := by decide +kernel
set_option maxRecDepth 100000 in
theorem d_law_413 : decode code 413 = .ok (.iload_n 3, 1) := by decide +kernel
set_option maxRecDepth 100000 in
theorem d_law_414 : decode code 414 = .ok (.iconst 2, 1) := by decide +kernel
set_option maxRecDepth 100000 in
theorem d_law_415 : decode code 415 = .ok (.iadd, 1) := by decide +kernel
set_option maxRecDepth 100000 in
theorem d_law_416 : decode code 416 = .ok (.iaload, 1) := by decide +kernel
set_option maxRecDepth 100000 in
theorem d_law_417 : decode code 417 = .ok (.invokevirtual 47, 3) := by decide +kernel
set_option maxRecDepth 100000 in
theorem d_law_420 : decode code 420 = .ok (.pop, 1) := by decide +kernel
set_option maxRecDepth 100000 in
theorem d_law_421 : decode code 421 = .ok (.goto 838, 3) := by decide +kernel
set_option maxRecDepth 100000 in
theorem d_law_424 : decode code 424 = .ok (.aload_n 1, 1) := by decide +kernel
set_option maxRecDepth 100000 in
theorem d_law_425 : decode code 425 = .ok (.aload_n 0, 1) := by decide +kernel
set_option maxRecDepth 100000 in
theorem d_law_426 : decode code 426 = .ok (.iload_n 3, 1) := by decide +kernel
set_option maxRecDepth 100000 in
theorem d_law_427 : decode code 427 = .ok (.iconst 1, 1) := by decide +kernel
set_option maxRecDepth 100000 in
theorem d_law_428 : decode code 428 = .ok (.iadd, 1) := by decide +kernel
set_option maxRecDepth 100000 in
theorem d_law_429 : decode code 429 = .ok (.iaload, 1) := by decide +kernel
set_option maxRecDepth 100000 in
theorem d_law_430 : decode code 430 = .ok (.aload_n 0, 1) := by decide +kernel
set_option maxRecDepth 100000 in
theorem d_law_431 : decode code 431 = .ok (.iload_n 3, 1) := by decide +kernel
set_option maxRecDepth 100000 in
theorem d_law_432 : decode code 432 = .ok (.iconst 2, 1) := by decide +kernel
set_option maxRecDepth 100000 in
theorem d_law_433 : decode code 433 = .ok (.iadd, 1) := by decide +kernel
set_option maxRecDepth 100000 in
theorem d_law_434 : decode code 434 = .ok (.iaload, 1) := by decide +kernel
set_option maxRecDepth 100000 in
theorem d_law_435 : decode code 435 = .ok (.aload_n 0, 1) := by decide +kernel
set_option maxRecDepth 100000 in
theorem d_law_436 : decode code 436 = .ok (.iload_n 3, 1) := by decide +kernel
set_option maxRecDepth 100000 in
theorem d_law_437 : decode code 437 = .ok (.iconst 3, 1) := by decide +kernel
set_option maxRecDepth 100000 in
theorem d_law_438 : decode code 438 = .ok (.iadd, 1) := by decide +kernel
set_option maxRecDepth 100000 in
theorem d_law_439 : decode code 439 = .ok (.iaload, 1) := by decide +kernel
set_option maxRecDepth 100000 in
theorem d_law_440 : decode code 440 = .ok (.invokevirtual 48, 3) := by decide +kernel
set_option maxRecDepth 100000 in
theorem d_law_443 : decode code 443 = .ok (.pop, 1) := by decide +kernel
set_option maxRecDepth 100000 in
theorem d_law_444 : decode code 444 = .ok (.aload_n 2, 1) := by decide +kernel
set_option maxRecDepth 100000 in
theorem d_law_445 : decode code 445 = .ok (.aload_n 0, 1) := by decide +kernel
set_option maxRecDepth 100000 in
theorem d_law_446 : decode code 446 = .ok (.iload_n 3, 1) := by decide +kernel
set_option maxRecDepth 100000 in
theorem d_law_447 : decode code 447 = .ok (.iconst 1, 1) := by decide +kernel
set_option maxRecDepth 100000 in
theorem d_law_448 : decode code 448 = .ok (.iadd, 1) := by decide +kernel
set_option maxRecDepth 100000 in
theorem d_law_449 : decode code 449 = .ok (.iaload, 1) := by decide +kernel
set_option maxRecDepth 100000 in
theorem d_law_450 : decode code 450 = .ok (.aload_n 0, 1) := by decide +kernel
set_option maxRecDepth 100000 in
theorem d_law_451 : decode code 451 = .ok (.iload_n 3, 1) := by decide +kernel
set_option maxRecDepth 100000 in
theorem d_law_452 : decode code 452 = .ok (.iconst 2, 1) := by decide +kernel
set_option maxRecDepth 100000 in
theorem d_law_453 : decode code 453 = .ok (.iadd, 1) := by decide +kernel
set_option maxRecDepth 100000 in
theorem d_law_454 : decode code 454 = .ok (.iaload, 1) := by decide +kernel
set_option maxRecDepth 100000 in
theorem d_law_455 : decode code 455 = .ok (.aload_n 0, 1) := by decide +kernel
set_option maxRecDepth 100000 in
theorem d_law_456 : decode code 456 = .ok (.iload_n 3, 1) := by decide +kernel
set_option maxRecDepth 100000 in
theorem d_law_457 : decode code 457 = .ok (.iconst 3, 1) := by decide +kernel
set_option maxRecDepth 100000 in
theorem d_law_458 : decode code 458 = .ok (.iadd, 1) := by decide +kernel
set_option maxRecDepth 100000 in
theorem d_law_459 : decode code 459 = .ok (.iaload, 1) := by decide +kernel
set_option maxRecDepth 100000 in
theorem d_law_460 : decode code 460 = .ok (.invokevirtual 51, 3) := by decide +kernel
set_option maxRecDepth 100000 in
theorem d_law_463 : decode code 463 = .ok (.pop, 1) := by decide +kernel
set_option maxRecDepth 100000 in
theorem d_law_464 : decode code 464 = .ok (.goto 795, 3) := by decide +kernel
set_option maxRecDepth 100000 in
theorem d_law_467 : decode code 467 = .ok (.aload_n 1, 1) := by decide +kernel
set_option maxRecDepth 100000 in
theorem d_law_468 : decode code 468 = .ok (.aload_n 0, 1) := by decide +kernel
set_option maxRecDepth 100000 in
theorem d_law_469 : decode code 469 = .ok (.iload_n 3, 1) := by decide +kernel
set_option maxRecDepth 100000 in
theorem d_law_470 : decode code 470 = .ok (.iconst 1, 1) := by decide +kernel
set_option maxRecDepth 100000 in
theorem d_law_471 : decode code 471 = .ok (.iadd, 1) := by decide +kernel
set_option maxRecDepth 100000 in
theorem d_law_472 : decode code 472 = .ok (.iaload, 1) := by decide +kernel
set_option maxRecDepth 100000 in
theorem d_law_473 : decode code 473 = .ok (.invokevirtual 52, 3) := by decide +kernel
set_option maxRecDepth 100000 in
theorem d_law_476 : decode code 476 = .ok (.pop, 1) := by decide +kernel
set_option maxRecDepth 100000 in
theorem d_law_477 : decode code 477 = .ok (.aload_n 2, 1) := by decide +kernel
set_option maxRecDepth 100000 in
theorem d_law_478 : decode code 478 = .ok (.aload_n 0, 1) := by decide +kernel
set_option maxRecDepth 100000 in
theorem d_law_479 : decode code 479 = .ok (.iload_n 3, 1) := by decide +kernel
set_option maxRecDepth 100000 in
theorem d_law_480 : decode code 480 = .ok (.iconst 1, 1) := by decide +kernel
set_option maxRecDepth 100000 in
theorem d_law_481 : decode code 481 = .ok (.iadd, 1) := by decide +kernel
set_option maxRecDepth 100000 in
theorem d_law_482 : decode code 482 = .ok (.iaload, 1) := by decide +kernel
set_option maxRecDepth 100000 in
theorem d_law_483 : decode code 483 = .ok (.invokevirtual 55, 3) := by decide +kernel
set_option maxRecDepth 100000 in
theorem d_law_486 : decode code 486 = .ok (.pop, 1) := by decide +kernel
set_option maxRecDepth 100000 in
theorem d_law_487 : decode code 487 = .ok (.goto 772, 3) := by decide +kernel
set_option maxRecDepth 100000 in
theorem d_law_490 : decode code 490 = .ok (.aload_n 1, 1) := by decide +kernel
set_option maxRecDepth 100000 in
theorem d_law_491 : decode code 491 = .ok (.aload_n 0, 1) := by decide +kernel
set_option maxRecDepth 100000 in
theorem d_law_492 : decode code 492 = .ok (.iload_n 3, 1) := by decide +kernel
set_option maxRecDepth 100000 in
theorem d_law_493 : decode code 493 = .ok (.iconst 1, 1) := by decide +kernel
set_option maxRecDepth 100000 in
theorem d_law_494 : decode code 494 = .ok (.iadd, 1) := by decide +kernel
set_option maxRecDepth 100000 in
theorem d_law_495 : decode code 495 = .ok (.iaload, 1) := by decide +kernel
set_option maxRecDepth 100000 in
theorem d_law_496 : decode code 496 = .ok (.invokevirtual 56, 3) := by decide +kernel
set_option maxRecDepth 100000 in
theorem d_law_499 : decode code 499 = .ok (.pop, 1) := by decide +kernel
set_option maxRecDepth 100000 in
theorem d_law_500 : decode code 500 = .ok (.aload_n 2, 1) := by decide +kernel
set_option maxRecDepth 100000 in
theorem d_law_501 : decode code 501 = .ok (.aload_n 0, 1) := by decide +kernel
set_option maxRecDepth 100000 in
theorem d_law_502 : decode code 502 = .ok (.iload_n 3, 1) := by decide +kernel
set_option maxRecDepth 100000 in
theorem d_law_503 : decode code 503 = .ok (.iconst 1, 1) := by decide +kernel
set_option maxRecDepth 100000 in
theorem d_law_504 : decode code 504 = .ok (.iadd, 1) := by decide +kernel
set_option maxRecDepth 100000 in
theorem d_law_505 : decode code 505 = .ok (.iaload, 1) := by decide +kernel
set_option maxRecDepth 100000 in
theorem d_law_506 : decode code 506 = .ok (.invokevirtual 59, 3) := by decide +kernel
set_option maxRecDepth 100000 in
theorem d_law_509 : decode code 509 = .ok (.pop, 1) := by decide +kernel
set_option maxRecDepth 100000 in
theorem d_law_510 : decode code 510 = .ok (.goto 749, 3) := by decide +kernel
set_option maxRecDepth 100000 in
theorem d_law_513 : decode code 513 = .ok (.aload_n 1, 1) := by decide +kernel
set_option maxRecDepth 100000 in
theorem d_law_514 : decode code 514 = .ok (.aload_n 0, 1) := by decide +kernel
set_option maxRecDepth 100000 in
theorem d_law_515 : decode code 515 = .ok (.iload_n 3, 1) := by decide +kernel
set_option maxRecDepth 100000 in
theorem d_law_516 : decode code 516 = .ok (.iconst 1, 1) := by decide +kernel
set_option maxRecDepth 100000 in
theorem d_law_517 : decode code 517 = .ok (.iadd, 1) := by decide +kernel
set_option maxRecDepth 100000 in
theorem d_law_518 : decode code 518 = .ok (.iaload, 1) := by decide +kernel
set_option maxRecDepth 100000 in
theorem d_law_519 : decode code 519 = .ok (.aload_n 0, 1) := by decide +kernel
set_option maxRecDepth 100000 in
theorem d_law_520 : decode code 520 = .ok (.iload_n 3, 1) := by decide +kernel
set_option maxRecDepth 100000 in
theorem d_law_521 : decode code 521 = .ok (.iconst 2, 1) := by decide +kernel
set_option maxRecDepth 100000 in
theorem d_law_522 : decode code 522 = .ok (.iadd, 1) := by decide +kernel
set_option maxRecDepth 100000 in
theorem d_law_523 : decode code 523 = .ok (.iaload, 1) := by decide +kernel
set_option maxRecDepth 100000 in
theorem d_law_524 : decode code 524 = .ok (.invokevirtual 60, 3) := by decide +kernel
set_option maxRecDepth 100000 in
theorem d_law_527 : decode code 527 = .ok (.pop, 1) := by decide +kernel
set_option maxRecDepth 100000 in
theorem d_law_528 : decode code 528 = .ok (.aload_n 2, 1) := by decide +kernel
set_option maxRecDepth 100000 in
theorem d_law_529 : decode code 529 = .ok (.aload_n 0, 1) := by decide +kernel
set_option maxRecDepth 100000 in
theorem d_law_530 : decode code 530 = .ok (.iload_n 3, 1) := by decide +kernel
set_option maxRecDepth 100000 in
theorem d_law_531 : decode code 531 = .ok (.iconst 1, 1) := by decide +kernel
set_option maxRecDepth 100000 in
theorem d_law_532 : decode code 532 = .ok (.iadd, 1) := by decide +kernel
set_option maxRecDepth 100000 in
theorem d_law_533 : decode code 533 = .ok (.iaload, 1) := by decide +kernel
set_option maxRecDepth 100000 in
theorem d_law_534 : decode code 534 = .ok (.aload_n 0, 1) := by decide +kernel
set_option maxRecDepth 100000 in
theorem d_law_535 : decode code 535 = .ok (.iload_n 3, 1) := by decide +kernel
set_option maxRecDepth 100000 in
theorem d_law_536 : decode code 536 = .ok (.iconst 2, 1) := by decide +kernel
set_option maxRecDepth 100000 in
theorem d_law_537 : decode code 537 = .ok (.iadd, 1) := by decide +kernel
set_option maxRecDepth 100000 in
theorem d_law_538 : decode code 538 = .ok (.iaload, 1) := by decide +kernel
set_option maxRecDepth 100000 in
theorem d_law_539 : decode code 539 = .ok (.invokevirtual 63, 3) := by decide +kernel
set_option maxRecDepth 100000 in
theorem d_law_542 : decode code 542 = .ok (.pop, 1) := by decide +kernel
set_option maxRecDepth 100000 in
theorem d_law_543 : decode code 543 = .ok (.goto 716, 3) := by decide +kernel
set_option maxRecDepth 100000 in
theorem d_law_546 : decode code 546 = .ok (.aload_n 1, 1) := by decide +kernel
set_option maxRecDepth 100000 in
theorem d_law_547 : decode code 547 = .ok (.aload_n 0, 1) := by decide +kernel
set_option maxRecDepth 100000 in
theorem d_law_548 : decode code 548 = .ok (.iload_n 3, 1) := by decide +kernel
set_option maxRecDepth 100000 in
theorem d_law_549 : decode code 549 = .ok (.iconst 1, 1) := by decide +kernel
set_option maxRecDepth 100000 in
theorem d_law_550 : decode code 550 = .ok (.iadd, 1) := by decide +kernel
set_option maxRecDepth 100000 in
theorem d_law_551 : decode code 551 = .ok (.iaload, 1) := by decide +kernel
set_option maxRecDepth 100000 in
theorem d_law_552 : decode code 552 = .ok (.aload_n 0, 1) := by decide +kernel
set_option maxRecDepth 100000 in
theorem d_law_553 : decode code 553 = .ok (.iload_n 3, 1) := by decide +kernel
set_option maxRecDepth 100000 in
theorem d_law_554 : decode code 554 = .ok (.iconst 2, 1) := by decide +kernel
set_option maxRecDepth 100000 in
theorem d_law_555 : decode code 555 = .ok (.iadd, 1) := by decide +kernel
set_option maxRecDepth 100000 in
theorem d_law_556 : decode code 556 = .ok (.iaload, 1) := by decide +kernel
set_option maxRecDepth 100000 in
theorem d_law_557 : decode code 557 = .ok (.invokevirtual 64, 3) := by decide +kernel
set_option maxRecDepth 100000 in
theorem d_law_560 : decode code 560 = .ok (.pop, 1) := by decide +kernel
set_option maxRecDepth 100000 in
theorem d_law_561 : decode code 561 = .ok (.aload_n 2, 1) := by decide +kernel
set_option maxRecDepth 100000 in
theorem d_law_562 : decode code 562 = .ok (.aload_n 0, 1) := by decide +kernel
set_option maxRecDepth 100000 in
theorem d_law_563 : decode code 563 = .ok (.iload_n 3, 1) := by decide +kernel
set_option maxRecDepth 100000 in
theorem d_law_564 : decode code 564 = .ok (.iconst 1, 1) := by decide +kernel
set_option maxRecDepth 100000 in
theorem d_law_565 : decode code 565 = .ok (.iadd, 1) := by decide +kernel
set_option maxRecDepth 100000 in
theorem d_law_566 : decode code 566 = .ok (.iaload, 1) := by decide +kernel
set_option maxRecDepth 100000 in
theorem d_law_567 : decode code 567 = .ok (.aload_n 0, 1) := by decide +kernel
set_option maxRecDepth 100000 in
theorem d_law_568 : decode code 568 = .ok (.iload_n 3, 1) := by decide +kernel
set_option maxRecDepth 100000 in
theorem d_law_569 : decode code 569 = .ok (.iconst 2, 1) := by decide +kernel
set_option maxRecDepth 100000 in
theorem d_law_570 : decode code 570 = .ok (.iadd, 1) := by decide +kernel
set_option maxRecDepth 100000 in
theorem d_law_571 : decode code 571 = .ok (.iaload, 1) := by decide +kernel
set_option maxRecDepth 100000 in
theorem d_law_572 : decode code 572 = .ok (.invokevirtual 67, 3) := by decide +kernel
set_option maxRecDepth 100000 in
theorem d_law_575 : decode code 575 = .ok (.pop, 1) := by decide +kernel
set_option maxRecDepth 100000 in
theorem d_law_576 : decode code 576 = .ok (.goto 683, 3) := by decide +kernel
set_option maxRecDepth 100000 in
theorem d_law_579 : decode code 579 = .ok (.aload_n 1, 1) := by decide +kernel
set_option maxRecDepth 100000 in
theorem d_law_580 : decode code 580 = .ok (.aload_n 0, 1) := by decide +kernel
set_option maxRecDepth 100000 in
theorem d_law_581 : decode code 581 = .ok (.iload_n 3, 1) := by decide +kernel
set_option maxRecDepth 100000 in
theorem d_law_582 : decode code 582 = .ok (.iconst 1, 1) := by decide +kernel
set_option maxRecDepth 100000 in
theorem d_law_583 : decode code 583 = .ok (.iadd, 1) := by decide +kernel
set_option maxRecDepth 100000 in
theorem d_law_584 : decode code 584 = .ok (.iaload, 1) := by decide +kernel
set_option maxRecDepth 100000 in
theorem d_law_585 : decode code 585 = .ok (.aload_n 0, 1) := by decide +kernel
set_option maxRecDepth 100000 in
theorem d_law_586 : decode code 586 = .ok (.iload_n 3, 1) := by decide +kernel
set_option maxRecDepth 100000 in
theorem d_law_587 : decode code 587 = .ok (.iconst 2, 1) := by decide +kernel
set_option maxRecDepth 100000 in
theorem d_law_588 : decode code 588 = .ok (.iadd, 1) := by decide +kernel
set_option maxRecDepth 100000 in
theorem d_law_589 : decode code 589 = .ok (.iaload, 1) := by decide +kernel
set_option maxRecDepth 100000 in
theorem d_law_590 : decode code 590 = .ok (.invokevirtual 68, 3) := by decide +kernel
set_option maxRecDepth 100000 in
theorem d_law_593 : decode code 593 = .ok (.pop, 1) := by decide +kernel
set_option maxRecDepth 100000 in
theorem d_law_594 : decode code 594 = .ok (.aload_n 2, 1) := by decide +kernel
set_option maxRecDepth 100000 in
theorem d_law_595 : decode code 595 = .ok (.aload_n 0, 1) := by decide +kernel
set_option maxRecDepth 100000 in
theorem d_law_596 : decode code 596 = .ok (.iload_n 3, 1) := by decide +kernel
set_option maxRecDepth 100000 in
theorem d_law_597 : decode code 597 = .ok (.iconst 1, 1) := by decide +kernel
set_option maxRecDepth 100000 in
theorem d_law_598 : decode code 598 = .ok (.iadd, 1) := by decide +kernel
set_option maxRecDepth 100000 in
theorem d_law_599 : decode code 599 = .ok (.iaload, 1) := by decide +kernel
set_option maxRecDepth 100000 in
theorem d_law_600 : decode code 600 = .ok (.aload_n 0, 1) := by decide +kernel
set_option maxRecDepth 100000 in
theorem d_law_601 : decode code 601 = .ok (.iload_n 3, 1) := by decide +kernel
set_option maxRecDepth 100000 in
theorem d_law_602 : decode code 602 = .ok (.iconst 2, 1) := by decide +kernel
set_option maxRecDepth 100000 in
theorem d_law_603 : decode code 603 = .ok (.iadd, 1) := by decide +kernel
set_option maxRecDepth 100000 in
theorem d_law_604 : decode code 604 = .ok (.iaload, 1) := by decide +kernel
set_option maxRecDepth 100000 in
theorem d_law_605 : decode code 605 = .ok (.invokevirtual 71, 3) := by decide +kernel
set_option maxRecDepth 100000 in
theorem d_law_608 : decode code 608 = .ok (.pop, 1) := by decide +kernel
set_option maxRecDepth 100000 in
theorem d_law_609 : decode code 609 = .ok (.goto 650, 3) := by decide +kernel
set_option maxRecDepth 100000 in
theorem d_law_612 : decode code 612 = .ok (.aload_n 1, 1) := by decide +kernel
set_option maxRecDepth 100000 in
theorem d_law_613 : decode code 613 = .ok (.aload_n 0, 1) := by decide +kernel
set_option maxRecDepth 100000 in
theorem d_law_614 : decode code 614 = .ok (.iload_n 3, 1) := by decide +kernel
set_option maxRecDepth 100000 in
theorem d_law_615 : decode code 615 = .ok (.iconst 1, 1) := by decide +kernel
set_option maxRecDepth 100000 in
theorem d_law_616 : decode code 616 = .ok (.iadd, 1) := by decide +kernel
set_option maxRecDepth 100000 in
theorem d_law_617 : decode code 617 = .ok (.iaload, 1) := by decide +kernel
set_option maxRecDepth 100000 in
theorem d_law_618 : decode code 618 = .ok (.aload_n 0, 1) := by decide +kernel
set_option maxRecDepth 100000 in
theorem d_law_619 : decode code 619 = .ok (.iload_n 3, 1) := by decide +kernel
set_option maxRecDepth 100000 in
theorem d_law_620 : decode code 620 = .ok (.iconst 2, 1) := by decide +kernel
set_option maxRecDepth 100000 in
theorem d_law_621 : decode code 621 = .ok (.iadd, 1) := by decide +kernel
set_option maxRecDepth 100000 in
theorem d_law_622 : decode code 622 = .ok (.iaload, 1) := by decide +kernel
set_option maxRecDepth 100000 in
theorem d_law_623 : decode code 623 = .ok (.invokevirtual 72, 3) := by decide +kernel
set_option maxRecDepth 100000 in
theorem d_law_626 : decode code 626 = .ok (.pop, 1) := by decide +kernel
set_option maxRecDepth 100000 in
theorem d_law_627 : decode code 627 = .ok (.aload_n 2, 1) := by decide +kernel
set_option maxRecDepth 100000 in
theorem d_law_628 : decode code 628 = .ok (.aload_n 0, 1) := by decide +kernel
set_option maxRecDepth 100000 in
theorem d_law_629 : decode code 629 = .ok (.iload_n 3, 1) := by decide +kernel
set_option maxRecDepth 100000 in
theorem d_law_630 : decode code 630 = .ok (.iconst 1, 1) := by decide +kernel
set_option maxRecDepth 100000 in
theorem d_law_631 : decode code 631 = .ok (.iadd, 1) := by decide +kernel
set_option maxRecDepth 100000 in
theorem d_law_632 : decode code 632 = .ok (.iaload, 1) := by decide +kernel
set_option maxRecDepth 100000 in
theorem d_law_633 : decode code 633 = .ok (.aload_n 0, 1) := by decide +kernel
set_option maxRecDepth 100000 in
theorem d_law_634 : decode code 634 = .ok (.iload_n 3, 1) := by decide +kernel
set_option maxRecDepth 100000 in
theorem d_law_635 : decode code 635 = .ok (.iconst 2, 1) := by decide +kernel
set_option maxRecDepth 100000 in
theorem d_law_636 : decode code 636 = .ok (.iadd, 1) := by decide +kernel
set_option maxRecDepth 100000 in
theorem d_law_637 : decode code 637 = .ok (.iaload, 1) := by decide +kernel
set_option maxRecDepth 100000 in
theorem d_law_638 : decode code 638 = .ok (.invokevirtual 75, 3) := by decide +kernel
set_option maxRecDepth 100000 in
theorem d_law_641 : decode code 641 = .ok (.pop, 1) := by decide +kernel
set_option maxRecDepth 100000 in
theorem d_law_642 : decode code 642 = .ok (.goto 617, 3) := by decide +kernel
set_option maxRecDepth 100000 in
theorem d_law_645 : decode code 645 = .ok (.aload_n 1, 1) := by decide +kernel
set_option maxRecDepth 100000 in
theorem d_law_646 : decode code 646 = .ok (.aload_n 0, 1) := by decide +kernel
set_option maxRecDepth 100000 in
theorem d_law_647 : decode code 647 = .ok (.iload_n 3, 1) := by decide +kernel
set_option maxRecDepth 100000 in
theorem d_law_648 : decode code 648 = .ok (.iconst 1, 1) := by decide +kernel
set_option maxRecDepth 100000 in
theorem d_law_649 : decode code 649 = .ok (.iadd, 1) := by decide +kernel
set_option maxRecDepth 100000 in
theorem d_law_650 : decode code 650 = .ok (.iaload, 1) := by decide +kernel
set_option maxRecDepth 100000 in
theorem d_law_651 : decode code 651 = .ok (.invokevirtual 76, 3) := by decide +kernel
set_option maxRecDepth 100000 in
theorem d_law_654 : decode code 654 = .ok (.pop, 1) := by decide +kernel
set_option maxRecDepth 100000 in
theorem d_law_655 : decode code 655 = .ok (.aload_n 2, 1) := by decide +kernel
set_option maxRecDepth 100000 in
theorem d_law_656 : decode code 656 = .ok (.aload_n 0, 1) := by decide +kernel
set_option maxRecDepth 100000 in
theorem d_law_657 : decode code 657 = .ok (.iload_n 3, 1) := by decide +kernel
set_option maxRecDepth 100000 in
theorem d_law_658 : decode code 658 = .ok (.iconst 1, 1) := by decide +kernel
set_option maxRecDepth 100000 in
theorem d_law_659 : decode code 659 = .ok (.iadd, 1) := by decide +kernel
set_option maxRecDepth 100000 in
theorem d_law_660 : decode code 660 = .ok (.iaload, 1) := by decide +kernel
set_option maxRecDepth 100000 in
theorem d_law_661 : decode code 661 = .ok (.invokevirtual 79, 3) := by decide +kernel
set_option maxRecDepth 100000 in
theorem d_law_664 : decode code 664 = .ok (.pop, 1) := by decide +kernel
set_option maxRecDepth 100000 in
theorem d_law_665 : decode code 665 = .ok (.goto 594, 3) := by decide +kernel
set_option maxRecDepth 100000 in
theorem d_law_668 : decode code 668 = .ok (.aload_n 1, 1) := by decide +kernel
set_option maxRecDepth 100000 in
theorem d_law_669 : decode code 669 = .ok (.aload_n 0, 1) := by decide +kernel
set_option maxRecDepth 100000 in
theorem d_law_670 : decode code 670 = .ok (.iload_n 3, 1) := by decide +kernel
set_option maxRecDepth 100000 in
theorem d_law_671 : decode code 671 = .ok (.iconst 1, 1) := by decide +kernel
set_option maxRecDepth 100000 in
theorem d_law_672 : decode code 672 = .ok (.iadd, 1) := by decide +kernel
set_option maxRecDepth 100000 in
theorem d_law_673 : decode code 673 = .ok (.iaload, 1) := by decide +kernel
set_option maxRecDepth 100000 in
theorem d_law_674 : decode code 674 = .ok (.aload_n 0, 1) := by decide +kernel
set_option maxRecDepth 100000 in
theorem d_law_675 : decode code 675 = .ok (.iload_n 3, 1) := by decide +kernel
set_option maxRecDepth 100000 in
theorem d_law_676 : decode code 676 = .ok (.iconst 2, 1) := by decide +kernel
set_option maxRecDepth 100000 in
theorem d_law_677 : decode code 677 = .ok (.iadd, 1) := by decide +kernel
set_option maxRecDepth 100000 in
theorem d_law_678 : decode code 678 = .ok (.iaload, 1) := by decide +kernel
set_option maxRecDepth 100000 in
theorem d_law_679 : decode code 679 = .ok (.aload_n 0, 1) := by decide +kernel
set_option maxRecDepth 100000 in
theorem d_law_680 : decode code 680 = .ok (.iload_n 3, 1) := by decide +kernel
set_option maxRecDepth 100000 in
theorem d_law_681 : decode code 681 = .ok (.iconst 3, 1) := by decide +kernel
set_option maxRecDepth 100000 in
theorem d_law_682 : decode code 682 = .ok (.iadd, 1) := by decide +kernel
set_option maxRecDepth 100000 in
theorem d_law_683 : decode code 683 = .ok (.iaload, 1) := by decide +kernel
set_option maxRecDepth 100000 in
theorem d_law_684 : decode code 684 = .ok (.aload_n 0, 1) := by decide +kernel
set_option maxRecDepth 100000 in
theorem d_law_685 : decode code 685 = .ok (.iload_n 3, 1) := by decide +kernel
set_option maxRecDepth 100000 in
theorem d_law_686 : decode code 686 = .ok (.iconst 4, 1) := by decide +kernel
set_option maxRecDepth 100000 in
theorem d_law_687 : decode code 687 = .ok (.iadd, 1) := by decide +kernel
set_option maxRecDepth 100000 in
theorem d_law_688 : decode code 688 = .ok (.iaload, 1) := by decide +kernel
set_option maxRecDepth 100000 in
theorem d_law_689 : decode code 689 = .ok (.aload_n 0, 1) := by decide +kernel
set_option maxRecDepth 100000 in
theorem d_law_690 : decode code 690 = .ok (.iload_n 3, 1) := by decide +kernel
set_option maxRecDepth 100000 in
theorem d_law_691 : decode code 691 = .ok (.iconst 5, 1) := by decide +kernel
set_option maxRecDepth 100000 in
theorem d_law_692 : decode code 692 = .ok (.iadd, 1) := by decide +kernel
set_option maxRecDepth 100000 in
theorem d_law_693 : decode code 693 = .ok (.iaload, 1) := by decide +kernel
set_option maxRecDepth 100000 in
theorem d_law_694 : decode code 694 = .ok (.invokevirtual 80, 3) := by decide +kernel
set_option maxRecDepth 100000 in
theorem d_law_697 : decode code 697 = .ok (.pop, 1) := by decide +kernel
set_option maxRecDepth 100000 in
theorem d_law_698 : decode code 698 = .ok (.aload_n 2, 1) := by decide +kernel
set_option maxRecDepth 100000 in
theorem d_law_699 : decode code 699 = .ok (.aload_n 0, 1) := by decide +kernel
set_option maxRecDepth 100000 in
theorem d_law_700 : decode code 700 = .ok (.iload_n 3, 1) := by decide +kernel
set_option maxRecDepth 100000 in
theorem d_law_701 : decode code 701 = .ok (.iconst 1, 1) := by decide +kernel
set_option maxRecDepth 100000 in
theorem d_law_702 : decode code 702 = .ok (.iadd, 1) := by decide +kernel
set_option maxRecDepth 100000 in
theorem d_law_703 : decode code 703 = .ok (.iaload, 1) := by decide +kernel
set_option maxRecDepth 100000 in
theorem d_law_704 : decode code 704 = .ok (.aload_n 0, 1) := by decide +kernel
set_option maxRecDepth 100000 in
theorem d_law_705 : decode code 705 = .ok (.iload_n 3, 1) := by decide +kernel
set_option maxRecDepth 100000 in
theorem d_law_706 : decode code 706 = .ok (.iconst 2, 1) := by decide +kernel
set_option maxRecDepth 100000 in
theorem d_law_707 : decode code 707 = .ok (.iadd, 1) := by decide +kernel
set_option maxRecDepth 100000 in
theorem d_law_708 : decode code 708 = .ok (.iaload, 1) := by decide +kernel
set_option maxRecDepth 100000 in
theorem d_law_709 : decode code 709 = .ok (.aload_n 0, 1) := by decide +kernel
set_option maxRecDepth 100000 in
theorem d_law_710 : decode code 710 = .ok (.iload_n 3, 1) := by decide +kernel
set_option maxRecDepth 100000 in
theorem d_law_711 : decode code 711 = .ok (.iconst 3, 1) := by decide +kernel
set_option maxRecDepth 100000 in
theorem d_law_712 : decode code 712 = .ok (.iadd, 1) := by decide +kernel
set_option maxRecDepth 100000 in
theorem d_law_713 : decode code 713 = .ok (.iaload, 1) := by decide +kernel
set_option maxRecDepth 100000 in
theorem d_law_714 : decode code 714 = .ok (.aload_n 0, 1) := by decide +kernel
set_option maxRecDepth 100000 in
theorem d_law_715 : decode code 715 = .ok (.iload_n 3, 1) := by decide +kernel
set_option maxRecDepth 100000 in
theorem d_law_716 : decode code 716 = .ok (.iconst 4, 1) := by decide +kernel
set_option maxRecDepth 100000 in
theorem d_law_717 : decode code 717 = .ok (.iadd, 1) := by decide +kernel
set_option maxRecDepth 100000 in
theorem d_law_718 : decode code 718 = .ok (.iaload, 1) := by decide +kernel
set_option maxRecDepth 100000 in
theorem d_law_719 : decode code 719 = .ok (.aload_n 0, 1) := by decide +kernel
set_option maxRecDepth 100000 in
theorem d_law_720 : decode code 720 = .ok (.iload_n 3, 1) := by decide +kernel
set_option maxRecDepth 100000 in
theorem d_law_721 : decode code 721 = .ok (.iconst 5, 1) := by decide +kernel
set_option maxRecDepth 100000 in
theorem d_law_722 : decode code 722 = .ok (.iadd, 1) := by decide +kernel
set_option maxRecDepth 100000 in
theorem d_law_723 : decode code 723 = .ok (.iaload, 1) := by decide +kernel
set_option maxRecDepth 100000 in
theorem d_law_724 : decode code 724 = .ok (.invokevirtual 84, 3) := by decide +kernel
set_option maxRecDepth 100000 in
theorem d_law_727 : decode code 727 = .ok (.pop, 1) := by decide +kernel
set_option maxRecDepth 100000 in
theorem d_law_728 : decode code 728 = .ok (.goto 531, 3) := by decide +kernel
set_option maxRecDepth 100000 in
theorem d_law_731 : decode code 731 = .ok (.aload_n 1, 1) := by decide +kernel
set_option maxRecDepth 100000 in
theorem d_law_732 : decode code 732 = .ok (.aload_n 0, 1) := by decide +kernel
set_option maxRecDepth 100000 in
theorem d_law_733 : decode code 733 = .ok (.iload_n 3, 1) := by decide +kernel
set_option maxRecDepth 100000 in
theorem d_law_734 : decode code 734 = .ok (.iconst 1, 1) := by decide +kernel
set_option maxRecDepth 100000 in
theorem d_law_735 : decode code 735 = .ok (.iadd, 1) := by decide +kernel
set_option maxRecDepth 100000 in
theorem d_law_736 : decode code 736 = .ok (.iaload, 1) := by decide +kernel
set_option maxRecDepth 100000 in
theorem d_law_737 : decode code 737 = .ok (.invokevirtual 85, 3) := by decide +kernel
set_option maxRecDepth 100000 in
theorem d_law_740 : decode code 740 = .ok (.pop, 1) := by decide +kernel
set_option maxRecDepth 100000 in
theorem d_law_741 : decode code 741 = .ok (.aload_n 2, 1) := by decide +kernel
set_option maxRecDepth 100000 in
theorem d_law_742 : decode code 742 = .ok (.aload_n 0, 1) := by decide +kernel
set_option maxRecDepth 100000 in
theorem d_law_743 : decode code 743 = .ok (.iload_n 3, 1) := by decide +kernel
set_option maxRecDepth 100000 in
theorem d_law_744 : decode code 744 = .ok (.iconst 1, 1) := by decide +kernel
set_option maxRecDepth 100000 in
theorem d_law_745 : decode code 745 = .ok (.iadd, 1) := by decide +kernel
set_option maxRecDepth 100000 in
theorem d_law_746 : decode code 746 = .ok (.iaload, 1) := by decide +kernel
set_option maxRecDepth 100000 in
theorem d_law_747 : decode code 747 = .ok (.invokevirtual 88, 3) := by decide +kernel
set_option maxRecDepth 100000 in
theorem d_law_750 : decode code 750 = .ok (.pop, 1) := by decide +kernel
set_option maxRecDepth 100000 in
theorem d_law_751 : decode code 751 = .ok (.goto 508, 3) := by decide +kernel
set_option maxRecDepth 100000 in
theorem d_law_754 : decode code 754 = .ok (.aload_n 1, 1) := by decide +kernel
set_option maxRecDepth 100000 in
theorem d_law_755 : decode code 755 = .ok (.aload_n 0, 1) := by decide +kernel
set_option maxRecDepth 100000 in
theorem d_law_756 : decode code 756 = .ok (.iload_n 3, 1) := by decide +kernel
set_option maxRecDepth 100000 in
theorem d_law_757 : decode code 757 = .ok (.iconst 1, 1) := by decide +kernel
set_option maxRecDepth 100000 in
theorem d_law_758 : decode code 758 = .ok (.iadd, 1) := by decide +kernel
set_option maxRecDepth 100000 in
theorem d_law_759 : decode code 759 = .ok (.iaload, 1) := by decide +kernel
set_option maxRecDepth 100000 in
theorem d_law_760 : decode code 760 = .ok (.invokevirtual 89, 3) := by decide +kernel
set_option maxRecDepth 100000 in
theorem d_law_763 : decode code 763 = .ok (.pop, 1) := by decide +kernel
set_option maxRecDepth 100000 in
theorem d_law_764 : decode code 764 = .ok (.aload_n 2, 1) := by decide +kernel
set_option maxRecDepth 100000 in
theorem d_law_765 : decode code 765 = .ok (.aload_n 0, 1) := by decide +kernel
set_option maxRecDepth 100000 in
theorem d_law_766 : decode code 766 = .ok (.iload_n 3, 1) := by decide +kernel
set_option maxRecDepth 100000 in
theorem d_law_767 : decode code 767 = .ok (.iconst 1, 1) := by decide +kernel
set_option maxRecDepth 100000 in
theorem d_law_768 : decode code 768 = .ok (.iadd, 1) := by decide +kernel
set_option maxRecDepth 100000 in
theorem d_law_769 : decode code 769 = .ok (.iaload, 1) := by decide +kernel
set_option maxRecDepth 100000 in
theorem d_law_770 : decode code 770 = .ok (.invokevirtual 92, 3) := by decide +kernel
set_option maxRecDepth 100000 in
theorem d_law_773 : decode code 773 = .ok (.pop, 1) := by decide +kernel
set_option maxRecDepth 100000 in
theorem d_law_774 : decode code 774 = .ok (.goto 485, 3) := by decide +kernel
set_option maxRecDepth 100000 in
theorem d_law_777 : decode code 777 = .ok (.aload_n 1, 1) := by decide +kernel
set_option maxRecDepth 100000 in
theorem d_law_778 : decode code 778 = .ok (.aload_n 0, 1) := by decide +kernel
set_option maxRecDepth 100000 in
theorem d_law_779 : decode code 779 = .ok (.iload_n 3, 1) := by decide +kernel
set_option maxRecDepth 100000 in
theorem d_law_780 : decode code 780 = .ok (.iconst 1, 1) := by decide +kernel
set_option maxRecDepth 100000 in
theorem d_law_781 : decode code 781 = .ok (.iadd, 1) := by decide +kernel
set_option maxRecDepth 100000 in
theorem d_law_782 : decode code 782 = .ok (.iaload, 1) := by decide +kernel
set_option maxRecDepth 100000 in
theorem d_law_783 : decode code 783 = .ok (.aload_n 0, 1) := by decide +kernel
set_option maxRecDepth 100000 in
theorem d_law_784 : decode code 784 = .ok (.iload_n 3, 1) := by decide +kernel
set_option maxRecDepth 100000 in
theorem d_law_785 : decode code 785 = .ok (.iconst 2, 1) := by decide +kernel
set_option maxRecDepth 100000 in
theorem d_law_786 : decode code 786 = .ok (.iadd, 1) := by decide +kernel
set_option maxRecDepth 100000 in
theorem d_law_787 : decode code 787 = .ok (.iaload, 1) := by decide +kernel
set_option maxRecDepth 100000 in
theorem d_law_788 : decode code 788 = .ok (.invokevirtual 93, 3) := by decide +kernel
set_option maxRecDepth 100000 in
theorem d_law_791 : decode code 791 = .ok (.pop, 1) := by decide +kernel
set_option maxRecDepth 100000 in
theorem d_law_792 : decode code 792 = .ok (.aload_n 2, 1) := by decide +kernel
set_option maxRecDepth 100000 in
theorem d_law_793 : decode code 793 = .ok (.aload_n 0, 1) := by decide +kernel
set_option maxRecDepth 100000 in
theorem d_law_794 : decode code 794 = .ok (.iload_n 3, 1) := by decide +kernel
set_option maxRecDepth 100000 in
theorem d_law_795 : decode code 795 = .ok (.iconst 1, 1) := by decide +kernel
set_option maxRecDepth 100000 in
theorem d_law_796 : decode code 796 = .ok (.iadd, 1) := by decide +kernel
set_option maxRecDepth 100000 in
theorem d_law_797 : decode code 797 = .ok (.iaload, 1) := by decide +kernel
set_option maxRecDepth 100000 in
theorem d_law_798 : decode code 798 = .ok (.aload_n 0, 1) := by decide +kernel
set_option maxRecDepth 100000 in
theorem d_law_799 : decode code 799 = .ok (.iload_n 3, 1) := by decide +kernel
set_option maxRecDepth 100000 in
theorem d_law_800 : decode code 800 = .ok (.iconst 2, 1) := by decide +kernel
set_option maxRecDepth 100000 in
theorem d_law_801 : decode code 801 = .ok (.iadd, 1) := by decide +kernel
set_option maxRecDepth 100000 in
theorem d_law_802 : decode code 802 = .ok (.iaload, 1) := by decide +kernel
set_option maxRecDepth 100000 in
theorem d_law_803 : decode code 803 = .ok (.invokevirtual 96, 3) := by decide +kernel
set_option maxRecDepth 100000 in
theorem d_law_806 : decode code 806 = .ok (.pop, 1) := by decide +kernel
set_option maxRecDepth 100000 in
theorem d_law_807 : decode code 807 = .ok (.goto 452, 3) := by decide +kernel
set_option maxRecDepth 100000 in
theorem d_law_810 : decode code 810 = .ok (.aload_n 1, 1) := by decide +kernel
set_option maxRecDepth 100000 in
theorem d_law_811 : decode code 811 = .ok (.aload_n 0, 1) := by decide +kernel
set_option maxRecDepth 100000 in
theorem d_law_812 : decode code 812 = .ok (.iload_n 3, 1) := by decide +kernel
set_option maxRecDepth 100000 in
theorem d_law_813 : decode code 813 = .ok (.iconst 1, 1) := by decide +kernel
set_option maxRecDepth 100000 in
theorem d_law_814 : decode code 814 = .ok (.iadd, 1) := by decide +kernel
set_option maxRecDepth 100000 in
theorem d_law_815 : decode code 815 = .ok (.iaload, 1) := by decide +kernel
set_option maxRecDepth 100000 in
theorem d_law_816 : decode code 816 = .ok (.aload_n 0, 1) := by decide +kernel
set_option maxRecDepth 100000 in
theorem d_law_817 : decode code 817 = .ok (.iload_n 3, 1) := by decide +kernel
set_option maxRecDepth 100000 in
theorem d_law_818 : decode code 818 = .ok (.iconst 2, 1) := by decide +kernel
set_option maxRecDepth 100000 in
theorem d_law_819 : decode code 819 = .ok (.iadd, 1) := by decide +kernel
set_option maxRecDepth 100000 in
theorem d_law_820 : decode code 820 = .ok (.iaload, 1) := by decide +kernel
set_option maxRecDepth 100000 in
theorem d_law_821 : decode code 821 = .ok (.aload_n 0, 1) := by decide +kernel
set_option maxRecDepth 100000 in
theorem d_law_822 : decode code 822 = .ok (.iload_n 3, 1) := by decide +kernel
set_option maxRecDepth 100000 in
theorem d_law_823 : decode code 823 = .ok (.iconst 3, 1) := by decide +kernel
set_option maxRecDepth 100000 in
theorem d_law_824 : decode code 824 = .ok (.iadd, 1) := by decide +kernel
set_option maxRecDepth 100000 in
theorem d_law_825 : decode code 825 = .ok (.iaload, 1) := by decide +kernel
set_option maxRecDepth 100000 in
theorem d_law_826 : decode code 826 = .ok (.aload_n 0, 1) := by decide +kernel
set_option maxRecDepth 100000 in
theorem d_law_827 : decode code 827 = .ok (.iload_n 3, 1) := by decide +kernel
set_option maxRecDepth 100000 in
theorem d_law_828 : decode code 828 = .ok (.iconst 4, 1) := by decide +kernel
set_option maxRecDepth 100000 in
theorem d_law_829 : decode code 829 = .ok (.iadd, 1) := by decide +kernel
set_option maxRecDepth 100000 in
theorem d_law_830 : decode code 830 = .ok (.iaload, 1) := by decide +kernel
set_option maxRecDepth 100000 in
theorem d_law_831 : decode code 831 = .ok (.aload_n 0, 1) := by decide +kernel
set_option maxRecDepth 100000 in
theorem d_law_832 : decode code 832 = .ok (.iload_n 3, 1) := by decide +kernel
set_option maxRecDepth 100000 in
theorem d_law_833 : decode code 833 = .ok (.iconst 5, 1) := by decide +kernel
set_option maxRecDepth 100000 in
theorem d_law_834 : decode code 834 = .ok (.iadd, 1) := by decide +kernel
set_option maxRecDepth 100000 in
theorem d_law_835 : decode code 835 = .ok (.iaload, 1) := by decide +kernel
set_option maxRecDepth 100000 in
theorem d_law_836 : decode code 836 = .ok (.invokevirtual 97, 3) := by decide +kernel
set_option maxRecDepth 100000 in
theorem d_law_839 : decode code 839 = .ok (.pop, 1) := by decide +kernel
set_option maxRecDepth 100000 in
theorem d_law_840 : decode code 840 = .ok (.aload_n 2, 1) := by decide +kernel
set_option maxRecDepth 100000 in
theorem d_law_841 : decode code 841 = .ok (.aload_n 0, 1) := by decide +kernel
set_option maxRecDepth 100000 in
theorem d_law_842 : decode code 842 = .ok (.iload_n 3, 1) := by decide +kernel
set_option maxRecDepth 100000 in
theorem d_law_843 : decode code 843 = .ok (.iconst 1, 1) := by decide +kernel
set_option maxRecDepth 100000 in
theorem d_law_844 : decode code 844 = .ok (.iadd, 1) := by decide +kernel
set_option maxRecDepth 100000 in
theorem d_law_845 : decode code 845 = .ok (.iaload, 1) := by decide +kernel
set_option maxRecDepth 100000 in
theorem d_law_846 : decode code 846 = .ok (.aload_n 0, 1) := by decide +kernel
set_option maxRecDepth 100000 in
theorem d_law_847 : decode code 847 = .ok (.iload_n 3, 1) := by decide +kernel
set_option maxRecDepth 100000 in
theorem d_law_848 : decode code 848 = .ok (.iconst 2, 1) := by decide +kernel
set_option maxRecDepth 100000 in
theorem d_law_849 : decode code 849 = .ok (.iadd, 1) := by decide +kernel
set_option maxRecDepth 100000 in
theorem d_law_850 : decode code 850 = .ok (.iaload, 1) := by decide +kernel
set_option maxRecDepth 100000 in
theorem d_law_851 : decode code 851 = .ok (.aload_n 0, 1) := by decide +kernel
set_option maxRecDepth 100000 in
theorem d_law_852 : decode code 852 = .ok (.iload_n 3, 1) := by decide +kernel
set_option maxRecDepth 100000 in
theorem d_law_853 : decode code 853 = .ok (.iconst 3, 1) := by decide +kernel
set_option maxRecDepth 100000 in
theorem d_law_854 : decode code 854 = .ok (.iadd, 1) := by decide +kernel
set_option maxRecDepth 100000 in
theorem d_law_855 : decode code 855 = .ok (.iaload, 1) := by decide +kernel
set_option maxRecDepth 100000 in
theorem d_law_856 : decode code 856 = .ok (.aload_n 0, 1) := by decide +kernel
set_option maxRecDepth 100000 in
theorem d_law_857 : decode code 857 = .ok (.iload_n 3, 1) := by decide +kernel
set_option maxRecDepth 100000 in
theorem d_law_858 : decode code 858 = .ok (.iconst 4, 1) := by decide +kernel
set_option maxRecDepth 100000 in
theorem d_law_859 : decode code 859 = .ok (.iadd, 1) := by decide +kernel
set_option maxRecDepth 100000 in
theorem d_law_860 : decode code 860 = .ok (.iaload, 1) := by decide +kernel
set_option maxRecDepth 100000 in
theorem d_law_861 : decode code 861 = .ok (.aload_n 0, 1) := by decide +kernel
set_option maxRecDepth 100000 in
theorem d_law_862 : decode code 862 = .ok (.iload_n 3, 1) := by decide +kernel
set_option maxRecDepth 100000 in
theorem d_law_863 : decode code 863 = .ok (.iconst 5, 1) := by decide +kernel
set_option maxRecDepth 100000 in
theorem d_law_864 : decode code 864 = .ok (.iadd, 1) := by decide +kernel
set_option maxRecDepth 100000 in
theorem d_law_865 : decode code 865 = .ok (.iaload, 1) := by decide +kernel
set_option maxRecDepth 100000 in
theorem d_law_866 : decode code 866 = .ok (.invokevirtual 100, 3) := by decide +kernel
set_option maxRecDepth 100000 in
theorem d_law_869 : decode code 869 = .ok (.pop, 1) := by decide +kernel
set_option maxRecDepth 100000 in
theorem d_law_870 : decode code 870 = .ok (.goto 389, 3) := by decide +kernel
set_option maxRecDepth 100000 in
theorem d_law_873 : decode code 873 = .ok (.aload_n 1, 1) := by decide +kernel
set_option maxRecDepth 100000 in
theorem d_law_874 : decode code 874 = .ok (.aload_n 0, 1) := by decide +kernel
set_option maxRecDepth 100000 in
theorem d_law_875 : decode code 875 = .ok (.iload_n 3, 1) := by decide +kernel
set_option maxRecDepth 100000 in
theorem d_law_876 : decode code 876 = .ok (.iconst 1, 1) := by decide +kernel
set_option maxRecDepth 100000 in
theorem d_law_877 : decode code 877 = .ok (.iadd, 1) := by decide +kernel
set_option maxRecDepth 100000 in
theorem d_law_878 : decode code 878 = .ok (.iaload, 1) := by decide +kernel
set_option maxRecDepth 100000 in
theorem d_law_879 : decode code 879 = .ok (.aload_n 0, 1) := by decide +kernel
set_option maxRecDepth 100000 in
theorem d_law_880 : decode code 880 = .ok (.iload_n 3, 1) := by decide +kernel
set_option maxRecDepth 100000 in
theorem d_law_881 : decode code 881 = .ok (.iconst 2, 1) := by decide +kernel
set_option maxRecDepth 100000 in
theorem d_law_882 : decode code 882 = .ok (.iadd, 1) := by decide +kernel
set_option maxRecDepth 100000 in
theorem d_law_883 : decode code 883 = .ok (.iaload, 1) := by decide +kernel
set_option maxRecDepth 100000 in
theorem d_law_884 : decode code 884 = .ok (.aload_n 0, 1) := by decide +kernel
set_option maxRecDepth 100000 in
theorem d_law_885 : decode code 885 = .ok (.iload_n 3, 1) := by decide +kernel
set_option maxRecDepth 100000 in
theorem d_law_886 : decode code 886 = .ok (.iconst 3, 1) := by decide +kernel
set_option maxRecDepth 100000 in
theorem d_law_887 : decode code 887 = .ok (.iadd, 1) := by decide +kernel
set_option maxRecDepth 100000 in
theorem d_law_888 : decode code 888 = .ok (.iaload, 1) := by decide +kernel
set_option maxRecDepth 100000 in
theorem d_law_889 : decode code 889 = .ok (.invokevirtual 101, 3) := by decide +kernel
set_option maxRecDepth 100000 in
theorem d_law_892 : decode code 892 = .ok (.pop, 1) := by decide +kernel
set_option maxRecDepth 100000 in
theorem d_law_893 : decode code 893 = .ok (.aload_n 2, 1) := by decide +kernel
set_option maxRecDepth 100000 in
theorem d_law_894 : decode code 894 = .ok (.aload_n 0, 1) := by decide +kernel
set_option maxRecDepth 100000 in
theorem d_law_895 : decode code 895 = .ok (.iload_n 3, 1) := by decide +kernel
set_option maxRecDepth 100000 in
theorem d_law_896 : decode code 896 = .ok (.iconst 1, 1) := by decide +kernel
set_option maxRecDepth 100000 in
theorem d_law_897 : decode code 897 = .ok (.iadd, 1) := by decide +kernel
set_option maxRecDepth 100000 in
theorem d_law_898 : decode code 898 = .ok (.iaload, 1) := by decide +kernel
set_option maxRecDepth 100000 in
theorem d_law_899 : decode code 899 = .ok (.aload_n 0, 1) := by decide +kernel
set_option maxRecDepth 100000 in
theorem d_law_900 : decode code 900 = .ok (.iload_n 3, 1) := by decide +kernel
set_option maxRecDepth 100000 in
theorem d_law_901 : decode code 901 = .ok (.iconst 2, 1) := by decide +kernel
set_option maxRecDepth 100000 in
theorem d_law_902 : decode code 902 = .ok (.iadd, 1) := by decide +kernel
set_option maxRecDepth 100000 in
theorem d_law_903 : decode code 903 = .ok (.iaload, 1) := by decide +kernel
set_option maxRecDepth 100000 in
theorem d_law_904 : decode code 904 = .ok (.aload_n 0, 1) := by decide +kernel
set_option maxRecDepth 100000 in
theorem d_law_905 : decode code 905 = .ok (.iload_n 3, 1) := by decide +kernel
set_option maxRecDepth 100000 in
theorem d_law_906 : decode code 906 = .ok (.iconst 3, 1) := by decide +kernel
set_option maxRecDepth 100000 in
theorem d_law_907 : decode code 907 = .ok (.iadd, 1) := by decide +kernel
set_option maxRecDepth 100000 in
theorem d_law_908 : decode code 908 = .ok (.iaload, 1) := by decide +kernel
set_option maxRecDepth 100000 in
theorem d_law_909 : decode code 909 = .ok (.invokevirtual 104, 3) := by decide +kernel
set_option maxRecDepth 100000 in
theorem d_law_912 : decode code 912 = .ok (.pop, 1) := by decide +kernel
set_option maxRecDepth 100000 in
theorem d_law_913 : decode code 913 = .ok (.goto 346, 3) := by decide +kernel
set_option maxRecDepth 100000 in
theorem d_law_916 : decode code 916 = .ok (.aload_n 1, 1) := by decide +kernel
set_option maxRecDepth 100000 in
theorem d_law_917 : decode code 917 = .ok (.aload_n 0, 1) := by decide +kernel
set_option maxRecDepth 100000 in
theorem d_law_918 : decode code 918 = .ok (.iload_n 3, 1) := by decide +kernel
set_option maxRecDepth 100000 in
theorem d_law_919 : decode code 919 = .ok (.iconst 1, 1) := by decide +kernel
set_option maxRecDepth 100000 in
theorem d_law_920 : decode code 920 = .ok (.iadd, 1) := by decide +kernel
set_option maxRecDepth 100000 in
theorem d_law_921 : decode code 921 = .ok (.iaload, 1) := by decide +kernel
set_option maxRecDepth 100000 in
theorem d_law_922 : decode code 922 = .ok (.aload_n 0, 1) := by decide +kernel
set_option maxRecDepth 100000 in
theorem d_law_923 : decode code 923 = .ok (.iload_n 3, 1) := by decide +kernel
set_option maxRecDepth 100000 in
theorem d_law_924 : decode code 924 = .ok (.iconst 2, 1) := by decide +kernel
set_option maxRecDepth 100000 in
theorem d_law_925 : decode code 925 = .ok (.iadd, 1) := by decide +kernel
set_option maxRecDepth 100000 in
theorem d_law_926 : decode code 926 = .ok (.iaload, 1) := by decide +kernel
set_option maxRecDepth 100000 in
theorem d_law_927 : decode code 927 = .ok (.aload_n 0, 1) := by decide +kernel
set_option maxRecDepth 100000 in
theorem d_law_928 : decode code 928 = .ok (.iload_n 3, 1) := by decide +kernel
set_option maxRecDepth 100000 in
theorem d_law_929 : decode code 929 = .ok (.iconst 3, 1) := by decide +kernel
set_option maxRecDepth 100000 in
theorem d_law_930 : decode code 930 = .ok (.iadd, 1) := by decide +kernel
set_option maxRecDepth 100000 in
theorem d_law_931 : decode code 931 = .ok (.iaload, 1) := by decide +kernel
set_option maxRecDepth 100000 in
theorem d_law_932 : decode code 932 = .ok (.aload_n 0, 1) := by decide +kernel
set_option maxRecDepth 100000 in
theorem d_law_933 : decode code 933 = .ok (.iload_n 3, 1) := by decide +kernel
set_option maxRecDepth 100000 in
theorem d_law_934 : decode code 934 = .ok (.iconst 4, 1) := by decide +kernel
set_option maxRecDepth 100000 in
theorem d_law_935 : decode code 935 = .ok (.iadd, 1) := by decide +kernel
set_option maxRecDepth 100000 in
theorem d_law_936 : decode code 936 = .ok (.iaload, 1) := by decide +kernel
set_option maxRecDepth 100000 in
theorem d_law_937 : decode code 937 = .ok (.invokevirtual 105, 3) := by decide +kernel
set_option maxRecDepth 100000 in
theorem d_law_940 : decode code 940 = .ok (.pop, 1) := by decide +kernel
set_option maxRecDepth 100000 in
theorem d_law_941 : decode code 941 = .ok (.aload_n 2, 1) := by decide +kernel
set_option maxRecDepth 100000 in
theorem d_law_942 : decode code 942 = .ok (.aload_n 0, 1) := by decide +kernel
set_option maxRecDepth 100000 in
theorem d_law_943 : decode code 943 = .ok (.iload_n 3, 1) := by decide +kernel
set_option maxRecDepth 100000 in
theorem d_law_944 : decode code 944 = .ok (.iconst 1, 1) := by decide +kernel
set_option maxRecDepth 100000 in
theorem d_law_945 : decode code 945 = .ok (.iadd, 1) := by decide +kernel
set_option maxRecDepth 100000 in
theorem d_law_946 : decode code 946 = .ok (.iaload, 1) := by decide +kernel
set_option maxRecDepth 100000 in
theorem d_law_947 : decode code 947 = .ok (.aload_n 0, 1) := by decide +kernel
set_option maxRecDepth 100000 in
theorem d_law_948 : decode code 948 = .ok (.iload_n 3, 1) := by decide +kernel
set_option maxRecDepth 100000 in
theorem d_law_949 : decode code 949 = .ok (.iconst 2, 1) := by decide +kernel
set_option maxRecDepth 100000 in
theorem d_law_950 : decode code 950 = .ok (.iadd, 1) := by decide +kernel
set_option maxRecDepth 100000 in
theorem d_law_951 : decode code 951 = .ok (.iaload, 1) := by decide +kernel
set_option maxRecDepth 100000 in
theorem d_law_952 : decode code 952 = .ok (.aload_n 0, 1) := by decide +kernel
set_option maxRecDepth 100000 in
theorem d_law_953 : decode code 953 = .ok (.iload_n 3, 1) := by decide +kernel
set_option maxRecDepth 100000 in
theorem d_law_954 : decode code 954 = .ok (.iconst 3, 1) := by decide +kernel
set_option maxRecDepth 100000 in
theorem d_law_955 : decode code 955 = .ok (.iadd, 1) := by decide +kernel
set_option maxRecDepth 100000 in
theorem d_law_956 : decode code 956 = .ok (.iaload, 1) := by decide +kernel
set_option maxRecDepth 100000 in
theorem d_law_957 : decode code 957 = .ok (.aload_n 0, 1) := by decide +kernel
set_option maxRecDepth 100000 in
theorem d_law_958 : decode code 958 = .ok (.iload_n 3, 1) := by decide +kernel
set_option maxRecDepth 100000 in
theorem d_law_959 : decode code 959 = .ok (.iconst 4, 1) := by decide +kernel
set_option maxRecDepth 100000 in
theorem d_law_960 : decode code 960 = .ok (.iadd, 1) := by decide +kernel
set_option maxRecDepth 100000 in
theorem d_law_961 : decode code 961 = .ok (.iaload, 1) := by decide +kernel
set_option maxRecDepth 100000 in
theorem d_law_962 : decode code 962 = .ok (.invokevirtual 109, 3) := by decide +kernel
set_option maxRecDepth 100000 in
theorem d_law_965 : decode code 965 = .ok (.pop, 1) := by decide +kernel
set_option maxRecDepth 100000 in
theorem d_law_966 : decode code 966 = .ok (.goto 293, 3) := by decide +kernel
set_option maxRecDepth 100000 in
theorem d_law_969 : decode code 969 = .ok (.aload_n 1, 1) := by decide +kernel
set_option maxRecDepth 100000 in
theorem d_law_970 : decode code 970 = .ok (.aload_n 0, 1) := by decide +kernel
set_option maxRecDepth 100000 in
theorem d_law_971 : decode code 971 = .ok (.iload_n 3, 1) := by decide +kernel
set_option maxRecDepth 100000 in
theorem d_law_972 : decode code 972 = .ok (.iconst 1, 1) := by decide +kernel
set_option maxRecDepth 100000 in
theorem d_law_973 : decode code 973 = .ok (.iadd, 1) := by decide +kernel
set_option maxRecDepth 100000 in
theorem d_law_974 : decode code 974 = .ok (.iaload, 1) := by decide +kernel
set_option maxRecDepth 100000 in
theorem d_law_975 : decode code 975 = .ok (.invokevirtual 110, 3) := by decide +kernel
set_option maxRecDepth 100000 in
theorem d_law_978 : decode code 978 = .ok (.pop, 1) := by decide +kernel
set_option maxRecDepth 100000 in
theorem d_law_979 : decode code 979 = .ok (.aload_n 2, 1) := by decide +kernel
set_option maxRecDepth 100000 in
theorem d_law_980 : decode code 980 = .ok (.aload_n 0, 1) := by decide +kernel
set_option maxRecDepth 100000 in
theorem d_law_981 : decode code 981 = .ok (.iload_n 3, 1) := by decide +kernel
set_option maxRecDepth 100000 in
theorem d_law_982 : decode code 982 = .ok (.iconst 1, 1) := by decide +kernel
set_option maxRecDepth 100000 in
theorem d_law_983 : decode code 983 = .ok (.iadd, 1) := by decide +kernel
set_option maxRecDepth 100000 in
theorem d_law_984 : decode code 984 = .ok (.iaload, 1) := by decide +kernel
set_option maxRecDepth 100000 in
theorem d_law_985 : decode code 985 = .ok (.invokevirtual 113, 3) := by decide +kernel
set_option maxRecDepth 100000 in
theorem d_law_988 : decode code 988 = .ok (.pop, 1) := by decide +kernel
set_option maxRecDepth 100000 in
theorem d_law_989 : decode code 989 = .ok (.goto 270, 3) := by decide +kernel
set_option maxRecDepth 100000 in
theorem d_law_992 : decode code 992 = .ok (.aload_n 1, 1) := by decide +kernel
set_option maxRecDepth 100000 in
theorem d_law_993 : decode code 993 = .ok (.aload_n 0, 1) := by decide +kernel
set_option maxRecDepth 100000 in
theorem d_law_994 : decode code 994 = .ok (.iload_n 3, 1) := by decide +kernel
set_option maxRecDepth 100000 in
theorem d_law_995 : decode code 995 = .ok (.iconst 1, 1) := by decide +kernel
set_option maxRecDepth 100000 in
theorem d_law_996 : decode code 996 = .ok (.iadd, 1) := by decide +kernel
set_option maxRecDepth 100000 in
theorem d_law_997 : decode code 997 = .ok (.iaload, 1) := by decide +kernel
set_option maxRecDepth 100000 in
theorem d_law_998 : decode code 998 = .ok (.aload_n 0, 1) := by decide +kernel
set_option maxRecDepth 100000 in
theorem d_law_999 : decode code 999 = .ok (.iload_n 3, 1) := by decide +kernel
set_option maxRecDepth 100000 in
theorem d_law_1000 : decode code 1000 = .ok (.iconst 2, 1) := by decide +kernel
set_option maxRecDepth 100000 in
theorem d_law_1001 : decode code 1001 = .ok (.iadd, 1) := by decide +kernel
set_option maxRecDepth 100000 in
theorem d_law_1002 : decode code 1002 = .ok (.iaload, 1) := by decide +kernel
set_option maxRecDepth 100000 in
theorem d_law_1003 : decode code 1003 = .ok (.aload_n 0, 1) := by decide +kernel
set_option maxRecDepth 100000 in
theorem d_law_1004 : decode code 1004 = .ok (.iload_n 3, 1) := by decide +kernel
set_option maxRecDepth 100000 in
theorem d_law_1005 : decode code 1005 = .ok (.iconst 3, 1) := by decide +kernel
set_option maxRecDepth 100000 in
theorem d_law_1006 : decode code 1006 = .ok (.iadd, 1) := by decide +kernel
set_option maxRecDepth 100000 in
theorem d_law_1007 : decode code 1007 = .ok (.iaload, 1) := by decide +kernel
set_option maxRecDepth 100000 in
theorem d_law_1008 : decode code 1008 = .ok (.invokevirtual 114, 3) := by decide +kernel
set_option maxRecDepth 100000 in
theorem d_law_1011 : decode code 1011 = .ok (.pop, 1) := by decide +kernel
set_option maxRecDepth 100000 in
theorem d_law_1012 : decode code 1012 = .ok (.aload_n 2, 1) := by decide +kernel
set_option maxRecDepth 100000 in
theorem d_law_1013 : decode code 1013 = .ok (.aload_n 0, 1) := by decide +kernel
set_option maxRecDepth 100000 in
theorem d_law_1014 : decode code 1014 = .ok (.iload_n 3, 1) := by decide +kernel
set_option maxRecDepth 100000 in
theorem d_law_1015 : decode code 1015 = .ok (.iconst 1, 1) := by decide +kernel
set_option maxRecDepth 100000 in
theorem d_law_1016 : decode code 1016 = .ok (.iadd, 1) := by decide +kernel
set_option maxRecDepth 100000 in
theorem d_law_1017 : decode code 1017 = .ok (.iaload, 1) := by decide +kernel
set_option maxRecDepth 100000 in
theorem d_law_1018 : decode code 1018 = .ok (.aload_n 0, 1) := by decide +kernel
set_option maxRecDepth 100000 in
theorem d_law_1019 : decode code 1019 = .ok (.iload_n 3, 1) := by decide +kernel
set_option maxRecDepth 100000 in
theorem d_law_1020 : decode code 1020 = .ok (.iconst 2, 1) := by decide +kernel
set_option maxRecDepth 100000 in
theorem d_law_1021 : decode code 1021 = .ok (.iadd, 1) := by decide +kernel
set_option maxRecDepth 100000 in
theorem d_law_1022 : decode code 1022 = .ok (.iaload, 1) := by decide +kernel
set_option maxRecDepth 100000 in
theorem d_law_1023 : decode code 1023 = .ok (.aload_n 0, 1) := by decide +kernel
set_option maxRecDepth 100000 in
theorem d_law_1024 : decode code 1024 = .ok (.iload_n 3, 1) := by decide +kernel
set_option maxRecDepth 100000 in
theorem d_law_1025 : decode code 1025 = .ok (.iconst 3, 1) := by decide +kernel
set_option maxRecDepth 100000 in
theorem d_law_1026 : decode code 1026 = .ok (.iadd, 1) := by decide +kernel
set_option maxRecDepth 100000 in
theorem d_law_1027 : decode code 1027 = .ok (.iaload, 1) := by decide +kernel
set_option maxRecDepth 100000 in
theorem d_law_1028 : decode code 1028 = .ok (.invokevirtual 117, 3) := by decide +kernel
set_option maxRecDepth 100000 in
theorem d_law_1031 : decode code 1031 = .ok (.pop, 1) := by decide +kernel
set_option maxRecDepth 100000 in
theorem d_law_1032 : decode code 1032 = .ok (.goto 227, 3) := by decide +kernel
set_option maxRecDepth 100000 in
theorem d_law_1035 : decode code 1035 = .ok (.aload_n 1, 1) := by decide +kernel
set_option maxRecDepth 100000 in
theorem d_law_1036 : decode code 1036 = .ok (.aload_n 0, 1) := by decide +kernel
set_option maxRecDepth 100000 in
theorem d_law_1037 : decode code 1037 = .ok (.iload_n 3, 1) := by decide +kernel
set_option maxRecDepth 100000 in
theorem d_law_1038 : decode code 1038 = .ok (.iconst 1, 1) := by decide +kernel
set_option maxRecDepth 100000 in
theorem d_law_1039 : decode code 1039 = .ok (.iadd, 1) := by decide +kernel
set_option maxRecDepth 100000 in
theorem d_law_1040 : decode code 1040 = .ok (.iaload, 1) := by decide +kernel
set_option maxRecDepth 100000 in
theorem d_law_1041 : decode code 1041 = .ok (.aload_n 0, 1) := by decide +kernel
set_option maxRecDepth 100000 in
theorem d_law_1042 : decode code 1042 = .ok (.iload_n 3, 1) := by decide +kernel
set_option maxRecDepth 100000 in
theorem d_law_1043 : decode code 1043 = .ok (.iconst 2, 1) := by decide +kernel
set_option maxRecDepth 100000 in
theorem d_law_1044 : decode code 1044 = .ok (.iadd, 1) := by decide +kernel
set_option maxRecDepth 100000 in
theorem d_law_1045 : decode code 1045 = .ok (.iaload, 1) := by decide +kernel
set_option maxRecDepth 100000 in
theorem d_law_1046 : decode code 1046 = .ok (.invokevirtual 118, 3) := by decide +kernel
set_option maxRecDepth 100000 in
theorem d_law_1049 : decode code 1049 = .ok (.pop, 1) := by decide +kernel
set_option maxRecDepth 100000 in
theorem d_law_1050 : decode code 1050 = .ok (.aload_n 2, 1) := by decide +kernel
set_option maxRecDepth 100000 in
theorem d_law_1051 : decode code 1051 = .ok (.aload_n 0, 1) := by decide +kernel
set_option maxRecDepth 100000 in
theorem d_law_1052 : decode code 1052 = .ok (.iload_n 3, 1) := by decide +kernel
set_option maxRecDepth 100000 in
theorem d_law_1053 : decode code 1053 = .ok (.iconst 1, 1) := by decide +kernel
set_option maxRecDepth 100000 in
theorem d_law_1054 : decode code 1054 = .ok (.iadd, 1) := by decide +kernel
set_option maxRecDepth 100000 in
theorem d_law_1055 : decode code 1055 = .ok (.iaload, 1) := by decide +kernel
set_option maxRecDepth 100000 in
theorem d_law_1056 : decode code 1056 = .ok (.aload_n 0, 1) := by decide +kernel
set_option maxRecDepth 100000 in
theorem d_law_1057 : decode code 1057 = .ok (.iload_n 3, 1) := by decide +kernel
set_option maxRecDepth 100000 in
theorem d_law_1058 : decode code 1058 = .ok (.iconst 2, 1) := by decide +kernel
set_option maxRecDepth 100000 in
theorem d_law_1059 : decode code 1059 = .ok (.iadd, 1) := by decide +kernel
set_option maxRecDepth 100000 in
theorem d_law_1060 : decode code 1060 = .ok (.iaload, 1) := by decide +kernel
set_option maxRecDepth 100000 in
theorem d_law_1061 : decode code 1061 = .ok (.invokevirtual 121, 3) := by decide +kernel
set_option maxRecDepth 100000 in
theorem d_law_1064 : decode code 1064 = .ok (.pop, 1) := by decide +kernel
set_option maxRecDepth 100000 in
theorem d_law_1065 : decode code 1065 = .ok (.goto 194, 3) := by decide +kernel
set_option maxRecDepth 100000 in
theorem d_law_1068 : decode code 1068 = .ok (.aload_n 1, 1) := by decide +kernel
set_option maxRecDepth 100000 in
theorem d_law_1069 : decode code 1069 = .ok (.aload_n 0, 1) := by decide +kernel
set_option maxRecDepth 100000 in
theorem d_law_1070 : decode code 1070 = .ok (.iload_n 3, 1) := by decide +kernel
set_option maxRecDepth 100000 in
theorem d_law_1071 : decode code 1071 = .ok (.iconst 1, 1) := by decide +kernel
set_option maxRecDepth 100000 in
theorem d_law_1072 : decode code 1072 = .ok (.iadd, 1) := by decide +kernel
set_option maxRecDepth 100000 in
theorem d_law_1073 : decode code 1073 = .ok (.iaload, 1) := by decide +kernel
set_option maxRecDepth 100000 in
theorem d_law_1074 : decode code 1074 = .ok (.aload_n 0, 1) := by decide +kernel
set_option maxRecDepth 100000 in
theorem d_law_1075 : decode code 1075 = .ok (.iload_n 3, 1) := by decide +kernel
set_option maxRecDepth 100000 in
theorem d_law_1076 : decode code 1076 = .ok (.iconst 2, 1) := by decide +kernel
set_option maxRecDepth 100000 in
theorem d_law_1077 : decode code 1077 = .ok (.iadd, 1) := by decide +kernel
set_option maxRecDepth 100000 in
theorem d_law_1078 : decode code 1078 = .ok (.iaload, 1) := by decide +kernel
set_option maxRecDepth 100000 in
theorem d_law_1079 : decode code 1079 = .ok (.invokevirtual 122, 3) := by decide +kernel
set_option maxRecDepth 100000 in
theorem d_law_1082 : decode code 1082 = .ok (.pop, 1) := by decide +kernel
set_option maxRecDepth 100000 in
theorem d_law_1083 : decode code 1083 = .ok (.aload_n 2, 1) := by decide +kernel
set_option maxRecDepth 100000 in
theorem d_law_1084 : decode code 1084 = .ok (.aload_n 0, 1) := by decide +kernel
set_option maxRecDepth 100000 in
theorem d_law_1085 : decode code 1085 = .ok (.iload_n 3, 1) := by decide +kernel
set_option maxRecDepth 100000 in
theorem d_law_1086 : decode code 1086 = .ok (.iconst 1, 1) := by decide +kernel
set_option maxRecDepth 100000 in
theorem d_law_1087 : decode code 1087 = .ok (.iadd, 1) := by decide +kernel
set_option maxRecDepth 100000 in
theorem d_law_1088 : decode code 1088 = .ok (.iaload, 1) := by decide +kernel
set_option maxRecDepth 100000 in
theorem d_law_1089 : decode code 1089 = .ok (.aload_n 0, 1) := by decide +kernel
set_option maxRecDepth 100000 in
theorem d_law_1090 : decode code 1090 = .ok (.iload_n 3, 1) := by decide +kernel
set_option maxRecDepth 100000 in
theorem d_law_1091 : decode code 1091 = .ok (.iconst 2, 1) := by decide +kernel
set_option maxRecDepth 100000 in
theorem d_law_1092 : decode code 1092 = .ok (.iadd, 1) := by decide +kernel
set_option maxRecDepth 100000 in
theorem d_law_1093 : decode code 1093 = .ok (.iaload, 1) := by decide +kernel
set_option maxRecDepth 100000 in
theorem d_law_1094 : decode code 1094 = .ok (.invokevirtual 125, 3) := by decide +kernel
set_option maxRecDepth 100000 in
theorem d_law_1097 : decode code 1097 = .ok (.pop, 1) := by decide +kernel
set_option maxRecDepth 100000 in
theorem d_law_1098 : decode code 1098 = .ok (.goto 161, 3) := by decide +kernel
set_option maxRecDepth 100000 in
theorem d_law_1101 : decode code 1101 = .ok (.aload_n 1, 1) := by decide +kernel
set_option maxRecDepth 100000 in
theorem d_law_1102 : decode code 1102 = .ok (.aload_n 0, 1) := by decide +kernel
set_option maxRecDepth 100000 in
theorem d_law_1103 : decode code 1103 = .ok (.iload_n 3, 1) := by decide +kernel
set_option maxRecDepth 100000 in
theorem d_law_1104 : decode code 1104 = .ok (.iconst 1, 1) := by decide +kernel
set_option maxRecDepth 100000 in
theorem d_law_1105 : decode code 1105 = .ok (.iadd, 1) := by decide +kernel
set_option maxRecDepth 100000 in
theorem d_law_1106 : decode code 1106 = .ok (.iaload, 1) := by decide +kernel
set_option maxRecDepth 100000 in
theorem d_law_1107 : decode code 1107 = .ok (.aload_n 0, 1) := by decide +kernel
set_option maxRecDepth 100000 in
theorem d_law_1108 : decode code 1108 = .ok (.iload_n 3, 1) := by decide +kernel
set_option maxRecDepth 100000 in
theorem d_law_1109 : decode code 1109 = .ok (.iconst 2, 1) := by decide +kernel
set_option maxRecDepth 100000 in
theorem d_law_1110 : decode code 1110 = .ok (.iadd, 1) := by decide +kernel
set_option maxRecDepth 100000 in
theorem d_law_1111 : decode code 1111 = .ok (.iaload, 1) := by decide +kernel
set_option maxRecDepth 100000 in
theorem d_law_1112 : decode code 1112 = .ok (.invokevirtual 126, 3) := by decide +kernel
set_option maxRecDepth 100000 in
theorem d_law_1115 : decode code 1115 = .ok (.pop, 1) := by decide +kernel
set_option maxRecDepth 100000 in
theorem d_law_1116 : decode code 1116 = .ok (.aload_n 2, 1) := by decide +kernel
set_option maxRecDepth 100000 in
theorem d_law_1117 : decode code 1117 = .ok (.aload_n 0, 1) := by decide +kernel
set_option maxRecDepth 100000 in
theorem d_law_1118 : decode code 1118 = .ok (.iload_n 3, 1) := by decide +kernel
set_option maxRecDepth 100000 in
theorem d_law_1119 : decode code 1119 = .ok (.iconst 1, 1) := by decide +kernel
set_option maxRecDepth 100000 in
theorem d_law_1120 : decode code 1120 = .ok (.iadd, 1) := by decide +kernel
set_option maxRecDepth 100000 in
theorem d_law_1121 : decode code 1121 = .ok (.iaload, 1) := by decide +kernel
set_option maxRecDepth 100000 in
theorem d_law_1122 : decode code 1122 = .ok (.aload_n 0, 1) := by decide +kernel
set_option maxRecDepth 100000 in
theorem d_law_1123 : decode code 1123 = .ok (.iload_n 3, 1) := by decide +kernel
set_option maxRecDepth 100000 in
theorem d_law_1124 : decode code 1124 = .ok (.iconst 2, 1) := by decide +kernel
set_option maxRecDepth 100000 in
theorem d_law_1125 : decode code 1125 = .ok (.iadd, 1) := by decide +kernel
set_option maxRecDepth 100000 in
theorem d_law_1126 : decode code 1126 = .ok (.iaload, 1) := by decide +kernel
set_option maxRecDepth 100000 in
theorem d_law_1127 : decode code 1127 = .ok (.invokevirtual 129, 3) := by decide +kernel
set_option maxRecDepth 100000 in
theorem d_law_1130 : decode code 1130 = .ok (.pop, 1) := by decide +kernel
set_option maxRecDepth 100000 in
theorem d_law_1131 : decode code 1131 = .ok (.goto 128, 3) := by decide +kernel
set_option maxRecDepth 100000 in
theorem d_law_1134 : decode code 1134 = .ok (.aload_n 1, 1) := by decide +kernel
set_option maxRecDepth 100000 in
theorem d_law_1135 : decode code 1135 = .ok (.aload_n 0, 1) := by decide +kernel
set_option maxRecDepth 100000 in
theorem d_law_1136 : decode code 1136 = .ok (.iload_n 3, 1) := by decide +kernel
set_option maxRecDepth 100000 in
theorem d_law_1137 : decode code 1137 = .ok (.iconst 1, 1) := by decide +kernel
set_option maxRecDepth 100000 in
theorem d_law_1138 : decode code 1138 = .ok (.iadd, 1) := by decide +kernel
set_option maxRecDepth 100000 in
theorem d_law_1139 : decode code 1139 = .ok (.iaload, 1) := by decide +kernel
set_option maxRecDepth 100000 in
theorem d_law_1140 : decode code 1140 = .ok (.aload_n 0, 1) := by decide +kernel
set_option maxRecDepth 100000 in
theorem d_law_1141 : decode code 1141 = .ok (.iload_n 3, 1) := by decide +kernel
set_option maxRecDepth 100000 in
theorem d_law_1142 : decode code 1142 = .ok (.iconst 2, 1) := by decide +kernel
set_option maxRecDepth 100000 in
theorem d_law_1143 : decode code 1143 = .ok (.iadd, 1) := by decide +kernel
set_option maxRecDepth 100000 in
theorem d_law_1144 : decode code 1144 = .ok (.iaload, 1) := by decide +kernel
set_option maxRecDepth 100000 in
theorem d_law_1145 : decode code 1145 = .ok (.invokevirtual 130, 3) := by decide +kernel
set_option maxRecDepth 100000 in
theorem d_law_1148 : decode code 1148 = .ok (.pop, 1) := by decide +kernel
set_option maxRecDepth 100000 in
theorem d_law_1149 : decode code 1149 = .ok (.aload_n 2, 1) := by decide +kernel
set_option maxRecDepth 100000 in
theorem d_law_1150 : decode code 1150 = .ok (.aload_n 0, 1) := by decide +kernel
set_option maxRecDepth 100000 in
theorem d_law_1151 : decode code 1151 = .ok (.iload_n 3, 1) := by decide +kernel
set_option maxRecDepth 100000 in
theorem d_law_1152 : decode code 1152 = .ok (.iconst 1, 1) := by decide +kernel
set_option maxRecDepth 100000 in
theorem d_law_1153 : decode code 1153 = .ok (.iadd, 1) := by decide +kernel
set_option maxRecDepth 100000 in
theorem d_law_1154 : decode code 1154 = .ok (.iaload, 1) := by decide +kernel
set_option maxRecDepth 100000 in
theorem d_law_1155 : decode code 1155 = .ok (.aload_n 0, 1) := by decide +kernel
set_option maxRecDepth 100000 in
theorem d_law_1156 : decode code 1156 = .ok (.iload_n 3, 1) := by decide +kernel
set_option maxRecDepth 100000 in
theorem d_law_1157 : decode code 1157 = .ok (.iconst 2, 1) := by decide +kernel
set_option maxRecDepth 100000 in
theorem d_law_1158 : decode code 1158 = .ok (.iadd, 1) := by decide +kernel
set_option maxRecDepth 100000 in
theorem d_law_1159 : decode code 1159 = .ok (.iaload, 1) := by decide +kernel
set_option maxRecDepth 100000 in
theorem d_law_1160 : decode code 1160 = .ok (.invokevirtual 133, 3) := by decide +kernel
set_option maxRecDepth 100000 in
theorem d_law_1163 : decode code 1163 = .ok (.pop, 1) := by decide +kernel
set_option maxRecDepth 100000 in
theorem d_law_1164 : decode code 1164 = .ok (.goto 95, 3) := by decide +kernel
set_option maxRecDepth 100000 in
theorem d_law_1167 : decode code 1167 = .ok (.aload_n 1, 1) := by decide +kernel
set_option maxRecDepth 100000 in
theorem d_law_1168 : decode code 1168 = .ok (.invokevirtual 134, 3) := by decide +kernel
set_option maxRecDepth 100000 in
theorem d_law_1171 : decode code 1171 = .ok (.pop, 1) := by decide +kernel
set_option maxRecDepth 100000 in
theorem d_law_1172 : decode code 1172 = .ok (.aload_n 2, 1) := by decide +kernel
set_option maxRecDepth 100000 in
theorem d_law_1173 : decode code 1173 = .ok (.invokevirtual 138, 3) := by decide +kernel
set_option maxRecDepth 100000 in
theorem d_law_1176 : decode code 1176 = .ok (.pop, 1) := by decide +kernel
set_option maxRecDepth 100000 in
theorem d_law_1177 : decode code 1177 = .ok (.goto 82, 3) := by decide +kernel
set_option maxRecDepth 100000 in
theorem d_law_1180 : decode code 1180 = .ok (.aload_n 1, 1) := by decide +kernel
set_option maxRecDepth 100000 in
theorem d_law_1181 : decode code 1181 = .ok (.aload_n 0, 1) := by decide +kernel
set_option maxRecDepth 100000 in
theorem d_law_1182 : decode code 1182 = .ok (.iload_n 3, 1) := by decide +kernel
set_option maxRecDepth 100000 in
theorem d_law_1183 : decode code 1183 = .ok (.iconst 1, 1) := by decide +kernel
set_option maxRecDepth 100000 in
theorem d_law_1184 : decode code 1184 = .ok (.iadd, 1) := by decide +kernel
set_option maxRecDepth 100000 in
theorem d_law_1185 : decode code 1185 = .ok (.iaload, 1) := by decide +kernel
set_option maxRecDepth 100000 in
theorem d_law_1186 : decode code 1186 = .ok (.aload_n 0, 1) := by decide +kernel
set_option maxRecDepth 100000 in
theorem d_law_1187 : decode code 1187 = .ok (.iload_n 3, 1) := by decide +kernel
set_option maxRecDepth 100000 in
theorem d_law_1188 : decode code 1188 = .ok (.iconst 2, 1) := by decide +kernel
set_option maxRecDepth 100000 in
theorem d_law_1189 : decode code 1189 = .ok (.iadd, 1) := by decide +kernel
set_option maxRecDepth 100000 in
theorem d_law_1190 : decode code 1190 = .ok (.iaload, 1) := by decide +kernel
set_option maxRecDepth 100000 in
theorem d_law_1191 : decode code 1191 = .ok (.invokevirtual 139, 3) := by decide +kernel
set_option maxRecDepth 100000 in
theorem d_law_1194 : decode code 1194 = .ok (.pop, 1) := by decide +kernel
set_option maxRecDepth 100000 in
theorem d_law_1195 : decode code 1195 = .ok (.aload_n 2, 1) := by decide +kernel
set_option maxRecDepth 100000 in
theorem d_law_1196 : decode code 1196 = .ok (.aload_n 0, 1) := by decide +kernel
set_option maxRecDepth 100000 in
theorem d_law_1197 : decode code 1197 = .ok (.iload_n 3, 1) := by decide +kernel
set_option maxRecDepth 100000 in
theorem d_law_1198 : decode code 1198 = .ok (.iconst 1, 1) := by decide +kernel
set_option maxRecDepth 100000 in
theorem d_law_1199 : decode code 1199 = .ok (.iadd, 1) := by decide +kernel
set_option maxRecDepth 100000 in
theorem d_law_1200 : decode code 1200 = .ok (.iaload, 1) := by decide +kernel
set_option maxRecDepth 100000 in
theorem d_law_1201 : decode code 1201 = .ok (.aload_n 0, 1) := by decide +kernel
set_option maxRecDepth 100000 in
theorem d_law_1202 : decode code 1202 = .ok (.iload_n 3, 1) := by decide +kernel
set_option maxRecDepth 100000 in
theorem d_law_1203 : decode code 1203 = .ok (.iconst 2, 1) := by decide +kernel
set_option maxRecDepth 100000 in
theorem d_law_1204 : decode code 1204 = .ok (.iadd, 1) := by decide +kernel
set_option maxRecDepth 100000 in
theorem d_law_1205 : decode code 1205 = .ok (.iaload, 1) := by decide +kernel
set_option maxRecDepth 100000 in
theorem d_law_1206 : decode code 1206 = .ok (.invokevirtual 142, 3) := by decide +kernel
set_option maxRecDepth 100000 in
theorem d_law_1209 : decode code 1209 = .ok (.pop, 1) := by decide +kernel
set_option maxRecDepth 100000 in
theorem d_law_1210 : decode code 1210 = .ok (.goto 49, 3) := by decide +kernel
set_option maxRecDepth 100000 in
theorem d_law_1213 : decode code 1213 = .ok (.aload_n 1, 1) := by decide +kernel
set_option maxRecDepth 100000 in
theorem d_law_1214 : decode code 1214 = .ok (.aload_n 0, 1) := by decide +kernel
set_option maxRecDepth 100000 in
theorem d_law_1215 : decode code 1215 = .ok (.iload_n 3, 1) := by decide +kernel
set_option maxRecDepth 100000 in
theorem d_law_1216 : decode code 1216 = .ok (.iconst 1, 1) := by decide +kernel
set_option maxRecDepth 100000 in
theorem d_law_1217 : decode code 1217 = .ok (.iadd, 1) := by decide +kernel
set_option maxRecDepth 100000 in
theorem d_law_1218 : decode code 1218 = .ok (.iaload, 1) := by decide +kernel
set_option maxRecDepth 100000 in
theorem d_law_1219 : decode code 1219 = .ok (.invokevirtual 143, 3) := by decide +kernel
set_option maxRecDepth 100000 in
theorem d_law_1222 : decode code 1222 = .ok (.aload_n 2, 1) := by decide +kernel
set_option maxRecDepth 100000 in
theorem d_law_1223 : decode code 1223 = .ok (.aload_n 0, 1) := by decide +kernel
set_option maxRecDepth 100000 in
theorem d_law_1224 : decode code 1224 = .ok (.iload_n 3, 1) := by decide +kernel
set_option maxRecDepth 100000 in
theorem d_law_1225 : decode code 1225 = .ok (.iconst 1, 1) := by decide +kernel
set_option maxRecDepth 100000 in
theorem d_law_1226 : decode code 1226 = .ok (.iadd, 1) := by decide +kernel
set_option maxRecDepth 100000 in
theorem d_law_1227 : decode code 1227 = .ok (.iaload, 1) := by decide +kernel
set_option maxRecDepth 100000 in
theorem d_law_1228 : decode code 1228 = .ok (.invokevirtual 146, 3) := by decide +kernel
set_option maxRecDepth 100000 in
theorem d_law_1231 : decode code 1231 = .ok (.if_icmp .eq 28, 3) := by decide +kernel
set_option maxRecDepth 100000 in
theorem d_law_1236 : decode code 1236 = .ok (.aload_n 1, 1) := by decide +kernel
set_option maxRecDepth 100000 in
theorem d_law_1237 : decode code 1237 = .ok (.aload_n 0, 1) := by decide +kernel
set_option maxRecDepth 100000 in
theorem d_law_1238 : decode code 1238 = .ok (.iload_n 3, 1) := by decide +kernel
set_option maxRecDepth 100000 in
theorem d_law_1239 : decode code 1239 = .ok (.iconst 1, 1) := by decide +kernel
set_option maxRecDepth 100000 in
theorem d_law_1240 : decode code 1240 = .ok (.iadd, 1) := by decide +kernel
set_option maxRecDepth 100000 in
theorem d_law_1241 : decode code 1241 = .ok (.iaload, 1) := by decide +kernel
set_option maxRecDepth 100000 in
theorem d_law_1242 : decode code 1242 = .ok (.invokevirtual 147, 3) := by decide +kernel
set_option maxRecDepth 100000 in
theorem d_law_1245 : decode code 1245 = .ok (.pop, 1) := by decide +kernel
set_option maxRecDepth 100000 in
theorem d_law_1246 : decode code 1246 = .ok (.aload_n 2, 1) := by decide +kernel
set_option maxRecDepth 100000 in
theorem d_law_1247 : decode code 1247 = .ok (.aload_n 0, 1) := by decide +kernel
set_option maxRecDepth 100000 in
theorem d_law_1248 : decode code 1248 = .ok (.iload_n 3, 1) := by decide +kernel
set_option maxRecDepth 100000 in
theorem d_law_1249 : decode code 1249 = .ok (.iconst 1, 1) := by decide +kernel
set_option maxRecDepth 100000 in
theorem d_law_1250 : decode code 1250 = .ok (.iadd, 1) := by decide +kernel
set_option maxRecDepth 100000 in
theorem d_law_1251 : decode code 1251 = .ok (.iaload, 1) := by decide +kernel
set_option maxRecDepth 100000 in
theorem d_law_1252 : decode code 1252 = .ok (.invokevirtual 150, 3) := by decide +kernel
set_option maxRecDepth 100000 in
theorem d_law_1255 : decode code 1255 = .ok (.pop, 1) := by decide +kernel
set_option maxRecDepth 100000 in
theorem d_law_1256 : decode code 1256 = .ok (.goto 3, 3) := by decide +kernel
set_option maxRecDepth 100000 in
theorem d_law_1259 : decode code 1259 = .ok (.iinc 3 6, 3) := by decide +kernel
set_option maxRecDepth 100000 in
theorem d_law_1262 : decode code 1262 = .ok (.goto (-1244), 3) := by decide +kernel
set_option maxRecDepth 100000 in
theorem d_law_1265 : decode code 1265 = .ok (.iconst 1, 1) := by decide +kernel
set_option maxRecDepth 100000 in
theorem d_law_1266 : decode code 1266 = .ok (.ireturn, 1) := by decide +kernel
