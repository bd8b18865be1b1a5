theorem kw_707 : Cond.methodLink R_Md 127 y_Md_feed ∈ WA := wt_3 (List.mem_of_getElem? (i := 227) (by decide +kernel)) rfl
theorem kw_709 : Cond.instanceMethod y_Md_feed ∈ WA := wt_3 (List.mem_of_getElem? (i := 229) (by decide +kernel)) rfl
theorem kw_710 : Cond.code y_Md_feed b_Md_feed 2 none ∈ WA := wt_3 (List.mem_of_getElem? (i := 230) (by decide +kernel)) rfl
theorem kw_711 : Cond.methodLink R_Md 159 y_Md_stream ∈ WA := wt_3 (List.mem_of_getElem? (i := 231) (by decide +kernel)) rfl
theorem kw_713 : Cond.instanceMethod y_Md_stream ∈ WA := wt_3 (List.mem_of_getElem? (i := 233) (by decide +kernel)) rfl
theorem kw_714 : Cond.code y_Md_stream b_Md_stream 2 none ∈ WA := wt_3 (List.mem_of_getElem? (i := 234) (by decide +kernel)) rfl
theorem kw_715 : Cond.methodLink R_Md 117 y_Md_mix ∈ WA := wt_3 (List.mem_of_getElem? (i := 235) (by decide +kernel)) rfl
theorem kw_717 : Cond.instanceMethod y_Md_mix ∈ WA := wt_3 (List.mem_of_getElem? (i := 237) (by decide +kernel)) rfl
theorem kw_718 : Cond.code y_Md_mix b_Md_mix 3 none ∈ WA := wt_3 (List.mem_of_getElem? (i := 238) (by decide +kernel)) rfl
theorem kw_719 : Cond.methodLink R_Md 121 y_Md_round ∈ WA := wt_3 (List.mem_of_getElem? (i := 239) (by decide +kernel)) rfl
theorem kw_721 : Cond.instanceMethod y_Md_round ∈ WA := wt_4 (List.mem_of_getElem? (i := 1) (by decide +kernel)) rfl
theorem kw_722 : Cond.code y_Md_round b_Md_round 6 none ∈ WA := wt_4 (List.mem_of_getElem? (i := 2) (by decide +kernel)) rfl
theorem kw_723 : Cond.methodLink R_Md 107 y_Md_rotate ∈ WA := wt_4 (List.mem_of_getElem? (i := 3) (by decide +kernel)) rfl
theorem kw_724 : Cond.static y_Md_rotate ∈ WA := wt_4 (List.mem_of_getElem? (i := 4) (by decide +kernel)) rfl
theorem kw_725 : Cond.code y_Md_rotate b_Md_rotate 3 (some .long) ∈ WA := wt_4 (List.mem_of_getElem? (i := 5) (by decide +kernel)) rfl
theorem kw_726 : Cond.constantLong R_Md 111 (-1) ∈ WA := wt_4 (List.mem_of_getElem? (i := 6) (by decide +kernel)) rfl
theorem kw_727 : Cond.methodLink R_Md 179 y_Md_take ∈ WA := wt_4 (List.mem_of_getElem? (i := 7) (by decide +kernel)) rfl
theorem kw_729 : Cond.instanceMethod y_Md_take ∈ WA := wt_4 (List.mem_of_getElem? (i := 9) (by decide +kernel)) rfl
theorem kw_730 : Cond.code y_Md_take b_Md_take 5 none ∈ WA := wt_4 (List.mem_of_getElem? (i := 10) (by decide +kernel)) rfl
theorem kw_731 : Cond.methodLink R_Md 182 y_Md_expand ∈ WA := wt_4 (List.mem_of_getElem? (i := 11) (by decide +kernel)) rfl
theorem kw_733 : Cond.instanceMethod y_Md_expand ∈ WA := wt_4 (List.mem_of_getElem? (i := 13) (by decide +kernel)) rfl
theorem kw_734 : Cond.code y_Md_expand b_Md_expand 4 none ∈ WA := wt_4 (List.mem_of_getElem? (i := 14) (by decide +kernel)) rfl
theorem kw_735 : Cond.methodLink R_Md 167 y_Md_feedAll ∈ WA := wt_4 (List.mem_of_getElem? (i := 15) (by decide +kernel)) rfl
theorem kw_737 : Cond.instanceMethod y_Md_feedAll ∈ WA := wt_4 (List.mem_of_getElem? (i := 17) (by decide +kernel)) rfl
theorem kw_738 : Cond.code y_Md_feedAll b_Md_feedAll 5 none ∈ WA := wt_4 (List.mem_of_getElem? (i := 18) (by decide +kernel)) rfl
theorem kw_739 : Cond.methodLink R_Md 171 y_Md_uniform ∈ WA := wt_4 (List.mem_of_getElem? (i := 19) (by decide +kernel)) rfl
theorem kw_741 : Cond.instanceMethod y_Md_uniform ∈ WA := wt_4 (List.mem_of_getElem? (i := 21) (by decide +kernel)) rfl
theorem kw_742 : Cond.code y_Md_uniform b_Md_uniform 6 none ∈ WA := wt_4 (List.mem_of_getElem? (i := 22) (by decide +kernel)) rfl
theorem kw_743 : Cond.constant R_Md 162 (65536) ∈ WA := wt_4 (List.mem_of_getElem? (i := 23) (by decide +kernel)) rfl
theorem kw_744 : Cond.constant R_Md 133 (8380417) ∈ WA := wt_4 (List.mem_of_getElem? (i := 24) (by decide +kernel)) rfl
theorem kw_745 : Cond.methodLink R_Md 186 y_Md_small ∈ WA := wt_4 (List.mem_of_getElem? (i := 25) (by decide +kernel)) rfl
theorem kw_747 : Cond.instanceMethod y_Md_small ∈ WA := wt_4 (List.mem_of_getElem? (i := 27) (by decide +kernel)) rfl
theorem kw_748 : Cond.code y_Md_small b_Md_small 6 none ∈ WA := wt_4 (List.mem_of_getElem? (i := 28) (by decide +kernel)) rfl
theorem kw_749 : Cond.methodLink R_Md 142 y_Md_mod ∈ WA := wt_4 (List.mem_of_getElem? (i := 29) (by decide +kernel)) rfl
theorem kw_750 : Cond.static y_Md_mod ∈ WA := wt_4 (List.mem_of_getElem? (i := 30) (by decide +kernel)) rfl
theorem kw_751 : Cond.code y_Md_mod b_Md_mod 4 (some .int) ∈ WA := wt_4 (List.mem_of_getElem? (i := 31) (by decide +kernel)) rfl
theorem kw_752 : Cond.constantLong R_Md 130 (8380417) ∈ WA := wt_4 (List.mem_of_getElem? (i := 32) (by decide +kernel)) rfl
theorem kw_753 : Cond.methodLink R_Md 189 y_Md_apply ∈ WA := wt_4 (List.mem_of_getElem? (i := 33) (by decide +kernel)) rfl
theorem kw_755 : Cond.instanceMethod y_Md_apply ∈ WA := wt_4 (List.mem_of_getElem? (i := 35) (by decide +kernel)) rfl
theorem kw_756 : Cond.code y_Md_apply b_Md_apply 6 none ∈ WA := wt_4 (List.mem_of_getElem? (i := 36) (by decide +kernel)) rfl
theorem kw_757 : Cond.methodLink R_Md 149 y_Md_clear ∈ WA := wt_4 (List.mem_of_getElem? (i := 37) (by decide +kernel)) rfl
theorem kw_759 : Cond.instanceMethod y_Md_clear ∈ WA := wt_4 (List.mem_of_getElem? (i := 39) (by decide +kernel)) rfl
theorem kw_760 : Cond.code y_Md_clear b_Md_clear 2 none ∈ WA := wt_4 (List.mem_of_getElem? (i := 40) (by decide +kernel)) rfl
theorem kw_761 : Cond.methodLink R_Md 152 y_Md_add ∈ WA := wt_4 (List.mem_of_getElem? (i := 41) (by decide +kernel)) rfl
theorem kw_763 : Cond.instanceMethod y_Md_add ∈ WA := wt_4 (List.mem_of_getElem? (i := 43) (by decide +kernel)) rfl
theorem kw_764 : Cond.code y_Md_add b_Md_add 11 none ∈ WA := wt_4 (List.mem_of_getElem? (i := 44) (by decide +kernel)) rfl
theorem kw_765 : Cond.methodLink R_Md 193 y_Md_bottom ∈ WA := wt_4 (List.mem_of_getElem? (i := 45) (by decide +kernel)) rfl
theorem kw_766 : Cond.static y_Md_bottom ∈ WA := wt_4 (List.mem_of_getElem? (i := 46) (by decide +kernel)) rfl
theorem kw_767 : Cond.code y_Md_bottom b_Md_bottom 2 (some .int) ∈ WA := wt_4 (List.mem_of_getElem? (i := 47) (by decide +kernel)) rfl
theorem kw_768 : Cond.methodLink R_Md 196 y_Md_pack ∈ WA := wt_4 (List.mem_of_getElem? (i := 48) (by decide +kernel)) rfl
theorem kw_770 : Cond.instanceMethod y_Md_pack ∈ WA := wt_4 (List.mem_of_getElem? (i := 50) (by decide +kernel)) rfl
theorem kw_771 : Cond.code y_Md_pack b_Md_pack 9 none ∈ WA := wt_4 (List.mem_of_getElem? (i := 51) (by decide +kernel)) rfl
theorem kw_772 : Cond.methodLink R_law 24 y_Md_say ∈ WA := wt_4 (List.mem_of_getElem? (i := 52) (by decide +kernel)) rfl
theorem kw_773 : Cond.instanceMethod y_Md_say ∈ WA := wt_4 (List.mem_of_getElem? (i := 53) (by decide +kernel)) rfl
theorem kw_774 : Cond.selects R_Md y_Md_say y_Md_say ∈ WA := wt_4 (List.mem_of_getElem? (i := 54) (by decide +kernel)) rfl
theorem kw_775 : Cond.code y_Md_say b_Md_say 2 (some .boolean) ∈ WA := wt_4 (List.mem_of_getElem? (i := 55) (by decide +kernel)) rfl
theorem kw_776 : Cond.methodLink R_law 28 y_Md_hush ∈ WA := wt_4 (List.mem_of_getElem? (i := 56) (by decide +kernel)) rfl
theorem kw_777 : Cond.instanceMethod y_Md_hush ∈ WA := wt_4 (List.mem_of_getElem? (i := 57) (by decide +kernel)) rfl
theorem kw_778 : Cond.selects R_Md y_Md_hush y_Md_hush ∈ WA := wt_4 (List.mem_of_getElem? (i := 58) (by decide +kernel)) rfl
theorem kw_779 : Cond.code y_Md_hush b_Md_hush 1 none ∈ WA := wt_4 (List.mem_of_getElem? (i := 59) (by decide +kernel)) rfl
theorem kw_780 : Cond.methodLink R_law 33 y_Md_sign ∈ WA := wt_4 (List.mem_of_getElem? (i := 60) (by decide +kernel)) rfl
theorem kw_781 : Cond.instanceMethod y_Md_sign ∈ WA := wt_4 (List.mem_of_getElem? (i := 61) (by decide +kernel)) rfl
theorem kw_782 : Cond.selects R_Md y_Md_sign y_Md_sign ∈ WA := wt_4 (List.mem_of_getElem? (i := 62) (by decide +kernel)) rfl
theorem kw_783 : Cond.code y_Md_sign b_Md_sign 5 (some .int) ∈ WA := wt_4 (List.mem_of_getElem? (i := 63) (by decide +kernel)) rfl
theorem kw_784 : Cond.methodLink R_Md 229 y_Md_attempt ∈ WA := wt_4 (List.mem_of_getElem? (i := 64) (by decide +kernel)) rfl
theorem kw_786 : Cond.instanceMethod y_Md_attempt ∈ WA := wt_4 (List.mem_of_getElem? (i := 66) (by decide +kernel)) rfl
theorem kw_787 : Cond.code y_Md_attempt b_Md_attempt 5 (some .boolean) ∈ WA := wt_4 (List.mem_of_getElem? (i := 67) (by decide +kernel)) rfl
theorem kw_788 : Cond.methodLink R_Md 207 y_Md_wide ∈ WA := wt_4 (List.mem_of_getElem? (i := 68) (by decide +kernel)) rfl
theorem kw_790 : Cond.instanceMethod y_Md_wide ∈ WA := wt_4 (List.mem_of_getElem? (i := 70) (by decide +kernel)) rfl
theorem kw_791 : Cond.code y_Md_wide b_Md_wide 4 none ∈ WA := wt_4 (List.mem_of_getElem? (i := 71) (by decide +kernel)) rfl
theorem kw_792 : Cond.methodLink R_Md 163 y_Md_bits ∈ WA := wt_4 (List.mem_of_getElem? (i := 72) (by decide +kernel)) rfl
theorem kw_794 : Cond.instanceMethod y_Md_bits ∈ WA := wt_4 (List.mem_of_getElem? (i := 74) (by decide +kernel)) rfl
theorem kw_795 : Cond.code y_Md_bits b_Md_bits 7 (some .int) ∈ WA := wt_4 (List.mem_of_getElem? (i := 75) (by decide +kernel)) rfl
theorem kw_796 : Cond.methodLink R_Md 139 y_Md_highOf ∈ WA := wt_4 (List.mem_of_getElem? (i := 76) (by decide +kernel)) rfl
theorem kw_797 : Cond.static y_Md_highOf ∈ WA := wt_4 (List.mem_of_getElem? (i := 77) (by decide +kernel)) rfl
theorem kw_798 : Cond.code y_Md_highOf b_Md_highOf 1 (some .int) ∈ WA := wt_4 (List.mem_of_getElem? (i := 78) (by decide +kernel)) rfl
theorem kw_799 : Cond.methodLink R_Md 134 y_Md_part ∈ WA := wt_4 (List.mem_of_getElem? (i := 79) (by decide +kernel)) rfl
theorem kw_800 : Cond.static y_Md_part ∈ WA := wt_4 (List.mem_of_getElem? (i := 80) (by decide +kernel)) rfl
theorem kw_801 : Cond.code y_Md_part b_Md_part 2 (some .int) ∈ WA := wt_4 (List.mem_of_getElem? (i := 81) (by decide +kernel)) rfl
theorem kw_802 : Cond.constant R_Md 138 (8380416) ∈ WA := wt_4 (List.mem_of_getElem? (i := 82) (by decide +kernel)) rfl
theorem kw_803 : Cond.methodLink R_Md 210 y_Md_sealing ∈ WA := wt_4 (List.mem_of_getElem? (i := 83) (by decide +kernel)) rfl
theorem kw_805 : Cond.instanceMethod y_Md_sealing ∈ WA := wt_4 (List.mem_of_getElem? (i := 85) (by decide +kernel)) rfl
theorem kw_806 : Cond.code y_Md_sealing b_Md_sealing 1 none ∈ WA := wt_4 (List.mem_of_getElem? (i := 86) (by decide +kernel)) rfl
theorem kw_807 : Cond.methodLink R_Md 213 y_Md_ballOf ∈ WA := wt_4 (List.mem_of_getElem? (i := 87) (by decide +kernel)) rfl
theorem kw_809 : Cond.instanceMethod y_Md_ballOf ∈ WA := wt_4 (List.mem_of_getElem? (i := 89) (by decide +kernel)) rfl
theorem kw_810 : Cond.code y_Md_ballOf b_Md_ballOf 5 none ∈ WA := wt_4 (List.mem_of_getElem? (i := 90) (by decide +kernel)) rfl
theorem kw_811 : Cond.methodLink R_Md 217 y_Md_shift ∈ WA := wt_4 (List.mem_of_getElem? (i := 91) (by decide +kernel)) rfl
theorem kw_813 : Cond.instanceMethod y_Md_shift ∈ WA := wt_4 (List.mem_of_getElem? (i := 93) (by decide +kernel)) rfl
theorem kw_814 : Cond.code y_Md_shift b_Md_shift 7 none ∈ WA := wt_4 (List.mem_of_getElem? (i := 94) (by decide +kernel)) rfl
theorem kw_815 : Cond.methodLink R_Md 221 y_Md_wider ∈ WA := wt_4 (List.mem_of_getElem? (i := 95) (by decide +kernel)) rfl
theorem kw_817 : Cond.instanceMethod y_Md_wider ∈ WA := wt_4 (List.mem_of_getElem? (i := 97) (by decide +kernel)) rfl
theorem kw_818 : Cond.code y_Md_wider b_Md_wider 6 (some .boolean) ∈ WA := wt_4 (List.mem_of_getElem? (i := 98) (by decide +kernel)) rfl
theorem kw_819 : Cond.methodLink R_Md 156 y_Md_centred ∈ WA := wt_4 (List.mem_of_getElem? (i := 99) (by decide +kernel)) rfl
theorem kw_820 : Cond.static y_Md_centred ∈ WA := wt_4 (List.mem_of_getElem? (i := 100) (by decide +kernel)) rfl
theorem kw_821 : Cond.code y_Md_centred b_Md_centred 1 (some .int) ∈ WA := wt_4 (List.mem_of_getElem? (i := 101) (by decide +kernel)) rfl
theorem kw_822 : Cond.constant R_Md 132 (4190208) ∈ WA := wt_4 (List.mem_of_getElem? (i := 102) (by decide +kernel)) rfl
theorem kw_823 : Cond.methodLink R_Md 146 y_Md_lowOf ∈ WA := wt_4 (List.mem_of_getElem? (i := 103) (by decide +kernel)) rfl
theorem kw_824 : Cond.static y_Md_lowOf ∈ WA := wt_4 (List.mem_of_getElem? (i := 104) (by decide +kernel)) rfl
theorem kw_825 : Cond.code y_Md_lowOf b_Md_lowOf 1 (some .int) ∈ WA := wt_4 (List.mem_of_getElem? (i := 105) (by decide +kernel)) rfl
theorem kw_826 : Cond.methodLink R_Md 225 y_Md_hintOf ∈ WA := wt_4 (List.mem_of_getElem? (i := 106) (by decide +kernel)) rfl
theorem kw_827 : Cond.static y_Md_hintOf ∈ WA := wt_4 (List.mem_of_getElem? (i := 107) (by decide +kernel)) rfl
theorem kw_828 : Cond.code y_Md_hintOf b_Md_hintOf 3 (some .int) ∈ WA := wt_4 (List.mem_of_getElem? (i := 108) (by decide +kernel)) rfl
theorem kw_829 : Cond.methodLink R_Md 233 y_Md_write ∈ WA := wt_4 (List.mem_of_getElem? (i := 109) (by decide +kernel)) rfl
theorem kw_831 : Cond.instanceMethod y_Md_write ∈ WA := wt_4 (List.mem_of_getElem? (i := 111) (by decide +kernel)) rfl
theorem kw_832 : Cond.code y_Md_write b_Md_write 3 none ∈ WA := wt_4 (List.mem_of_getElem? (i := 112) (by decide +kernel)) rfl
theorem kw_833 : Cond.methodLink R_law 38 y_Md_verify ∈ WA := wt_4 (List.mem_of_getElem? (i := 113) (by decide +kernel)) rfl
theorem kw_834 : Cond.instanceMethod y_Md_verify ∈ WA := wt_4 (List.mem_of_getElem? (i := 114) (by decide +kernel)) rfl
theorem kw_835 : Cond.selects R_Md y_Md_verify y_Md_verify ∈ WA := wt_4 (List.mem_of_getElem? (i := 115) (by decide +kernel)) rfl
theorem kw_836 : Cond.code y_Md_verify b_Md_verify 2 (some .boolean) ∈ WA := wt_4 (List.mem_of_getElem? (i := 116) (by decide +kernel)) rfl
theorem kw_837 : Cond.methodLink R_Md 236 y_Md_readHints ∈ WA := wt_4 (List.mem_of_getElem? (i := 117) (by decide +kernel)) rfl
theorem kw_839 : Cond.instanceMethod y_Md_readHints ∈ WA := wt_4 (List.mem_of_getElem? (i := 119) (by decide +kernel)) rfl
theorem kw_840 : Cond.code y_Md_readHints b_Md_readHints 6 (some .boolean) ∈ WA := wt_4 (List.mem_of_getElem? (i := 120) (by decide +kernel)) rfl
theorem kw_841 : Cond.constantLong R_Md 240 (256) ∈ WA := wt_4 (List.mem_of_getElem? (i := 121) (by decide +kernel)) rfl
theorem kw_842 : Cond.methodLink R_Md 242 y_Md_correctedBy ∈ WA := wt_4 (List.mem_of_getElem? (i := 122) (by decide +kernel)) rfl
theorem kw_843 : Cond.static y_Md_correctedBy ∈ WA := wt_4 (List.mem_of_getElem? (i := 123) (by decide +kernel)) rfl
theorem kw_844 : Cond.code y_Md_correctedBy b_Md_correctedBy 2 (some .int) ∈ WA := wt_4 (List.mem_of_getElem? (i := 124) (by decide +kernel)) rfl
theorem kw_845 : Cond.methodLink R_law 43 y_Md_publicByte ∈ WA := wt_4 (List.mem_of_getElem? (i := 125) (by decide +kernel)) rfl
theorem kw_846 : Cond.instanceMethod y_Md_publicByte ∈ WA := wt_4 (List.mem_of_getElem? (i := 126) (by decide +kernel)) rfl
theorem kw_847 : Cond.selects R_Md y_Md_publicByte y_Md_publicByte ∈ WA := wt_4 (List.mem_of_getElem? (i := 127) (by decide +kernel)) rfl
theorem kw_848 : Cond.code y_Md_publicByte b_Md_publicByte 2 (some .int) ∈ WA := wt_4 (List.mem_of_getElem? (i := 128) (by decide +kernel)) rfl
theorem kw_849 : Cond.methodLink R_law 47 y_Md_signatureByte ∈ WA := wt_4 (List.mem_of_getElem? (i := 129) (by decide +kernel)) rfl
theorem kw_850 : Cond.instanceMethod y_Md_signatureByte ∈ WA := wt_4 (List.mem_of_getElem? (i := 130) (by decide +kernel)) rfl
theorem kw_851 : Cond.selects R_Md y_Md_signatureByte y_Md_signatureByte ∈ WA := wt_4 (List.mem_of_getElem? (i := 131) (by decide +kernel)) rfl
theorem kw_852 : Cond.code y_Md_signatureByte b_Md_signatureByte 2 (some .int) ∈ WA := wt_4 (List.mem_of_getElem? (i := 132) (by decide +kernel)) rfl
theorem kw_853 : Cond.methodLink R_law 52 y_Md_putPublic ∈ WA := wt_4 (List.mem_of_getElem? (i := 133) (by decide +kernel)) rfl
theorem kw_854 : Cond.instanceMethod y_Md_putPublic ∈ WA := wt_4 (List.mem_of_getElem? (i := 134) (by decide +kernel)) rfl
theorem kw_855 : Cond.selects R_Md y_Md_putPublic y_Md_putPublic ∈ WA := wt_4 (List.mem_of_getElem? (i := 135) (by decide +kernel)) rfl
theorem kw_856 : Cond.code y_Md_putPublic b_Md_putPublic 3 (some .boolean) ∈ WA := wt_4 (List.mem_of_getElem? (i := 136) (by decide +kernel)) rfl
theorem kw_857 : Cond.methodLink R_law 56 y_Md_putSignature ∈ WA := wt_4 (List.mem_of_getElem? (i := 137) (by decide +kernel)) rfl
theorem kw_858 : Cond.instanceMethod y_Md_putSignature ∈ WA := wt_4 (List.mem_of_getElem? (i := 138) (by decide +kernel)) rfl
theorem kw_859 : Cond.selects R_Md y_Md_putSignature y_Md_putSignature ∈ WA := wt_4 (List.mem_of_getElem? (i := 139) (by decide +kernel)) rfl
theorem kw_860 : Cond.code y_Md_putSignature b_Md_putSignature 3 (some .boolean) ∈ WA := wt_4 (List.mem_of_getElem? (i := 140) (by decide +kernel)) rfl
theorem kw_861 : Cond.methodLink R_law 61 y_Md_secret ∈ WA := wt_4 (List.mem_of_getElem? (i := 141) (by decide +kernel)) rfl
theorem kw_862 : Cond.instanceMethod y_Md_secret ∈ WA := wt_4 (List.mem_of_getElem? (i := 142) (by decide +kernel)) rfl
theorem kw_863 : Cond.selects R_Md y_Md_secret y_Md_secret ∈ WA := wt_4 (List.mem_of_getElem? (i := 143) (by decide +kernel)) rfl
theorem kw_864 : Cond.code y_Md_secret b_Md_secret 4 (some .int) ∈ WA := wt_4 (List.mem_of_getElem? (i := 144) (by decide +kernel)) rfl
theorem kw_865 : Cond.methodLink R_law 65 y_Md_hash ∈ WA := wt_4 (List.mem_of_getElem? (i := 145) (by decide +kernel)) rfl
theorem kw_866 : Cond.instanceMethod y_Md_hash ∈ WA := wt_4 (List.mem_of_getElem? (i := 146) (by decide +kernel)) rfl
theorem kw_867 : Cond.selects R_Md y_Md_hash y_Md_hash ∈ WA := wt_4 (List.mem_of_getElem? (i := 147) (by decide +kernel)) rfl
theorem kw_868 : Cond.code y_Md_hash b_Md_hash 2 (some .int) ∈ WA := wt_4 (List.mem_of_getElem? (i := 148) (by decide +kernel)) rfl
theorem kw_869 : Cond.methodLink R_law 69 y_Md_ball ∈ WA := wt_4 (List.mem_of_getElem? (i := 149) (by decide +kernel)) rfl
theorem kw_870 : Cond.instanceMethod y_Md_ball ∈ WA := wt_4 (List.mem_of_getElem? (i := 150) (by decide +kernel)) rfl
theorem kw_871 : Cond.selects R_Md y_Md_ball y_Md_ball ∈ WA := wt_4 (List.mem_of_getElem? (i := 151) (by decide +kernel)) rfl
theorem kw_872 : Cond.code y_Md_ball b_Md_ball 2 (some .int) ∈ WA := wt_4 (List.mem_of_getElem? (i := 152) (by decide +kernel)) rfl
theorem kw_873 : Cond.methodLink R_law 73 y_Md_high ∈ WA := wt_4 (List.mem_of_getElem? (i := 153) (by decide +kernel)) rfl
theorem kw_874 : Cond.instanceMethod y_Md_high ∈ WA := wt_4 (List.mem_of_getElem? (i := 154) (by decide +kernel)) rfl
theorem kw_875 : Cond.selects R_Md y_Md_high y_Md_high ∈ WA := wt_4 (List.mem_of_getElem? (i := 155) (by decide +kernel)) rfl
theorem kw_876 : Cond.code y_Md_high b_Md_high 2 (some .int) ∈ WA := wt_4 (List.mem_of_getElem? (i := 156) (by decide +kernel)) rfl
theorem kw_877 : Cond.methodLink R_law 77 y_Md_low ∈ WA := wt_4 (List.mem_of_getElem? (i := 157) (by decide +kernel)) rfl
theorem kw_878 : Cond.instanceMethod y_Md_low ∈ WA := wt_4 (List.mem_of_getElem? (i := 158) (by decide +kernel)) rfl
theorem kw_879 : Cond.selects R_Md y_Md_low y_Md_low ∈ WA := wt_4 (List.mem_of_getElem? (i := 159) (by decide +kernel)) rfl
theorem kw_880 : Cond.code y_Md_low b_Md_low 2 (some .int) ∈ WA := wt_4 (List.mem_of_getElem? (i := 160) (by decide +kernel)) rfl
theorem kw_881 : Cond.methodLink R_law 81 y_Md_hint ∈ WA := wt_4 (List.mem_of_getElem? (i := 161) (by decide +kernel)) rfl
theorem kw_882 : Cond.instanceMethod y_Md_hint ∈ WA := wt_4 (List.mem_of_getElem? (i := 162) (by decide +kernel)) rfl
theorem kw_883 : Cond.selects R_Md y_Md_hint y_Md_hint ∈ WA := wt_4 (List.mem_of_getElem? (i := 163) (by decide +kernel)) rfl
theorem kw_884 : Cond.code y_Md_hint b_Md_hint 3 (some .int) ∈ WA := wt_4 (List.mem_of_getElem? (i := 164) (by decide +kernel)) rfl
theorem kw_885 : Cond.methodLink R_law 85 y_Md_corrected ∈ WA := wt_4 (List.mem_of_getElem? (i := 165) (by decide +kernel)) rfl
theorem kw_886 : Cond.instanceMethod y_Md_corrected ∈ WA := wt_4 (List.mem_of_getElem? (i := 166) (by decide +kernel)) rfl
theorem kw_887 : Cond.selects R_Md y_Md_corrected y_Md_corrected ∈ WA := wt_4 (List.mem_of_getElem? (i := 167) (by decide +kernel)) rfl
theorem kw_888 : Cond.code y_Md_corrected b_Md_corrected 3 (some .int) ∈ WA := wt_4 (List.mem_of_getElem? (i := 168) (by decide +kernel)) rfl
theorem kw_889 : Cond.constantLong R_law 13 (4294967295) ∈ WA := wt_4 (List.mem_of_getElem? (i := 169) (by decide +kernel)) rfl
theorem kp_0 : Cond.selects R_Hasher y_Hasher_mixByte y_Hasher_mixByte ∈ WA := wt_0 (List.mem_of_getElem? (i := 0) (by decide +kernel)) rfl
theorem kp_1 : Cond.selects R_Hasher y_Hasher_mixColumns y_Hasher_mixColumns ∈ WA := wt_0 (List.mem_of_getElem? (i := 1) (by decide +kernel)) rfl
theorem kp_2 : Cond.selects R_Hasher y_Hasher_moveLanes y_Hasher_moveLanes ∈ WA := wt_0 (List.mem_of_getElem? (i := 2) (by decide +kernel)) rfl
theorem kp_3 : Cond.selects R_Hasher y_Hasher_mixRows y_Hasher_mixRows ∈ WA := wt_0 (List.mem_of_getElem? (i := 3) (by decide +kernel)) rfl
theorem kp_4 : Cond.selects R_SecretKey y_SecretKey_splitT y_SecretKey_splitT ∈ WA := wt_0 (List.mem_of_getElem? (i := 4) (by decide +kernel)) rfl
theorem kp_5 : Cond.selects R_Signing y_Signing_noteHighs y_Signing_noteHighs ∈ WA := wt_0 (List.mem_of_getElem? (i := 5) (by decide +kernel)) rfl
theorem kp_6 : Cond.selects R_Signing y_Signing_answer y_Signing_answer ∈ WA := wt_0 (List.mem_of_getElem? (i := 6) (by decide +kernel)) rfl
theorem kp_7 : Cond.selects R_Signing y_Signing_lowsAreShort y_Signing_lowsAreShort ∈ WA := wt_0 (List.mem_of_getElem? (i := 7) (by decide +kernel)) rfl
theorem kp_8 : Cond.selects R_Signing y_Signing_fillHints y_Signing_fillHints ∈ WA := wt_0 (List.mem_of_getElem? (i := 8) (by decide +kernel)) rfl
theorem kp_9 : Cond.selects R_Signing y_Signing_writeHints y_Signing_writeHints ∈ WA := wt_0 (List.mem_of_getElem? (i := 9) (by decide +kernel)) rfl
theorem kp_10 : Cond.selects R_Signing y_Signing_writePlaces y_Signing_writePlaces ∈ WA := wt_0 (List.mem_of_getElem? (i := 10) (by decide +kernel)) rfl
theorem kp_11 : Cond.selects R_Verifying y_Verifying_readZ y_Verifying_readZ ∈ WA := wt_0 (List.mem_of_getElem? (i := 11) (by decide +kernel)) rfl
theorem kp_12 : Cond.selects R_Verifying y_Verifying_readHints y_Verifying_readHints ∈ WA := wt_0 (List.mem_of_getElem? (i := 12) (by decide +kernel)) rfl
theorem kp_13 : Cond.selects R_Verifying y_Verifying_readPlaces y_Verifying_readPlaces ∈ WA := wt_0 (List.mem_of_getElem? (i := 13) (by decide +kernel)) rfl
theorem kp_14 : Cond.selects R_Verifying y_Verifying_readT1 y_Verifying_readT1 ∈ WA := wt_0 (List.mem_of_getElem? (i := 14) (by decide +kernel)) rfl
theorem kp_15 : Cond.selects R_Verifying y_Verifying_correctAll y_Verifying_correctAll ∈ WA := wt_0 (List.mem_of_getElem? (i := 15) (by decide +kernel)) rfl
theorem kp_16 : Cond.selects R_Md y_Md_feedLong y_Md_feedLong ∈ WA := wt_0 (List.mem_of_getElem? (i := 16) (by decide +kernel)) rfl
theorem kp_17 : Cond.selects R_Md y_Md_feed y_Md_feed ∈ WA := wt_0 (List.mem_of_getElem? (i := 17) (by decide +kernel)) rfl
theorem kp_18 : Cond.selects R_Md y_Md_stream y_Md_stream ∈ WA := wt_0 (List.mem_of_getElem? (i := 18) (by decide +kernel)) rfl
theorem kp_19 : Cond.selects R_Md y_Md_mix y_Md_mix ∈ WA := wt_0 (List.mem_of_getElem? (i := 19) (by decide +kernel)) rfl
theorem kp_20 : Cond.selects R_Md y_Md_round y_Md_round ∈ WA := wt_0 (List.mem_of_getElem? (i := 20) (by decide +kernel)) rfl
theorem kp_21 : Cond.selects R_Md y_Md_take y_Md_take ∈ WA := wt_0 (List.mem_of_getElem? (i := 21) (by decide +kernel)) rfl
theorem kp_22 : Cond.selects R_Md y_Md_expand y_Md_expand ∈ WA := wt_0 (List.mem_of_getElem? (i := 22) (by decide +kernel)) rfl
theorem kp_23 : Cond.selects R_Md y_Md_feedAll y_Md_feedAll ∈ WA := wt_0 (List.mem_of_getElem? (i := 23) (by decide +kernel)) rfl
theorem kp_24 : Cond.selects R_Md y_Md_uniform y_Md_uniform ∈ WA := wt_0 (List.mem_of_getElem? (i := 24) (by decide +kernel)) rfl
theorem kp_25 : Cond.selects R_Md y_Md_small y_Md_small ∈ WA := wt_0 (List.mem_of_getElem? (i := 25) (by decide +kernel)) rfl
theorem kp_26 : Cond.selects R_Md y_Md_apply y_Md_apply ∈ WA := wt_0 (List.mem_of_getElem? (i := 26) (by decide +kernel)) rfl
theorem kp_27 : Cond.selects R_Md y_Md_clear y_Md_clear ∈ WA := wt_0 (List.mem_of_getElem? (i := 27) (by decide +kernel)) rfl
theorem kp_28 : Cond.selects R_Md y_Md_add y_Md_add ∈ WA := wt_0 (List.mem_of_getElem? (i := 28) (by decide +kernel)) rfl
theorem kp_29 : Cond.selects R_Md y_Md_pack y_Md_pack ∈ WA := wt_0 (List.mem_of_getElem? (i := 29) (by decide +kernel)) rfl
theorem kp_30 : Cond.selects R_Md y_Md_attempt y_Md_attempt ∈ WA := wt_0 (List.mem_of_getElem? (i := 30) (by decide +kernel)) rfl
theorem kp_31 : Cond.selects R_Md y_Md_wide y_Md_wide ∈ WA := wt_0 (List.mem_of_getElem? (i := 31) (by decide +kernel)) rfl
theorem kp_32 : Cond.selects R_Md y_Md_bits y_Md_bits ∈ WA := wt_0 (List.mem_of_getElem? (i := 32) (by decide +kernel)) rfl
theorem kp_33 : Cond.selects R_Md y_Md_sealing y_Md_sealing ∈ WA := wt_0 (List.mem_of_getElem? (i := 33) (by decide +kernel)) rfl
theorem kp_34 : Cond.selects R_Md y_Md_ballOf y_Md_ballOf ∈ WA := wt_0 (List.mem_of_getElem? (i := 34) (by decide +kernel)) rfl
theorem kp_35 : Cond.selects R_Md y_Md_shift y_Md_shift ∈ WA := wt_0 (List.mem_of_getElem? (i := 35) (by decide +kernel)) rfl
theorem kp_36 : Cond.selects R_Md y_Md_wider y_Md_wider ∈ WA := wt_0 (List.mem_of_getElem? (i := 36) (by decide +kernel)) rfl
theorem kp_37 : Cond.selects R_Md y_Md_write y_Md_write ∈ WA := wt_0 (List.mem_of_getElem? (i := 37) (by decide +kernel)) rfl
theorem kp_38 : Cond.selects R_Md y_Md_readHints y_Md_readHints ∈ WA := wt_0 (List.mem_of_getElem? (i := 38) (by decide +kernel)) rfl
