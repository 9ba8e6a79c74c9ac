/-! ===== rest3 ===== -/
set_option maxRecDepth 100000 in
theorem m_4 : Cond.selects RX11 yX11_balesIn yX11_balesIn ∈ tb := tb_in 4 (by decide +kernel) rfl
set_option maxRecDepth 100000 in
theorem m_15 : Cond.selects RX11 yX11_fees yX11_fees ∈ tb := tb_in 15 (by decide +kernel) rfl
set_option maxRecDepth 100000 in
theorem m_29 : Cond.selects RX11 yX11_moistened yX11_moistened ∈ tb := tb_in 29 (by decide +kernel) rfl
set_option maxRecDepth 100000 in
theorem m_30 : Cond.selects RX11 yX11_errors yX11_errors ∈ tb := tb_in 30 (by decide +kernel) rfl
set_option maxRecDepth 100000 in
theorem m_40 : Cond.selects RX11 yX11_loss yX11_loss ∈ tb := tb_in 40 (by decide +kernel) rfl
theorem m_117 : Cond.fieldLink RX11 167 "SilkHouse$Skeins" "lost" "I" ∈ tb := mb_1_1 _ (List.mem_of_getElem? (i := 14) rfl)
theorem m_153 : Cond.fieldLink RX11 233 "SilkHouse$Bales" "gross" "[I" ∈ tb := mb_1_2 _ (List.mem_of_getElem? (i := 8) rfl)
theorem m_198 : Cond.fieldLink RX11 170 "SilkHouse$Book" "number" "I" ∈ tb := mb_1_3 _ (List.mem_of_getElem? (i := 11) rfl)
theorem m_231 : Cond.fieldLink RX11 175 "SilkHouse$Reader" "length" "I" ∈ tb := mb_1_4 _ (List.mem_of_getElem? (i := 1) rfl)
theorem m_263 : Cond.fieldLink RX11 160 "SilkHouse$Piles" "raw" "[J" ∈ tb := mb_1_4 _ (List.mem_of_getElem? (i := 19) rfl)
theorem m_266 : Cond.fieldLink RX11 156 "SilkHouse$Piles" "dry" "[J" ∈ tb := mb_1_4 _ (List.mem_of_getElem? (i := 22) rfl)
theorem m_270 : Cond.fieldLink RX11 151 "SilkHouse$Piles" "skeins" "[I" ∈ tb := mb_1_5 _ (List.mem_of_getElem? (i := 2) rfl)
theorem m_282 : Cond.fieldLink RX11 147 "SilkHouse$Judge" "piles" "LSilkHouse$Piles;" ∈ tb := mb_1_5 _ (List.mem_of_getElem? (i := 7) rfl)
theorem m_339 : Cond.fieldLink RX11 314 "SilkHouse$Ovens" "best" "[I" ∈ tb := mb_2_0 _ (List.mem_of_getElem? (i := 9) rfl)
theorem m_343 : Cond.fieldLink RX11 311 "SilkHouse$Ovens" "bestEnd" "I" ∈ tb := mb_2_0 _ (List.mem_of_getElem? (i := 13) rfl)
theorem m_397 : Cond.fieldLink RX11 171 "SilkHouse$Papers" "number" "I" ∈ tb := mb_2_1 _ (List.mem_of_getElem? (i := 19) rfl)
theorem m_420 : Cond.fieldLink RX11 51 "SilkHouse" "judge" "LSilkHouse$Judge;" ∈ tb := mb_2_2 _ (List.mem_of_getElem? (i := 1) rfl)
theorem m_421 : Cond.fieldLink RX11 60 "SilkHouse" "doubts" "LSilkHouse$Doubts;" ∈ tb := mb_2_2 _ (List.mem_of_getElem? (i := 2) rfl)
theorem m_564 : Cond.methodLink RX11 144 yX3_gather ∈ tb := mb_3_0 _ (List.mem_of_getElem? (i := 8) rfl)
theorem m_581 : Cond.methodLink RX11 163 yX11_inLeastTerms ∈ tb := mb_3_1 _ (List.mem_of_getElem? (i := 1) rfl)
theorem m_582 : Cond.static yX11_inLeastTerms ∈ tb := mb_3_1 _ (List.mem_of_getElem? (i := 2) rfl)
theorem m_583 : Cond.code yX11_inLeastTerms cX11_inLeastTerms 9 (some .long) ∈ tb := mb_3_1 _ (List.mem_of_getElem? (i := 3) rfl)
theorem m_584 : Cond.methodLink RX11 371 yX11_greatestDivisor ∈ tb := mb_3_1 _ (List.mem_of_getElem? (i := 4) rfl)
theorem m_585 : Cond.static yX11_greatestDivisor ∈ tb := mb_3_1 _ (List.mem_of_getElem? (i := 5) rfl)
theorem m_586 : Cond.code yX11_greatestDivisor cX11_greatestDivisor 7 (some .long) ∈ tb := mb_3_1 _ (List.mem_of_getElem? (i := 6) rfl)
theorem m_591 : Cond.methodLink RX11 172 yX11_balesIn ∈ tb := mb_3_1 _ (List.mem_of_getElem? (i := 11) rfl)
theorem m_593 : Cond.instanceMethod yX11_balesIn ∈ tb := mb_3_1 _ (List.mem_of_getElem? (i := 12) rfl)
theorem m_594 : Cond.code yX11_balesIn cX11_balesIn 4 (some .int) ∈ tb := mb_3_1 _ (List.mem_of_getElem? (i := 13) rfl)
theorem m_595 : Cond.methodLink RX11 182 yX3_weighUp ∈ tb := mb_3_1 _ (List.mem_of_getElem? (i := 14) rfl)
theorem m_596 : Cond.instanceMethod yX3_weighUp ∈ tb := mb_3_1 _ (List.mem_of_getElem? (i := 15) rfl)
theorem m_597 : Cond.selects RX3 yX3_weighUp yX3_weighUp ∈ tb := mb_3_1 _ (List.mem_of_getElem? (i := 16) rfl)
theorem m_598 : Cond.code yX3_weighUp cX3_weighUp 5 (some .int) ∈ tb := mb_3_1 _ (List.mem_of_getElem? (i := 17) rfl)
theorem m_659 : Cond.methodLink RX11 178 yX11_fees ∈ tb := mb_3_3 _ (List.mem_of_getElem? (i := 19) rfl)
theorem m_661 : Cond.instanceMethod yX11_fees ∈ tb := mb_3_3 _ (List.mem_of_getElem? (i := 20) rfl)
theorem m_662 : Cond.code yX11_fees cX11_fees 3 (some .int) ∈ tb := mb_3_3 _ (List.mem_of_getElem? (i := 21) rfl)
theorem m_667 : Cond.methodLink RX11 194 yX1_holding ∈ tb := mb_3_4 _ (List.mem_of_getElem? (i := 2) rfl)
theorem m_672 : Cond.methodLink RX11 197 yX8_take ∈ tb := mb_3_4 _ (List.mem_of_getElem? (i := 7) rfl)
theorem m_673 : Cond.instanceMethod yX8_take ∈ tb := mb_3_4 _ (List.mem_of_getElem? (i := 8) rfl)
theorem m_674 : Cond.selects RX8 yX8_take yX8_take ∈ tb := mb_3_4 _ (List.mem_of_getElem? (i := 9) rfl)
theorem m_675 : Cond.code yX8_take cX8_take 5 (some .int) ∈ tb := mb_3_4 _ (List.mem_of_getElem? (i := 10) rfl)
theorem m_680 : Cond.methodLink RX11 201 yX8_read ∈ tb := mb_3_4 _ (List.mem_of_getElem? (i := 15) rfl)
theorem m_681 : Cond.instanceMethod yX8_read ∈ tb := mb_3_4 _ (List.mem_of_getElem? (i := 16) rfl)
theorem m_682 : Cond.selects RX8 yX8_read yX8_read ∈ tb := mb_3_4 _ (List.mem_of_getElem? (i := 17) rfl)
theorem m_683 : Cond.code yX8_read cX8_read 3 (some .int) ∈ tb := mb_3_4 _ (List.mem_of_getElem? (i := 18) rfl)
theorem m_805 : Cond.methodLink RX11 204 yX1_enact ∈ tb := mb_4_0 _ (List.mem_of_getElem? (i := 7) rfl)
theorem m_806 : Cond.instanceMethod yX1_enact ∈ tb := mb_4_0 _ (List.mem_of_getElem? (i := 8) rfl)
theorem m_807 : Cond.selects RX1 yX1_enact yX1_enact ∈ tb := mb_4_0 _ (List.mem_of_getElem? (i := 9) rfl)
theorem m_808 : Cond.code yX1_enact cX1_enact 2 (some .int) ∈ tb := mb_4_0 _ (List.mem_of_getElem? (i := 10) rfl)
theorem m_837 : Cond.constantLong RX11 214 (-100001) ∈ tb := mb_4_1 _ (List.mem_of_getElem? (i := 15) rfl)
theorem m_839 : Cond.constantLong RX11 218 (-100003) ∈ tb := mb_4_1 _ (List.mem_of_getElem? (i := 17) rfl)
theorem m_840 : Cond.methodLink RX11 220 yX3_upper ∈ tb := mb_4_1 _ (List.mem_of_getElem? (i := 18) rfl)
theorem m_841 : Cond.instanceMethod yX3_upper ∈ tb := mb_4_1 _ (List.mem_of_getElem? (i := 19) rfl)
theorem m_842 : Cond.selects RX3 yX3_upper yX3_upper ∈ tb := mb_4_1 _ (List.mem_of_getElem? (i := 20) rfl)
theorem m_843 : Cond.code yX3_upper cX3_upper 1 (some .long) ∈ tb := mb_4_1 _ (List.mem_of_getElem? (i := 21) rfl)
theorem m_844 : Cond.methodLink RX11 224 yX11_moistened ∈ tb := mb_4_1 _ (List.mem_of_getElem? (i := 22) rfl)
theorem m_846 : Cond.instanceMethod yX11_moistened ∈ tb := mb_4_1 _ (List.mem_of_getElem? (i := 23) rfl)
theorem m_847 : Cond.code yX11_moistened cX11_moistened 3 (some .long) ∈ tb := mb_4_2 _ (List.mem_of_getElem? (i := 0) rfl)
theorem m_848 : Cond.constantLong RX11 231 (1000) ∈ tb := mb_4_2 _ (List.mem_of_getElem? (i := 1) rfl)
theorem m_849 : Cond.methodLink RX11 228 yX3_lower ∈ tb := mb_4_2 _ (List.mem_of_getElem? (i := 2) rfl)
theorem m_850 : Cond.instanceMethod yX3_lower ∈ tb := mb_4_2 _ (List.mem_of_getElem? (i := 3) rfl)
theorem m_851 : Cond.selects RX3 yX3_lower yX3_lower ∈ tb := mb_4_2 _ (List.mem_of_getElem? (i := 4) rfl)
theorem m_852 : Cond.code yX3_lower cX3_lower 1 (some .long) ∈ tb := mb_4_2 _ (List.mem_of_getElem? (i := 5) rfl)
theorem m_858 : Cond.methodLink RX11 236 yX11_errors ∈ tb := mb_4_2 _ (List.mem_of_getElem? (i := 11) rfl)
theorem m_860 : Cond.instanceMethod yX11_errors ∈ tb := mb_4_2 _ (List.mem_of_getElem? (i := 12) rfl)
theorem m_861 : Cond.code yX11_errors cX11_errors 8 (some .int) ∈ tb := mb_4_2 _ (List.mem_of_getElem? (i := 13) rfl)
theorem m_870 : Cond.methodLink RX11 255 yX2_lookAt ∈ tb := mb_4_2 _ (List.mem_of_getElem? (i := 22) rfl)
theorem m_871 : Cond.instanceMethod yX2_lookAt ∈ tb := mb_4_2 _ (List.mem_of_getElem? (i := 23) rfl)
theorem m_872 : Cond.selects RX2 yX2_lookAt yX2_lookAt ∈ tb := mb_4_3 _ (List.mem_of_getElem? (i := 0) rfl)
theorem m_873 : Cond.code yX2_lookAt cX2_lookAt 4 none ∈ tb := mb_4_3 _ (List.mem_of_getElem? (i := 1) rfl)
theorem m_874 : Cond.methodLink RX11 258 yX2_isParted ∈ tb := mb_4_3 _ (List.mem_of_getElem? (i := 2) rfl)
theorem m_875 : Cond.instanceMethod yX2_isParted ∈ tb := mb_4_3 _ (List.mem_of_getElem? (i := 3) rfl)
theorem m_876 : Cond.selects RX2 yX2_isParted yX2_isParted ∈ tb := mb_4_3 _ (List.mem_of_getElem? (i := 4) rfl)
theorem m_877 : Cond.code yX2_isParted cX2_isParted 1 (some .boolean) ∈ tb := mb_4_3 _ (List.mem_of_getElem? (i := 5) rfl)
theorem m_900 : Cond.methodLink RX11 262 yX2_culprit ∈ tb := mb_4_4 _ (List.mem_of_getElem? (i := 0) rfl)
theorem m_901 : Cond.instanceMethod yX2_culprit ∈ tb := mb_4_4 _ (List.mem_of_getElem? (i := 1) rfl)
theorem m_902 : Cond.selects RX2 yX2_culprit yX2_culprit ∈ tb := mb_4_4 _ (List.mem_of_getElem? (i := 2) rfl)
theorem m_903 : Cond.code yX2_culprit cX2_culprit 4 (some .int) ∈ tb := mb_4_4 _ (List.mem_of_getElem? (i := 3) rfl)
theorem m_917 : Cond.methodLink RX11 265 yX2_oddPairs ∈ tb := mb_4_4 _ (List.mem_of_getElem? (i := 14) rfl)
theorem m_918 : Cond.instanceMethod yX2_oddPairs ∈ tb := mb_4_4 _ (List.mem_of_getElem? (i := 15) rfl)
theorem m_919 : Cond.selects RX2 yX2_oddPairs yX2_oddPairs ∈ tb := mb_4_4 _ (List.mem_of_getElem? (i := 16) rfl)
theorem m_920 : Cond.code yX2_oddPairs cX2_oddPairs 6 (some .int) ∈ tb := mb_4_4 _ (List.mem_of_getElem? (i := 17) rfl)
theorem m_929 : Cond.methodLink RX11 268 yX2_fewest ∈ tb := mb_4_5 _ (List.mem_of_getElem? (i := 1) rfl)
theorem m_930 : Cond.instanceMethod yX2_fewest ∈ tb := mb_4_5 _ (List.mem_of_getElem? (i := 2) rfl)
theorem m_931 : Cond.selects RX2 yX2_fewest yX2_fewest ∈ tb := mb_4_5 _ (List.mem_of_getElem? (i := 3) rfl)
theorem m_932 : Cond.code yX2_fewest cX2_fewest 4 (some .int) ∈ tb := mb_4_5 _ (List.mem_of_getElem? (i := 4) rfl)
theorem m_957 : Cond.methodLink RX11 280 yX0_allSquares ∈ tb := mb_4_6 _ (List.mem_of_getElem? (i := 4) rfl)
theorem m_958 : Cond.instanceMethod yX0_allSquares ∈ tb := mb_4_6 _ (List.mem_of_getElem? (i := 5) rfl)
theorem m_959 : Cond.selects RX0 yX0_allSquares yX0_allSquares ∈ tb := mb_4_6 _ (List.mem_of_getElem? (i := 6) rfl)
theorem m_960 : Cond.code yX0_allSquares cX0_allSquares 7 (some .long) ∈ tb := mb_4_6 _ (List.mem_of_getElem? (i := 7) rfl)
theorem m_997 : Cond.methodLink RX11 302 yX11_loss ∈ tb := mb_4_7 _ (List.mem_of_getElem? (i := 19) rfl)
theorem m_999 : Cond.instanceMethod yX11_loss ∈ tb := mb_4_7 _ (List.mem_of_getElem? (i := 20) rfl)
theorem m_1000 : Cond.code yX11_loss cX11_loss 4 (some .int) ∈ tb := mb_4_7 _ (List.mem_of_getElem? (i := 21) rfl)
theorem m_1013 : Cond.methodLink RX11 307 yX5_arrange ∈ tb := mb_4_8 _ (List.mem_of_getElem? (i := 10) rfl)
theorem m_1014 : Cond.instanceMethod yX5_arrange ∈ tb := mb_4_8 _ (List.mem_of_getElem? (i := 11) rfl)
theorem m_1015 : Cond.selects RX5 yX5_arrange yX5_arrange ∈ tb := mb_4_8 _ (List.mem_of_getElem? (i := 12) rfl)
theorem m_1016 : Cond.code yX5_arrange cX5_arrange 2 none ∈ tb := mb_4_8 _ (List.mem_of_getElem? (i := 13) rfl)
theorem m_1046 : Cond.methodLink RX11 324 yX4_leastLeftOut ∈ tb := mb_5_0 _ (List.mem_of_getElem? (i := 10) rfl)
theorem m_1047 : Cond.instanceMethod yX4_leastLeftOut ∈ tb := mb_5_0 _ (List.mem_of_getElem? (i := 11) rfl)
theorem m_1048 : Cond.selects RX4 yX4_leastLeftOut yX4_leastLeftOut ∈ tb := mb_5_0 _ (List.mem_of_getElem? (i := 12) rfl)
theorem m_1049 : Cond.code yX4_leastLeftOut cX4_leastLeftOut 4 (some .int) ∈ tb := mb_5_0 _ (List.mem_of_getElem? (i := 13) rfl)
theorem m_1068 : Cond.methodLink RX11 327 yX4_leastWithout ∈ tb := mb_5_1 _ (List.mem_of_getElem? (i := 5) rfl)
theorem m_1069 : Cond.methodLink RX11 330 yX4_greatestWithout ∈ tb := mb_5_1 _ (List.mem_of_getElem? (i := 6) rfl)
theorem m_1074 : Cond.methodLink RX11 333 yX6_certified ∈ tb := mb_5_1 _ (List.mem_of_getElem? (i := 11) rfl)
theorem m_1075 : Cond.instanceMethod yX6_certified ∈ tb := mb_5_1 _ (List.mem_of_getElem? (i := 12) rfl)
theorem m_1076 : Cond.selects RX6 yX6_certified yX6_certified ∈ tb := mb_5_1 _ (List.mem_of_getElem? (i := 13) rfl)
theorem m_1077 : Cond.code yX6_certified cX6_certified 3 (some .boolean) ∈ tb := mb_5_1 _ (List.mem_of_getElem? (i := 14) rfl)
theorem hd_X0_allSquares_v : yX0_allSquares.cls = RX0 ∧ yX0_allSquares.cls ≠ "java/lang/invoke/MethodHandle" ∧ yX0_allSquares.cls ≠ "java/lang/invoke/VarHandle" ∧ (parseMethodDescriptor yX0_allSquares.desc).map (fun d => d.parameters.length) = some 1 := by decide +kernel
theorem hd_X11_balesIn_v : yX11_balesIn.cls = RX11 ∧ yX11_balesIn.cls ≠ "java/lang/invoke/MethodHandle" ∧ yX11_balesIn.cls ≠ "java/lang/invoke/VarHandle" ∧ (parseMethodDescriptor yX11_balesIn.desc).map (fun d => d.parameters.length) = some 1 := by decide +kernel
theorem hd_X11_errors_v : yX11_errors.cls = RX11 ∧ yX11_errors.cls ≠ "java/lang/invoke/MethodHandle" ∧ yX11_errors.cls ≠ "java/lang/invoke/VarHandle" ∧ (parseMethodDescriptor yX11_errors.desc).map (fun d => d.parameters.length) = some 2 := by decide +kernel
theorem hd_X11_fees_v : yX11_fees.cls = RX11 ∧ yX11_fees.cls ≠ "java/lang/invoke/MethodHandle" ∧ yX11_fees.cls ≠ "java/lang/invoke/VarHandle" ∧ (parseMethodDescriptor yX11_fees.desc).map (fun d => d.parameters.length) = some 0 := by decide +kernel
theorem hd_X11_greatestDivisor_v : yX11_greatestDivisor.cls = RX11 ∧ yX11_greatestDivisor.cls ≠ "java/lang/invoke/MethodHandle" ∧ yX11_greatestDivisor.cls ≠ "java/lang/invoke/VarHandle" ∧ (parseMethodDescriptor yX11_greatestDivisor.desc).map (fun d => d.parameters.length) = some 2 := by decide +kernel
theorem hd_X11_inLeastTerms_v : yX11_inLeastTerms.cls = RX11 ∧ yX11_inLeastTerms.cls ≠ "java/lang/invoke/MethodHandle" ∧ yX11_inLeastTerms.cls ≠ "java/lang/invoke/VarHandle" ∧ (parseMethodDescriptor yX11_inLeastTerms.desc).map (fun d => d.parameters.length) = some 3 := by decide +kernel
theorem hd_X11_loss_v : yX11_loss.cls = RX11 ∧ yX11_loss.cls ≠ "java/lang/invoke/MethodHandle" ∧ yX11_loss.cls ≠ "java/lang/invoke/VarHandle" ∧ (parseMethodDescriptor yX11_loss.desc).map (fun d => d.parameters.length) = some 1 := by decide +kernel
theorem hd_X11_moistened_v : yX11_moistened.cls = RX11 ∧ yX11_moistened.cls ≠ "java/lang/invoke/MethodHandle" ∧ yX11_moistened.cls ≠ "java/lang/invoke/VarHandle" ∧ (parseMethodDescriptor yX11_moistened.desc).map (fun d => d.parameters.length) = some 2 := by decide +kernel
theorem hd_X1_enact_v : yX1_enact.cls = RX1 ∧ yX1_enact.cls ≠ "java/lang/invoke/MethodHandle" ∧ yX1_enact.cls ≠ "java/lang/invoke/VarHandle" ∧ (parseMethodDescriptor yX1_enact.desc).map (fun d => d.parameters.length) = some 1 := by decide +kernel
theorem hd_X2_culprit_v : yX2_culprit.cls = RX2 ∧ yX2_culprit.cls ≠ "java/lang/invoke/MethodHandle" ∧ yX2_culprit.cls ≠ "java/lang/invoke/VarHandle" ∧ (parseMethodDescriptor yX2_culprit.desc).map (fun d => d.parameters.length) = some 1 := by decide +kernel
theorem hd_X2_fewest_v : yX2_fewest.cls = RX2 ∧ yX2_fewest.cls ≠ "java/lang/invoke/MethodHandle" ∧ yX2_fewest.cls ≠ "java/lang/invoke/VarHandle" ∧ (parseMethodDescriptor yX2_fewest.desc).map (fun d => d.parameters.length) = some 1 := by decide +kernel
theorem hd_X2_isParted_v : yX2_isParted.cls = RX2 ∧ yX2_isParted.cls ≠ "java/lang/invoke/MethodHandle" ∧ yX2_isParted.cls ≠ "java/lang/invoke/VarHandle" ∧ (parseMethodDescriptor yX2_isParted.desc).map (fun d => d.parameters.length) = some 0 := by decide +kernel
theorem hd_X2_lookAt_v : yX2_lookAt.cls = RX2 ∧ yX2_lookAt.cls ≠ "java/lang/invoke/MethodHandle" ∧ yX2_lookAt.cls ≠ "java/lang/invoke/VarHandle" ∧ (parseMethodDescriptor yX2_lookAt.desc).map (fun d => d.parameters.length) = some 3 := by decide +kernel
theorem hd_X2_oddPairs_v : yX2_oddPairs.cls = RX2 ∧ yX2_oddPairs.cls ≠ "java/lang/invoke/MethodHandle" ∧ yX2_oddPairs.cls ≠ "java/lang/invoke/VarHandle" ∧ (parseMethodDescriptor yX2_oddPairs.desc).map (fun d => d.parameters.length) = some 1 := by decide +kernel
theorem hd_X3_lower_v : yX3_lower.cls = RX3 ∧ yX3_lower.cls ≠ "java/lang/invoke/MethodHandle" ∧ yX3_lower.cls ≠ "java/lang/invoke/VarHandle" ∧ (parseMethodDescriptor yX3_lower.desc).map (fun d => d.parameters.length) = some 0 := by decide +kernel
theorem hd_X3_upper_v : yX3_upper.cls = RX3 ∧ yX3_upper.cls ≠ "java/lang/invoke/MethodHandle" ∧ yX3_upper.cls ≠ "java/lang/invoke/VarHandle" ∧ (parseMethodDescriptor yX3_upper.desc).map (fun d => d.parameters.length) = some 0 := by decide +kernel
theorem hd_X3_weighUp_v : yX3_weighUp.cls = RX3 ∧ yX3_weighUp.cls ≠ "java/lang/invoke/MethodHandle" ∧ yX3_weighUp.cls ≠ "java/lang/invoke/VarHandle" ∧ (parseMethodDescriptor yX3_weighUp.desc).map (fun d => d.parameters.length) = some 2 := by decide +kernel
theorem hd_X4_leastLeftOut_v : yX4_leastLeftOut.cls = RX4 ∧ yX4_leastLeftOut.cls ≠ "java/lang/invoke/MethodHandle" ∧ yX4_leastLeftOut.cls ≠ "java/lang/invoke/VarHandle" ∧ (parseMethodDescriptor yX4_leastLeftOut.desc).map (fun d => d.parameters.length) = some 0 := by decide +kernel
theorem hd_X5_arrange_v : yX5_arrange.cls = RX5 ∧ yX5_arrange.cls ≠ "java/lang/invoke/MethodHandle" ∧ yX5_arrange.cls ≠ "java/lang/invoke/VarHandle" ∧ (parseMethodDescriptor yX5_arrange.desc).map (fun d => d.parameters.length) = some 1 := by decide +kernel
theorem hd_X6_certified_v : yX6_certified.cls = RX6 ∧ yX6_certified.cls ≠ "java/lang/invoke/MethodHandle" ∧ yX6_certified.cls ≠ "java/lang/invoke/VarHandle" ∧ (parseMethodDescriptor yX6_certified.desc).map (fun d => d.parameters.length) = some 1 := by decide +kernel
theorem hd_X8_read_v : yX8_read.cls = RX8 ∧ yX8_read.cls ≠ "java/lang/invoke/MethodHandle" ∧ yX8_read.cls ≠ "java/lang/invoke/VarHandle" ∧ (parseMethodDescriptor yX8_read.desc).map (fun d => d.parameters.length) = some 0 := by decide +kernel
theorem hd_X8_take_v : yX8_take.cls = RX8 ∧ yX8_take.cls ≠ "java/lang/invoke/MethodHandle" ∧ yX8_take.cls ≠ "java/lang/invoke/VarHandle" ∧ (parseMethodDescriptor yX8_take.desc).map (fun d => d.parameters.length) = some 2 := by decide +kernel
set_option maxRecDepth 100000 in
theorem dvX11_balesIn_0 : ([(0, .iconst 0, 1), (1, .istore_n 2, 1), (2, .iconst 0, 1), (3, .istore_n 3, 1), (4, .iload_n 3, 1), (5, .aload_n 0, 1), (6, .getfield 26, 3), (9, .getfield 96, 3), (12, .if_icmp .ge 28, 3), (15, .aload_n 0, 1), (16, .getfield 51, 3), (19, .iload_n 3, 1), (20, .aload_n 0, 1), (21, .getfield 85, 3), (24, .invokevirtual 182, 3), (27, .iload_n 1, 1), (28, .if_icmp .ne 6, 3), (31, .iinc 2 1, 3), (34, .iinc 3 1, 3), (37, .goto (-33), 3), (40, .iload_n 2, 1), (41, .ireturn, 1)] : List (Nat × Instr × Nat)).all (fun q => decide (decode cX11_balesIn q.1 = .ok (q.2.1, q.2.2))) = true := by decide +kernel
theorem dX11_balesIn_0 : decode cX11_balesIn 0 = .ok (.iconst 0, 1) := all_at dvX11_balesIn_0 0 rfl
theorem dX11_balesIn_1 : decode cX11_balesIn 1 = .ok (.istore_n 2, 1) := all_at dvX11_balesIn_0 1 rfl
theorem dX11_balesIn_2 : decode cX11_balesIn 2 = .ok (.iconst 0, 1) := all_at dvX11_balesIn_0 2 rfl
theorem dX11_balesIn_3 : decode cX11_balesIn 3 = .ok (.istore_n 3, 1) := all_at dvX11_balesIn_0 3 rfl
theorem dX11_balesIn_4 : decode cX11_balesIn 4 = .ok (.iload_n 3, 1) := all_at dvX11_balesIn_0 4 rfl
theorem dX11_balesIn_5 : decode cX11_balesIn 5 = .ok (.aload_n 0, 1) := all_at dvX11_balesIn_0 5 rfl
theorem dX11_balesIn_6 : decode cX11_balesIn 6 = .ok (.getfield 26, 3) := all_at dvX11_balesIn_0 6 rfl
theorem dX11_balesIn_9 : decode cX11_balesIn 9 = .ok (.getfield 96, 3) := all_at dvX11_balesIn_0 7 rfl
theorem dX11_balesIn_12 : decode cX11_balesIn 12 = .ok (.if_icmp .ge 28, 3) := all_at dvX11_balesIn_0 8 rfl
theorem dX11_balesIn_15 : decode cX11_balesIn 15 = .ok (.aload_n 0, 1) := all_at dvX11_balesIn_0 9 rfl
theorem dX11_balesIn_16 : decode cX11_balesIn 16 = .ok (.getfield 51, 3) := all_at dvX11_balesIn_0 10 rfl
theorem dX11_balesIn_19 : decode cX11_balesIn 19 = .ok (.iload_n 3, 1) := all_at dvX11_balesIn_0 11 rfl
theorem dX11_balesIn_20 : decode cX11_balesIn 20 = .ok (.aload_n 0, 1) := all_at dvX11_balesIn_0 12 rfl
theorem dX11_balesIn_21 : decode cX11_balesIn 21 = .ok (.getfield 85, 3) := all_at dvX11_balesIn_0 13 rfl
theorem dX11_balesIn_24 : decode cX11_balesIn 24 = .ok (.invokevirtual 182, 3) := all_at dvX11_balesIn_0 14 rfl
theorem dX11_balesIn_27 : decode cX11_balesIn 27 = .ok (.iload_n 1, 1) := all_at dvX11_balesIn_0 15 rfl
theorem dX11_balesIn_28 : decode cX11_balesIn 28 = .ok (.if_icmp .ne 6, 3) := all_at dvX11_balesIn_0 16 rfl
theorem dX11_balesIn_31 : decode cX11_balesIn 31 = .ok (.iinc 2 1, 3) := all_at dvX11_balesIn_0 17 rfl
theorem dX11_balesIn_34 : decode cX11_balesIn 34 = .ok (.iinc 3 1, 3) := all_at dvX11_balesIn_0 18 rfl
theorem dX11_balesIn_37 : decode cX11_balesIn 37 = .ok (.goto (-33), 3) := all_at dvX11_balesIn_0 19 rfl
theorem dX11_balesIn_40 : decode cX11_balesIn 40 = .ok (.iload_n 2, 1) := all_at dvX11_balesIn_0 20 rfl
theorem dX11_balesIn_41 : decode cX11_balesIn 41 = .ok (.ireturn, 1) := all_at dvX11_balesIn_0 21 rfl
set_option maxRecDepth 100000 in
theorem dvX11_cause_0 : ([(0, .aload_n 0, 1), (1, .getfield 26, 3), (4, .iload_n 1, 1), (5, .invokevirtual 104, 3), (8, .ifCond .ne 6, 3), (11, .ldc 108, 2), (13, .ireturn, 1), (14, .aload_n 0, 1), (15, .getfield 60, 3), (18, .iload_n 1, 1), (19, .aload_n 0, 1), (20, .getfield 85, 3), (23, .aload_n 0, 1), (24, .getfield 33, 3), (27, .iconst 2, 1), (28, .aload_n 0, 1), (29, .getfield 85, 3), (32, .invokevirtual 194, 3), (35, .invokevirtual 255, 3), (38, .aload_n 0, 1), (39, .getfield 60, 3), (42, .invokevirtual 258, 3), (45, .ifCond .eq 14, 3), (48, .aload_n 0, 1)] : List (Nat × Instr × Nat)).all (fun q => decide (decode cX11_cause q.1 = .ok (q.2.1, q.2.2))) = true := by decide +kernel
theorem dX11_cause_0 : decode cX11_cause 0 = .ok (.aload_n 0, 1) := all_at dvX11_cause_0 0 rfl
theorem dX11_cause_1 : decode cX11_cause 1 = .ok (.getfield 26, 3) := all_at dvX11_cause_0 1 rfl
theorem dX11_cause_4 : decode cX11_cause 4 = .ok (.iload_n 1, 1) := all_at dvX11_cause_0 2 rfl
theorem dX11_cause_5 : decode cX11_cause 5 = .ok (.invokevirtual 104, 3) := all_at dvX11_cause_0 3 rfl
theorem dX11_cause_8 : decode cX11_cause 8 = .ok (.ifCond .ne 6, 3) := all_at dvX11_cause_0 4 rfl
theorem dX11_cause_11 : decode cX11_cause 11 = .ok (.ldc 108, 2) := all_at dvX11_cause_0 5 rfl
theorem dX11_cause_13 : decode cX11_cause 13 = .ok (.ireturn, 1) := all_at dvX11_cause_0 6 rfl
theorem dX11_cause_14 : decode cX11_cause 14 = .ok (.aload_n 0, 1) := all_at dvX11_cause_0 7 rfl
theorem dX11_cause_15 : decode cX11_cause 15 = .ok (.getfield 60, 3) := all_at dvX11_cause_0 8 rfl
theorem dX11_cause_18 : decode cX11_cause 18 = .ok (.iload_n 1, 1) := all_at dvX11_cause_0 9 rfl
theorem dX11_cause_19 : decode cX11_cause 19 = .ok (.aload_n 0, 1) := all_at dvX11_cause_0 10 rfl
theorem dX11_cause_20 : decode cX11_cause 20 = .ok (.getfield 85, 3) := all_at dvX11_cause_0 11 rfl
theorem dX11_cause_23 : decode cX11_cause 23 = .ok (.aload_n 0, 1) := all_at dvX11_cause_0 12 rfl
theorem dX11_cause_24 : decode cX11_cause 24 = .ok (.getfield 33, 3) := all_at dvX11_cause_0 13 rfl
theorem dX11_cause_27 : decode cX11_cause 27 = .ok (.iconst 2, 1) := all_at dvX11_cause_0 14 rfl
theorem dX11_cause_28 : decode cX11_cause 28 = .ok (.aload_n 0, 1) := all_at dvX11_cause_0 15 rfl
theorem dX11_cause_29 : decode cX11_cause 29 = .ok (.getfield 85, 3) := all_at dvX11_cause_0 16 rfl
theorem dX11_cause_32 : decode cX11_cause 32 = .ok (.invokevirtual 194, 3) := all_at dvX11_cause_0 17 rfl
theorem dX11_cause_35 : decode cX11_cause 35 = .ok (.invokevirtual 255, 3) := all_at dvX11_cause_0 18 rfl
theorem dX11_cause_38 : decode cX11_cause 38 = .ok (.aload_n 0, 1) := all_at dvX11_cause_0 19 rfl
theorem dX11_cause_39 : decode cX11_cause 39 = .ok (.getfield 60, 3) := all_at dvX11_cause_0 20 rfl
theorem dX11_cause_42 : decode cX11_cause 42 = .ok (.invokevirtual 258, 3) := all_at dvX11_cause_0 21 rfl
theorem dX11_cause_45 : decode cX11_cause 45 = .ok (.ifCond .eq 14, 3) := all_at dvX11_cause_0 22 rfl
theorem dX11_cause_48 : decode cX11_cause 48 = .ok (.aload_n 0, 1) := all_at dvX11_cause_0 23 rfl
set_option maxRecDepth 100000 in
theorem dvX11_cause_49 : ([(49, .getfield 60, 3), (52, .iload_n 2, 1), (53, .invokevirtual 262, 3), (56, .goto 5, 3), (59, .ldc 94, 2), (61, .ireturn, 1)] : List (Nat × Instr × Nat)).all (fun q => decide (decode cX11_cause q.1 = .ok (q.2.1, q.2.2))) = true := by decide +kernel
theorem dX11_cause_49 : decode cX11_cause 49 = .ok (.getfield 60, 3) := all_at dvX11_cause_49 0 rfl
theorem dX11_cause_52 : decode cX11_cause 52 = .ok (.iload_n 2, 1) := all_at dvX11_cause_49 1 rfl
theorem dX11_cause_53 : decode cX11_cause 53 = .ok (.invokevirtual 262, 3) := all_at dvX11_cause_49 2 rfl
theorem dX11_cause_56 : decode cX11_cause 56 = .ok (.goto 5, 3) := all_at dvX11_cause_49 3 rfl
theorem dX11_cause_59 : decode cX11_cause 59 = .ok (.ldc 94, 2) := all_at dvX11_cause_49 4 rfl
theorem dX11_cause_61 : decode cX11_cause 61 = .ok (.ireturn, 1) := all_at dvX11_cause_49 5 rfl
set_option maxRecDepth 100000 in
theorem dvX11_certify_0 : ([(0, .aload_n 0, 1), (1, .getfield 26, 3), (4, .iload_n 1, 1), (5, .invokevirtual 104, 3), (8, .ifCond .ne 6, 3), (11, .ldc 108, 2), (13, .ireturn, 1), (14, .aload_n 0, 1), (15, .getfield 81, 3), (18, .iload_n 1, 1), (19, .invokevirtual 333, 3), (22, .ifCond .ne 19, 3), (25, .aload_n 0, 1), (26, .getfield 51, 3), (29, .iload_n 1, 1), (30, .aload_n 0, 1), (31, .getfield 85, 3), (34, .invokevirtual 182, 3), (37, .iconst 1, 1), (38, .if_icmp .eq 6, 3), (41, .ldc 94, 2), (43, .ireturn, 1), (44, .aload_n 0, 1), (45, .getfield 81, 3)] : List (Nat × Instr × Nat)).all (fun q => decide (decode cX11_certify q.1 = .ok (q.2.1, q.2.2))) = true := by decide +kernel
theorem dX11_certify_0 : decode cX11_certify 0 = .ok (.aload_n 0, 1) := all_at dvX11_certify_0 0 rfl
theorem dX11_certify_1 : decode cX11_certify 1 = .ok (.getfield 26, 3) := all_at dvX11_certify_0 1 rfl
theorem dX11_certify_4 : decode cX11_certify 4 = .ok (.iload_n 1, 1) := all_at dvX11_certify_0 2 rfl
theorem dX11_certify_5 : decode cX11_certify 5 = .ok (.invokevirtual 104, 3) := all_at dvX11_certify_0 3 rfl
theorem dX11_certify_8 : decode cX11_certify 8 = .ok (.ifCond .ne 6, 3) := all_at dvX11_certify_0 4 rfl
theorem dX11_certify_11 : decode cX11_certify 11 = .ok (.ldc 108, 2) := all_at dvX11_certify_0 5 rfl
theorem dX11_certify_13 : decode cX11_certify 13 = .ok (.ireturn, 1) := all_at dvX11_certify_0 6 rfl
theorem dX11_certify_14 : decode cX11_certify 14 = .ok (.aload_n 0, 1) := all_at dvX11_certify_0 7 rfl
theorem dX11_certify_15 : decode cX11_certify 15 = .ok (.getfield 81, 3) := all_at dvX11_certify_0 8 rfl
theorem dX11_certify_18 : decode cX11_certify 18 = .ok (.iload_n 1, 1) := all_at dvX11_certify_0 9 rfl
theorem dX11_certify_19 : decode cX11_certify 19 = .ok (.invokevirtual 333, 3) := all_at dvX11_certify_0 10 rfl
theorem dX11_certify_22 : decode cX11_certify 22 = .ok (.ifCond .ne 19, 3) := all_at dvX11_certify_0 11 rfl
theorem dX11_certify_25 : decode cX11_certify 25 = .ok (.aload_n 0, 1) := all_at dvX11_certify_0 12 rfl
theorem dX11_certify_26 : decode cX11_certify 26 = .ok (.getfield 51, 3) := all_at dvX11_certify_0 13 rfl
theorem dX11_certify_29 : decode cX11_certify 29 = .ok (.iload_n 1, 1) := all_at dvX11_certify_0 14 rfl
theorem dX11_certify_30 : decode cX11_certify 30 = .ok (.aload_n 0, 1) := all_at dvX11_certify_0 15 rfl
theorem dX11_certify_31 : decode cX11_certify 31 = .ok (.getfield 85, 3) := all_at dvX11_certify_0 16 rfl
theorem dX11_certify_34 : decode cX11_certify 34 = .ok (.invokevirtual 182, 3) := all_at dvX11_certify_0 17 rfl
theorem dX11_certify_37 : decode cX11_certify 37 = .ok (.iconst 1, 1) := all_at dvX11_certify_0 18 rfl
theorem dX11_certify_38 : decode cX11_certify 38 = .ok (.if_icmp .eq 6, 3) := all_at dvX11_certify_0 19 rfl
theorem dX11_certify_41 : decode cX11_certify 41 = .ok (.ldc 94, 2) := all_at dvX11_certify_0 20 rfl
theorem dX11_certify_43 : decode cX11_certify 43 = .ok (.ireturn, 1) := all_at dvX11_certify_0 21 rfl
theorem dX11_certify_44 : decode cX11_certify 44 = .ok (.aload_n 0, 1) := all_at dvX11_certify_0 22 rfl
theorem dX11_certify_45 : decode cX11_certify 45 = .ok (.getfield 81, 3) := all_at dvX11_certify_0 23 rfl
set_option maxRecDepth 100000 in
theorem dvX11_certify_48 : ([(48, .iconst 1, 1), (49, .invokevirtual 336, 3), (52, .ifCond .ne 6, 3), (55, .ldc 99, 2), (57, .ireturn, 1), (58, .aload_n 0, 1), (59, .getfield 51, 3), (62, .invokevirtual 228, 3), (65, .ldc2_w 231, 3), (68, .lmul, 1), (69, .lstore_n 2, 1), (70, .lload_n 2, 1), (71, .lconst 0, 1), (72, .lcmp, 1), (73, .ifCond .ne 7, 3), (76, .lconst 0, 1), (77, .goto 22, 3), (80, .aload_n 0, 1), (81, .getfield 51, 3), (84, .invokevirtual 220, 3), (87, .aload_n 0, 1), (88, .iload_n 1, 1), (89, .aload_n 0, 1), (90, .getfield 85, 3)] : List (Nat × Instr × Nat)).all (fun q => decide (decode cX11_certify q.1 = .ok (q.2.1, q.2.2))) = true := by decide +kernel
theorem dX11_certify_48 : decode cX11_certify 48 = .ok (.iconst 1, 1) := all_at dvX11_certify_48 0 rfl
theorem dX11_certify_49 : decode cX11_certify 49 = .ok (.invokevirtual 336, 3) := all_at dvX11_certify_48 1 rfl
theorem dX11_certify_52 : decode cX11_certify 52 = .ok (.ifCond .ne 6, 3) := all_at dvX11_certify_48 2 rfl
theorem dX11_certify_55 : decode cX11_certify 55 = .ok (.ldc 99, 2) := all_at dvX11_certify_48 3 rfl
theorem dX11_certify_57 : decode cX11_certify 57 = .ok (.ireturn, 1) := all_at dvX11_certify_48 4 rfl
theorem dX11_certify_58 : decode cX11_certify 58 = .ok (.aload_n 0, 1) := all_at dvX11_certify_48 5 rfl
theorem dX11_certify_59 : decode cX11_certify 59 = .ok (.getfield 51, 3) := all_at dvX11_certify_48 6 rfl
theorem dX11_certify_62 : decode cX11_certify 62 = .ok (.invokevirtual 228, 3) := all_at dvX11_certify_48 7 rfl
theorem dX11_certify_65 : decode cX11_certify 65 = .ok (.ldc2_w 231, 3) := all_at dvX11_certify_48 8 rfl
theorem dX11_certify_68 : decode cX11_certify 68 = .ok (.lmul, 1) := all_at dvX11_certify_48 9 rfl
theorem dX11_certify_69 : decode cX11_certify 69 = .ok (.lstore_n 2, 1) := all_at dvX11_certify_48 10 rfl
theorem dX11_certify_70 : decode cX11_certify 70 = .ok (.lload_n 2, 1) := all_at dvX11_certify_48 11 rfl
theorem dX11_certify_71 : decode cX11_certify 71 = .ok (.lconst 0, 1) := all_at dvX11_certify_48 12 rfl
theorem dX11_certify_72 : decode cX11_certify 72 = .ok (.lcmp, 1) := all_at dvX11_certify_48 13 rfl
theorem dX11_certify_73 : decode cX11_certify 73 = .ok (.ifCond .ne 7, 3) := all_at dvX11_certify_48 14 rfl
theorem dX11_certify_76 : decode cX11_certify 76 = .ok (.lconst 0, 1) := all_at dvX11_certify_48 15 rfl
theorem dX11_certify_77 : decode cX11_certify 77 = .ok (.goto 22, 3) := all_at dvX11_certify_48 16 rfl
theorem dX11_certify_80 : decode cX11_certify 80 = .ok (.aload_n 0, 1) := all_at dvX11_certify_48 17 rfl
theorem dX11_certify_81 : decode cX11_certify 81 = .ok (.getfield 51, 3) := all_at dvX11_certify_48 18 rfl
theorem dX11_certify_84 : decode cX11_certify 84 = .ok (.invokevirtual 220, 3) := all_at dvX11_certify_48 19 rfl
theorem dX11_certify_87 : decode cX11_certify 87 = .ok (.aload_n 0, 1) := all_at dvX11_certify_48 20 rfl
theorem dX11_certify_88 : decode cX11_certify 88 = .ok (.iload_n 1, 1) := all_at dvX11_certify_48 21 rfl
theorem dX11_certify_89 : decode cX11_certify 89 = .ok (.aload_n 0, 1) := all_at dvX11_certify_48 22 rfl
theorem dX11_certify_90 : decode cX11_certify 90 = .ok (.getfield 85, 3) := all_at dvX11_certify_48 23 rfl
set_option maxRecDepth 100000 in
theorem dvX11_certify_93 : ([(93, .invokevirtual 224, 3), (96, .lmul, 1), (97, .lload_n 2, 1), (98, .ldiv, 1), (99, .lstore 4, 2), (101, .aload_n 0, 1), (102, .getfield 81, 3), (105, .iconst 0, 1), (106, .iload_n 1, 1), (107, .lload 4, 2), (109, .l2i, 1), (110, .iconst (-1), 1), (111, .aload_n 0, 1), (112, .getfield 85, 3), (115, .invokevirtual 339, 3), (118, .ireturn, 1)] : List (Nat × Instr × Nat)).all (fun q => decide (decode cX11_certify q.1 = .ok (q.2.1, q.2.2))) = true := by decide +kernel
theorem dX11_certify_93 : decode cX11_certify 93 = .ok (.invokevirtual 224, 3) := all_at dvX11_certify_93 0 rfl
theorem dX11_certify_96 : decode cX11_certify 96 = .ok (.lmul, 1) := all_at dvX11_certify_93 1 rfl
theorem dX11_certify_97 : decode cX11_certify 97 = .ok (.lload_n 2, 1) := all_at dvX11_certify_93 2 rfl
theorem dX11_certify_98 : decode cX11_certify 98 = .ok (.ldiv, 1) := all_at dvX11_certify_93 3 rfl
theorem dX11_certify_99 : decode cX11_certify 99 = .ok (.lstore 4, 2) := all_at dvX11_certify_93 4 rfl
theorem dX11_certify_101 : decode cX11_certify 101 = .ok (.aload_n 0, 1) := all_at dvX11_certify_93 5 rfl
theorem dX11_certify_102 : decode cX11_certify 102 = .ok (.getfield 81, 3) := all_at dvX11_certify_93 6 rfl
theorem dX11_certify_105 : decode cX11_certify 105 = .ok (.iconst 0, 1) := all_at dvX11_certify_93 7 rfl
theorem dX11_certify_106 : decode cX11_certify 106 = .ok (.iload_n 1, 1) := all_at dvX11_certify_93 8 rfl
theorem dX11_certify_107 : decode cX11_certify 107 = .ok (.lload 4, 2) := all_at dvX11_certify_93 9 rfl
theorem dX11_certify_109 : decode cX11_certify 109 = .ok (.l2i, 1) := all_at dvX11_certify_93 10 rfl
theorem dX11_certify_110 : decode cX11_certify 110 = .ok (.iconst (-1), 1) := all_at dvX11_certify_93 11 rfl
theorem dX11_certify_111 : decode cX11_certify 111 = .ok (.aload_n 0, 1) := all_at dvX11_certify_93 12 rfl
theorem dX11_certify_112 : decode cX11_certify 112 = .ok (.getfield 85, 3) := all_at dvX11_certify_93 13 rfl
theorem dX11_certify_115 : decode cX11_certify 115 = .ok (.invokevirtual 339, 3) := all_at dvX11_certify_93 14 rfl
theorem dX11_certify_118 : decode cX11_certify 118 = .ok (.ireturn, 1) := all_at dvX11_certify_93 15 rfl
set_option maxRecDepth 100000 in
theorem dvX11_cheat_0 : ([(0, .aload_n 0, 1), (1, .getfield 26, 3), (4, .iload_n 1, 1), (5, .invokevirtual 104, 3), (8, .ifCond .ne 6, 3), (11, .ldc 108, 2), (13, .ireturn, 1), (14, .iload_n 2, 1), (15, .iconst 0, 1), (16, .sipush 999, 3), (19, .invokestatic 89, 3), (22, .ifCond .eq 26, 3), (25, .iload_n 3, 1), (26, .iconst 0, 1), (27, .sipush 999, 3), (30, .invokestatic 89, 3), (33, .ifCond .eq 15, 3), (36, .iload 4, 2), (38, .iconst 0, 1), (39, .sipush 999, 3), (42, .invokestatic 89, 3), (45, .ifCond .ne 6, 3), (48, .ldc 93, 2), (50, .ireturn, 1)] : List (Nat × Instr × Nat)).all (fun q => decide (decode cX11_cheat q.1 = .ok (q.2.1, q.2.2))) = true := by decide +kernel
theorem dX11_cheat_0 : decode cX11_cheat 0 = .ok (.aload_n 0, 1) := all_at dvX11_cheat_0 0 rfl
theorem dX11_cheat_1 : decode cX11_cheat 1 = .ok (.getfield 26, 3) := all_at dvX11_cheat_0 1 rfl
theorem dX11_cheat_4 : decode cX11_cheat 4 = .ok (.iload_n 1, 1) := all_at dvX11_cheat_0 2 rfl
theorem dX11_cheat_5 : decode cX11_cheat 5 = .ok (.invokevirtual 104, 3) := all_at dvX11_cheat_0 3 rfl
theorem dX11_cheat_8 : decode cX11_cheat 8 = .ok (.ifCond .ne 6, 3) := all_at dvX11_cheat_0 4 rfl
theorem dX11_cheat_11 : decode cX11_cheat 11 = .ok (.ldc 108, 2) := all_at dvX11_cheat_0 5 rfl
theorem dX11_cheat_13 : decode cX11_cheat 13 = .ok (.ireturn, 1) := all_at dvX11_cheat_0 6 rfl
theorem dX11_cheat_14 : decode cX11_cheat 14 = .ok (.iload_n 2, 1) := all_at dvX11_cheat_0 7 rfl
theorem dX11_cheat_15 : decode cX11_cheat 15 = .ok (.iconst 0, 1) := all_at dvX11_cheat_0 8 rfl
theorem dX11_cheat_16 : decode cX11_cheat 16 = .ok (.sipush 999, 3) := all_at dvX11_cheat_0 9 rfl
theorem dX11_cheat_19 : decode cX11_cheat 19 = .ok (.invokestatic 89, 3) := all_at dvX11_cheat_0 10 rfl
theorem dX11_cheat_22 : decode cX11_cheat 22 = .ok (.ifCond .eq 26, 3) := all_at dvX11_cheat_0 11 rfl
theorem dX11_cheat_25 : decode cX11_cheat 25 = .ok (.iload_n 3, 1) := all_at dvX11_cheat_0 12 rfl
theorem dX11_cheat_26 : decode cX11_cheat 26 = .ok (.iconst 0, 1) := all_at dvX11_cheat_0 13 rfl
theorem dX11_cheat_27 : decode cX11_cheat 27 = .ok (.sipush 999, 3) := all_at dvX11_cheat_0 14 rfl
theorem dX11_cheat_30 : decode cX11_cheat 30 = .ok (.invokestatic 89, 3) := all_at dvX11_cheat_0 15 rfl
theorem dX11_cheat_33 : decode cX11_cheat 33 = .ok (.ifCond .eq 15, 3) := all_at dvX11_cheat_0 16 rfl
theorem dX11_cheat_36 : decode cX11_cheat 36 = .ok (.iload 4, 2) := all_at dvX11_cheat_0 17 rfl
theorem dX11_cheat_38 : decode cX11_cheat 38 = .ok (.iconst 0, 1) := all_at dvX11_cheat_0 18 rfl
theorem dX11_cheat_39 : decode cX11_cheat 39 = .ok (.sipush 999, 3) := all_at dvX11_cheat_0 19 rfl
theorem dX11_cheat_42 : decode cX11_cheat 42 = .ok (.invokestatic 89, 3) := all_at dvX11_cheat_0 20 rfl
theorem dX11_cheat_45 : decode cX11_cheat 45 = .ok (.ifCond .ne 6, 3) := all_at dvX11_cheat_0 21 rfl
theorem dX11_cheat_48 : decode cX11_cheat 48 = .ok (.ldc 93, 2) := all_at dvX11_cheat_0 22 rfl
theorem dX11_cheat_50 : decode cX11_cheat 50 = .ok (.ireturn, 1) := all_at dvX11_cheat_0 23 rfl
set_option maxRecDepth 100000 in
theorem dvX11_cheat_51 : ([(51, .aload_n 0, 1), (52, .getfield 26, 3), (55, .getfield 296, 3), (58, .iload_n 1, 1), (59, .iaload, 1), (60, .iload_n 2, 1), (61, .if_icmp .le 7, 3), (64, .iconst 1, 1), (65, .goto 4, 3), (68, .iconst 0, 1), (69, .istore 5, 2), (71, .aload_n 0, 1), (72, .getfield 26, 3), (75, .getfield 299, 3), (78, .iload_n 1, 1), (79, .iaload, 1), (80, .iload_n 3, 1), (81, .if_icmp .le 6, 3), (84, .iinc 5 2, 3), (87, .aload_n 0, 1), (88, .getfield 26, 3), (91, .getfield 296, 3), (94, .iload_n 1, 1), (95, .iaload, 1)] : List (Nat × Instr × Nat)).all (fun q => decide (decode cX11_cheat q.1 = .ok (q.2.1, q.2.2))) = true := by decide +kernel
theorem dX11_cheat_51 : decode cX11_cheat 51 = .ok (.aload_n 0, 1) := all_at dvX11_cheat_51 0 rfl
theorem dX11_cheat_52 : decode cX11_cheat 52 = .ok (.getfield 26, 3) := all_at dvX11_cheat_51 1 rfl
theorem dX11_cheat_55 : decode cX11_cheat 55 = .ok (.getfield 296, 3) := all_at dvX11_cheat_51 2 rfl
theorem dX11_cheat_58 : decode cX11_cheat 58 = .ok (.iload_n 1, 1) := all_at dvX11_cheat_51 3 rfl
theorem dX11_cheat_59 : decode cX11_cheat 59 = .ok (.iaload, 1) := all_at dvX11_cheat_51 4 rfl
theorem dX11_cheat_60 : decode cX11_cheat 60 = .ok (.iload_n 2, 1) := all_at dvX11_cheat_51 5 rfl
theorem dX11_cheat_61 : decode cX11_cheat 61 = .ok (.if_icmp .le 7, 3) := all_at dvX11_cheat_51 6 rfl
theorem dX11_cheat_64 : decode cX11_cheat 64 = .ok (.iconst 1, 1) := all_at dvX11_cheat_51 7 rfl
theorem dX11_cheat_65 : decode cX11_cheat 65 = .ok (.goto 4, 3) := all_at dvX11_cheat_51 8 rfl
theorem dX11_cheat_68 : decode cX11_cheat 68 = .ok (.iconst 0, 1) := all_at dvX11_cheat_51 9 rfl
theorem dX11_cheat_69 : decode cX11_cheat 69 = .ok (.istore 5, 2) := all_at dvX11_cheat_51 10 rfl
theorem dX11_cheat_71 : decode cX11_cheat 71 = .ok (.aload_n 0, 1) := all_at dvX11_cheat_51 11 rfl
theorem dX11_cheat_72 : decode cX11_cheat 72 = .ok (.getfield 26, 3) := all_at dvX11_cheat_51 12 rfl
theorem dX11_cheat_75 : decode cX11_cheat 75 = .ok (.getfield 299, 3) := all_at dvX11_cheat_51 13 rfl
theorem dX11_cheat_78 : decode cX11_cheat 78 = .ok (.iload_n 1, 1) := all_at dvX11_cheat_51 14 rfl
theorem dX11_cheat_79 : decode cX11_cheat 79 = .ok (.iaload, 1) := all_at dvX11_cheat_51 15 rfl
theorem dX11_cheat_80 : decode cX11_cheat 80 = .ok (.iload_n 3, 1) := all_at dvX11_cheat_51 16 rfl
theorem dX11_cheat_81 : decode cX11_cheat 81 = .ok (.if_icmp .le 6, 3) := all_at dvX11_cheat_51 17 rfl
theorem dX11_cheat_84 : decode cX11_cheat 84 = .ok (.iinc 5 2, 3) := all_at dvX11_cheat_51 18 rfl
theorem dX11_cheat_87 : decode cX11_cheat 87 = .ok (.aload_n 0, 1) := all_at dvX11_cheat_51 19 rfl
theorem dX11_cheat_88 : decode cX11_cheat 88 = .ok (.getfield 26, 3) := all_at dvX11_cheat_51 20 rfl
theorem dX11_cheat_91 : decode cX11_cheat 91 = .ok (.getfield 296, 3) := all_at dvX11_cheat_51 21 rfl
theorem dX11_cheat_94 : decode cX11_cheat 94 = .ok (.iload_n 1, 1) := all_at dvX11_cheat_51 22 rfl
theorem dX11_cheat_95 : decode cX11_cheat 95 = .ok (.iaload, 1) := all_at dvX11_cheat_51 23 rfl
set_option maxRecDepth 100000 in
theorem dvX11_cheat_96 : ([(96, .aload_n 0, 1), (97, .getfield 26, 3), (100, .getfield 299, 3), (103, .iload_n 1, 1), (104, .iaload, 1), (105, .iadd, 1), (106, .aload_n 0, 1), (107, .iload_n 1, 1), (108, .invokevirtual 302, 3), (111, .iadd, 1), (112, .iload 4, 2), (114, .if_icmp .le 6, 3), (117, .iinc 5 4, 3), (120, .iload 5, 2), (122, .ireturn, 1)] : List (Nat × Instr × Nat)).all (fun q => decide (decode cX11_cheat q.1 = .ok (q.2.1, q.2.2))) = true := by decide +kernel
theorem dX11_cheat_96 : decode cX11_cheat 96 = .ok (.aload_n 0, 1) := all_at dvX11_cheat_96 0 rfl
theorem dX11_cheat_97 : decode cX11_cheat 97 = .ok (.getfield 26, 3) := all_at dvX11_cheat_96 1 rfl
theorem dX11_cheat_100 : decode cX11_cheat 100 = .ok (.getfield 299, 3) := all_at dvX11_cheat_96 2 rfl
theorem dX11_cheat_103 : decode cX11_cheat 103 = .ok (.iload_n 1, 1) := all_at dvX11_cheat_96 3 rfl
theorem dX11_cheat_104 : decode cX11_cheat 104 = .ok (.iaload, 1) := all_at dvX11_cheat_96 4 rfl
theorem dX11_cheat_105 : decode cX11_cheat 105 = .ok (.iadd, 1) := all_at dvX11_cheat_96 5 rfl
theorem dX11_cheat_106 : decode cX11_cheat 106 = .ok (.aload_n 0, 1) := all_at dvX11_cheat_96 6 rfl
theorem dX11_cheat_107 : decode cX11_cheat 107 = .ok (.iload_n 1, 1) := all_at dvX11_cheat_96 7 rfl
theorem dX11_cheat_108 : decode cX11_cheat 108 = .ok (.invokevirtual 302, 3) := all_at dvX11_cheat_96 8 rfl
theorem dX11_cheat_111 : decode cX11_cheat 111 = .ok (.iadd, 1) := all_at dvX11_cheat_96 9 rfl
theorem dX11_cheat_112 : decode cX11_cheat 112 = .ok (.iload 4, 2) := all_at dvX11_cheat_96 10 rfl
theorem dX11_cheat_114 : decode cX11_cheat 114 = .ok (.if_icmp .le 6, 3) := all_at dvX11_cheat_96 11 rfl
theorem dX11_cheat_117 : decode cX11_cheat 117 = .ok (.iinc 5 4, 3) := all_at dvX11_cheat_96 12 rfl
theorem dX11_cheat_120 : decode cX11_cheat 120 = .ok (.iload 5, 2) := all_at dvX11_cheat_96 13 rfl
theorem dX11_cheat_122 : decode cX11_cheat 122 = .ok (.ireturn, 1) := all_at dvX11_cheat_96 14 rfl
set_option maxRecDepth 100000 in
theorem dvX11_count_0 : ([(0, .iload_n 1, 1), (1, .tableswitch 137 0 10 #[59, 64, 72, 80, 88, 96, 104, 112, 118, 124, 132], 59), (60, .aload_n 0, 1), (61, .getfield 85, 3), (64, .ireturn, 1), (65, .aload_n 0, 1), (66, .getfield 26, 3), (69, .getfield 96, 3), (72, .ireturn, 1), (73, .aload_n 0, 1), (74, .getfield 10, 3), (77, .getfield 109, 3), (80, .ireturn, 1), (81, .aload_n 0, 1), (82, .getfield 10, 3), (85, .getfield 167, 3), (88, .ireturn, 1), (89, .aload_n 0, 1), (90, .getfield 19, 3), (93, .getfield 134, 3), (96, .ireturn, 1), (97, .aload_n 0, 1), (98, .getfield 33, 3), (101, .getfield 170, 3)] : List (Nat × Instr × Nat)).all (fun q => decide (decode cX11_count q.1 = .ok (q.2.1, q.2.2))) = true := by decide +kernel
theorem dX11_count_0 : decode cX11_count 0 = .ok (.iload_n 1, 1) := all_at dvX11_count_0 0 rfl
theorem dX11_count_1 : decode cX11_count 1 = .ok (.tableswitch 137 0 10 #[59, 64, 72, 80, 88, 96, 104, 112, 118, 124, 132], 59) := all_at dvX11_count_0 1 rfl
theorem dX11_count_60 : decode cX11_count 60 = .ok (.aload_n 0, 1) := all_at dvX11_count_0 2 rfl
theorem dX11_count_61 : decode cX11_count 61 = .ok (.getfield 85, 3) := all_at dvX11_count_0 3 rfl
theorem dX11_count_64 : decode cX11_count 64 = .ok (.ireturn, 1) := all_at dvX11_count_0 4 rfl
theorem dX11_count_65 : decode cX11_count 65 = .ok (.aload_n 0, 1) := all_at dvX11_count_0 5 rfl
theorem dX11_count_66 : decode cX11_count 66 = .ok (.getfield 26, 3) := all_at dvX11_count_0 6 rfl
theorem dX11_count_69 : decode cX11_count 69 = .ok (.getfield 96, 3) := all_at dvX11_count_0 7 rfl
theorem dX11_count_72 : decode cX11_count 72 = .ok (.ireturn, 1) := all_at dvX11_count_0 8 rfl
theorem dX11_count_73 : decode cX11_count 73 = .ok (.aload_n 0, 1) := all_at dvX11_count_0 9 rfl
theorem dX11_count_74 : decode cX11_count 74 = .ok (.getfield 10, 3) := all_at dvX11_count_0 10 rfl
theorem dX11_count_77 : decode cX11_count 77 = .ok (.getfield 109, 3) := all_at dvX11_count_0 11 rfl
theorem dX11_count_80 : decode cX11_count 80 = .ok (.ireturn, 1) := all_at dvX11_count_0 12 rfl
theorem dX11_count_81 : decode cX11_count 81 = .ok (.aload_n 0, 1) := all_at dvX11_count_0 13 rfl
theorem dX11_count_82 : decode cX11_count 82 = .ok (.getfield 10, 3) := all_at dvX11_count_0 14 rfl
theorem dX11_count_85 : decode cX11_count 85 = .ok (.getfield 167, 3) := all_at dvX11_count_0 15 rfl
theorem dX11_count_88 : decode cX11_count 88 = .ok (.ireturn, 1) := all_at dvX11_count_0 16 rfl
theorem dX11_count_89 : decode cX11_count 89 = .ok (.aload_n 0, 1) := all_at dvX11_count_0 17 rfl
theorem dX11_count_90 : decode cX11_count 90 = .ok (.getfield 19, 3) := all_at dvX11_count_0 18 rfl
theorem dX11_count_93 : decode cX11_count 93 = .ok (.getfield 134, 3) := all_at dvX11_count_0 19 rfl
theorem dX11_count_96 : decode cX11_count 96 = .ok (.ireturn, 1) := all_at dvX11_count_0 20 rfl
theorem dX11_count_97 : decode cX11_count 97 = .ok (.aload_n 0, 1) := all_at dvX11_count_0 21 rfl
theorem dX11_count_98 : decode cX11_count 98 = .ok (.getfield 33, 3) := all_at dvX11_count_0 22 rfl
theorem dX11_count_101 : decode cX11_count 101 = .ok (.getfield 170, 3) := all_at dvX11_count_0 23 rfl
set_option maxRecDepth 100000 in
theorem dvX11_count_104 : ([(104, .ireturn, 1), (105, .aload_n 0, 1), (106, .getfield 81, 3), (109, .getfield 171, 3), (112, .ireturn, 1), (113, .aload_n 0, 1), (114, .iconst 1, 1), (115, .invokevirtual 172, 3), (118, .ireturn, 1), (119, .aload_n 0, 1), (120, .iconst 2, 1), (121, .invokevirtual 172, 3), (124, .ireturn, 1), (125, .aload_n 0, 1), (126, .getfield 42, 3), (129, .getfield 175, 3), (132, .ireturn, 1), (133, .aload_n 0, 1), (134, .invokevirtual 178, 3), (137, .ireturn, 1), (138, .ldc 93, 2), (140, .ireturn, 1)] : List (Nat × Instr × Nat)).all (fun q => decide (decode cX11_count q.1 = .ok (q.2.1, q.2.2))) = true := by decide +kernel
theorem dX11_count_104 : decode cX11_count 104 = .ok (.ireturn, 1) := all_at dvX11_count_104 0 rfl
theorem dX11_count_105 : decode cX11_count 105 = .ok (.aload_n 0, 1) := all_at dvX11_count_104 1 rfl
theorem dX11_count_106 : decode cX11_count 106 = .ok (.getfield 81, 3) := all_at dvX11_count_104 2 rfl
theorem dX11_count_109 : decode cX11_count 109 = .ok (.getfield 171, 3) := all_at dvX11_count_104 3 rfl
theorem dX11_count_112 : decode cX11_count 112 = .ok (.ireturn, 1) := all_at dvX11_count_104 4 rfl
theorem dX11_count_113 : decode cX11_count 113 = .ok (.aload_n 0, 1) := all_at dvX11_count_104 5 rfl
theorem dX11_count_114 : decode cX11_count 114 = .ok (.iconst 1, 1) := all_at dvX11_count_104 6 rfl
theorem dX11_count_115 : decode cX11_count 115 = .ok (.invokevirtual 172, 3) := all_at dvX11_count_104 7 rfl
theorem dX11_count_118 : decode cX11_count 118 = .ok (.ireturn, 1) := all_at dvX11_count_104 8 rfl
theorem dX11_count_119 : decode cX11_count 119 = .ok (.aload_n 0, 1) := all_at dvX11_count_104 9 rfl
theorem dX11_count_120 : decode cX11_count 120 = .ok (.iconst 2, 1) := all_at dvX11_count_104 10 rfl
theorem dX11_count_121 : decode cX11_count 121 = .ok (.invokevirtual 172, 3) := all_at dvX11_count_104 11 rfl
theorem dX11_count_124 : decode cX11_count 124 = .ok (.ireturn, 1) := all_at dvX11_count_104 12 rfl
theorem dX11_count_125 : decode cX11_count 125 = .ok (.aload_n 0, 1) := all_at dvX11_count_104 13 rfl
theorem dX11_count_126 : decode cX11_count 126 = .ok (.getfield 42, 3) := all_at dvX11_count_104 14 rfl
theorem dX11_count_129 : decode cX11_count 129 = .ok (.getfield 175, 3) := all_at dvX11_count_104 15 rfl
theorem dX11_count_132 : decode cX11_count 132 = .ok (.ireturn, 1) := all_at dvX11_count_104 16 rfl
theorem dX11_count_133 : decode cX11_count 133 = .ok (.aload_n 0, 1) := all_at dvX11_count_104 17 rfl
theorem dX11_count_134 : decode cX11_count 134 = .ok (.invokevirtual 178, 3) := all_at dvX11_count_104 18 rfl
theorem dX11_count_137 : decode cX11_count 137 = .ok (.ireturn, 1) := all_at dvX11_count_104 19 rfl
theorem dX11_count_138 : decode cX11_count 138 = .ok (.ldc 93, 2) := all_at dvX11_count_104 20 rfl
theorem dX11_count_140 : decode cX11_count 140 = .ok (.ireturn, 1) := all_at dvX11_count_104 21 rfl
set_option maxRecDepth 100000 in
theorem dvX11_feed_0 : ([(0, .iload_n 1, 1), (1, .iconst 1, 1), (2, .bipush 8, 2), (4, .invokestatic 89, 3), (7, .ifCond .ne 6, 3), (10, .ldc 93, 2), (12, .ireturn, 1), (13, .aload_n 0, 1), (14, .getfield 42, 3), (17, .getfield 175, 3), (20, .iload_n 1, 1), (21, .iadd, 1), (22, .sipush 200, 3), (25, .if_icmp .le 8, 3), (28, .ldc 99, 2), (30, .goto 12, 3), (33, .aload_n 0, 1), (34, .getfield 42, 3), (37, .iload_n 1, 1), (38, .lload_n 2, 1), (39, .invokevirtual 197, 3), (42, .ireturn, 1)] : List (Nat × Instr × Nat)).all (fun q => decide (decode cX11_feed q.1 = .ok (q.2.1, q.2.2))) = true := by decide +kernel
theorem dX11_feed_0 : decode cX11_feed 0 = .ok (.iload_n 1, 1) := all_at dvX11_feed_0 0 rfl
theorem dX11_feed_1 : decode cX11_feed 1 = .ok (.iconst 1, 1) := all_at dvX11_feed_0 1 rfl
theorem dX11_feed_2 : decode cX11_feed 2 = .ok (.bipush 8, 2) := all_at dvX11_feed_0 2 rfl
theorem dX11_feed_4 : decode cX11_feed 4 = .ok (.invokestatic 89, 3) := all_at dvX11_feed_0 3 rfl
theorem dX11_feed_7 : decode cX11_feed 7 = .ok (.ifCond .ne 6, 3) := all_at dvX11_feed_0 4 rfl
theorem dX11_feed_10 : decode cX11_feed 10 = .ok (.ldc 93, 2) := all_at dvX11_feed_0 5 rfl
theorem dX11_feed_12 : decode cX11_feed 12 = .ok (.ireturn, 1) := all_at dvX11_feed_0 6 rfl
theorem dX11_feed_13 : decode cX11_feed 13 = .ok (.aload_n 0, 1) := all_at dvX11_feed_0 7 rfl
theorem dX11_feed_14 : decode cX11_feed 14 = .ok (.getfield 42, 3) := all_at dvX11_feed_0 8 rfl
theorem dX11_feed_17 : decode cX11_feed 17 = .ok (.getfield 175, 3) := all_at dvX11_feed_0 9 rfl
theorem dX11_feed_20 : decode cX11_feed 20 = .ok (.iload_n 1, 1) := all_at dvX11_feed_0 10 rfl
theorem dX11_feed_21 : decode cX11_feed 21 = .ok (.iadd, 1) := all_at dvX11_feed_0 11 rfl
theorem dX11_feed_22 : decode cX11_feed 22 = .ok (.sipush 200, 3) := all_at dvX11_feed_0 12 rfl
theorem dX11_feed_25 : decode cX11_feed 25 = .ok (.if_icmp .le 8, 3) := all_at dvX11_feed_0 13 rfl
theorem dX11_feed_28 : decode cX11_feed 28 = .ok (.ldc 99, 2) := all_at dvX11_feed_0 14 rfl
theorem dX11_feed_30 : decode cX11_feed 30 = .ok (.goto 12, 3) := all_at dvX11_feed_0 15 rfl
theorem dX11_feed_33 : decode cX11_feed 33 = .ok (.aload_n 0, 1) := all_at dvX11_feed_0 16 rfl
theorem dX11_feed_34 : decode cX11_feed 34 = .ok (.getfield 42, 3) := all_at dvX11_feed_0 17 rfl
theorem dX11_feed_37 : decode cX11_feed 37 = .ok (.iload_n 1, 1) := all_at dvX11_feed_0 18 rfl
theorem dX11_feed_38 : decode cX11_feed 38 = .ok (.lload_n 2, 1) := all_at dvX11_feed_0 19 rfl
theorem dX11_feed_39 : decode cX11_feed 39 = .ok (.invokevirtual 197, 3) := all_at dvX11_feed_0 20 rfl
theorem dX11_feed_42 : decode cX11_feed 42 = .ok (.ireturn, 1) := all_at dvX11_feed_0 21 rfl
set_option maxRecDepth 100000 in
theorem dvX11_fees_0 : ([(0, .iconst 0, 1), (1, .istore_n 1, 1), (2, .iconst 0, 1), (3, .istore_n 2, 1), (4, .iload_n 2, 1), (5, .aload_n 0, 1), (6, .getfield 81, 3), (9, .getfield 171, 3), (12, .if_icmp .ge 53, 3), (15, .aload_n 0, 1), (16, .getfield 81, 3), (19, .iload_n 2, 1), (20, .invokevirtual 185, 3), (23, .ifCond .eq 36, 3), (26, .aload_n 0, 1), (27, .getfield 81, 3), (30, .getfield 188, 3), (33, .iload_n 2, 1), (34, .iaload, 1), (35, .iconst (-1), 1), (36, .if_icmp .ne 23, 3), (39, .iload_n 1, 1), (40, .aload_n 0, 1), (41, .getfield 33, 3)] : List (Nat × Instr × Nat)).all (fun q => decide (decode cX11_fees q.1 = .ok (q.2.1, q.2.2))) = true := by decide +kernel
theorem dX11_fees_0 : decode cX11_fees 0 = .ok (.iconst 0, 1) := all_at dvX11_fees_0 0 rfl
theorem dX11_fees_1 : decode cX11_fees 1 = .ok (.istore_n 1, 1) := all_at dvX11_fees_0 1 rfl
theorem dX11_fees_2 : decode cX11_fees 2 = .ok (.iconst 0, 1) := all_at dvX11_fees_0 2 rfl
theorem dX11_fees_3 : decode cX11_fees 3 = .ok (.istore_n 2, 1) := all_at dvX11_fees_0 3 rfl
theorem dX11_fees_4 : decode cX11_fees 4 = .ok (.iload_n 2, 1) := all_at dvX11_fees_0 4 rfl
theorem dX11_fees_5 : decode cX11_fees 5 = .ok (.aload_n 0, 1) := all_at dvX11_fees_0 5 rfl
theorem dX11_fees_6 : decode cX11_fees 6 = .ok (.getfield 81, 3) := all_at dvX11_fees_0 6 rfl
theorem dX11_fees_9 : decode cX11_fees 9 = .ok (.getfield 171, 3) := all_at dvX11_fees_0 7 rfl
theorem dX11_fees_12 : decode cX11_fees 12 = .ok (.if_icmp .ge 53, 3) := all_at dvX11_fees_0 8 rfl
theorem dX11_fees_15 : decode cX11_fees 15 = .ok (.aload_n 0, 1) := all_at dvX11_fees_0 9 rfl
theorem dX11_fees_16 : decode cX11_fees 16 = .ok (.getfield 81, 3) := all_at dvX11_fees_0 10 rfl
theorem dX11_fees_19 : decode cX11_fees 19 = .ok (.iload_n 2, 1) := all_at dvX11_fees_0 11 rfl
theorem dX11_fees_20 : decode cX11_fees 20 = .ok (.invokevirtual 185, 3) := all_at dvX11_fees_0 12 rfl
theorem dX11_fees_23 : decode cX11_fees 23 = .ok (.ifCond .eq 36, 3) := all_at dvX11_fees_0 13 rfl
theorem dX11_fees_26 : decode cX11_fees 26 = .ok (.aload_n 0, 1) := all_at dvX11_fees_0 14 rfl
theorem dX11_fees_27 : decode cX11_fees 27 = .ok (.getfield 81, 3) := all_at dvX11_fees_0 15 rfl
theorem dX11_fees_30 : decode cX11_fees 30 = .ok (.getfield 188, 3) := all_at dvX11_fees_0 16 rfl
theorem dX11_fees_33 : decode cX11_fees 33 = .ok (.iload_n 2, 1) := all_at dvX11_fees_0 17 rfl
theorem dX11_fees_34 : decode cX11_fees 34 = .ok (.iaload, 1) := all_at dvX11_fees_0 18 rfl
theorem dX11_fees_35 : decode cX11_fees 35 = .ok (.iconst (-1), 1) := all_at dvX11_fees_0 19 rfl
theorem dX11_fees_36 : decode cX11_fees 36 = .ok (.if_icmp .ne 23, 3) := all_at dvX11_fees_0 20 rfl
theorem dX11_fees_39 : decode cX11_fees 39 = .ok (.iload_n 1, 1) := all_at dvX11_fees_0 21 rfl
theorem dX11_fees_40 : decode cX11_fees 40 = .ok (.aload_n 0, 1) := all_at dvX11_fees_0 22 rfl
theorem dX11_fees_41 : decode cX11_fees 41 = .ok (.getfield 33, 3) := all_at dvX11_fees_0 23 rfl
set_option maxRecDepth 100000 in
theorem dvX11_fees_44 : ([(44, .iconst 4, 1), (45, .aload_n 0, 1), (46, .getfield 81, 3), (49, .getfield 191, 3), (52, .iload_n 2, 1), (53, .iaload, 1), (54, .invokevirtual 194, 3), (57, .iadd, 1), (58, .istore_n 1, 1), (59, .iinc 2 1, 3), (62, .goto (-58), 3), (65, .iload_n 1, 1), (66, .ireturn, 1)] : List (Nat × Instr × Nat)).all (fun q => decide (decode cX11_fees q.1 = .ok (q.2.1, q.2.2))) = true := by decide +kernel
theorem dX11_fees_44 : decode cX11_fees 44 = .ok (.iconst 4, 1) := all_at dvX11_fees_44 0 rfl
theorem dX11_fees_45 : decode cX11_fees 45 = .ok (.aload_n 0, 1) := all_at dvX11_fees_44 1 rfl
theorem dX11_fees_46 : decode cX11_fees 46 = .ok (.getfield 81, 3) := all_at dvX11_fees_44 2 rfl
theorem dX11_fees_49 : decode cX11_fees 49 = .ok (.getfield 191, 3) := all_at dvX11_fees_44 3 rfl
theorem dX11_fees_52 : decode cX11_fees 52 = .ok (.iload_n 2, 1) := all_at dvX11_fees_44 4 rfl
theorem dX11_fees_53 : decode cX11_fees 53 = .ok (.iaload, 1) := all_at dvX11_fees_44 5 rfl
theorem dX11_fees_54 : decode cX11_fees 54 = .ok (.invokevirtual 194, 3) := all_at dvX11_fees_44 6 rfl
theorem dX11_fees_57 : decode cX11_fees 57 = .ok (.iadd, 1) := all_at dvX11_fees_44 7 rfl
theorem dX11_fees_58 : decode cX11_fees 58 = .ok (.istore_n 1, 1) := all_at dvX11_fees_44 8 rfl
theorem dX11_fees_59 : decode cX11_fees 59 = .ok (.iinc 2 1, 3) := all_at dvX11_fees_44 9 rfl
theorem dX11_fees_62 : decode cX11_fees 62 = .ok (.goto (-58), 3) := all_at dvX11_fees_44 10 rfl
theorem dX11_fees_65 : decode cX11_fees 65 = .ok (.iload_n 1, 1) := all_at dvX11_fees_44 11 rfl
theorem dX11_fees_66 : decode cX11_fees 66 = .ok (.ireturn, 1) := all_at dvX11_fees_44 12 rfl
set_option maxRecDepth 100000 in
theorem dvX11_force_0 : ([(0, .iload_n 1, 1), (1, .iconst 0, 1), (2, .iconst 5, 1), (3, .invokestatic 89, 3), (6, .ifCond .eq 14, 3), (9, .iload_n 2, 1), (10, .iconst 0, 1), (11, .sipush 3000, 3), (14, .invokestatic 89, 3), (17, .ifCond .ne 6, 3), (20, .ldc 93, 2), (22, .ireturn, 1), (23, .aload_n 0, 1), (24, .getfield 33, 3), (27, .iload_n 1, 1), (28, .iload_n 2, 1), (29, .invokevirtual 194, 3), (32, .ireturn, 1)] : List (Nat × Instr × Nat)).all (fun q => decide (decode cX11_force q.1 = .ok (q.2.1, q.2.2))) = true := by decide +kernel
theorem dX11_force_0 : decode cX11_force 0 = .ok (.iload_n 1, 1) := all_at dvX11_force_0 0 rfl
theorem dX11_force_1 : decode cX11_force 1 = .ok (.iconst 0, 1) := all_at dvX11_force_0 1 rfl
theorem dX11_force_2 : decode cX11_force 2 = .ok (.iconst 5, 1) := all_at dvX11_force_0 2 rfl
theorem dX11_force_3 : decode cX11_force 3 = .ok (.invokestatic 89, 3) := all_at dvX11_force_0 3 rfl
theorem dX11_force_6 : decode cX11_force 6 = .ok (.ifCond .eq 14, 3) := all_at dvX11_force_0 4 rfl
theorem dX11_force_9 : decode cX11_force 9 = .ok (.iload_n 2, 1) := all_at dvX11_force_0 5 rfl
theorem dX11_force_10 : decode cX11_force 10 = .ok (.iconst 0, 1) := all_at dvX11_force_0 6 rfl
theorem dX11_force_11 : decode cX11_force 11 = .ok (.sipush 3000, 3) := all_at dvX11_force_0 7 rfl
theorem dX11_force_14 : decode cX11_force 14 = .ok (.invokestatic 89, 3) := all_at dvX11_force_0 8 rfl
theorem dX11_force_17 : decode cX11_force 17 = .ok (.ifCond .ne 6, 3) := all_at dvX11_force_0 9 rfl
theorem dX11_force_20 : decode cX11_force 20 = .ok (.ldc 93, 2) := all_at dvX11_force_0 10 rfl
theorem dX11_force_22 : decode cX11_force 22 = .ok (.ireturn, 1) := all_at dvX11_force_0 11 rfl
theorem dX11_force_23 : decode cX11_force 23 = .ok (.aload_n 0, 1) := all_at dvX11_force_0 12 rfl
theorem dX11_force_24 : decode cX11_force 24 = .ok (.getfield 33, 3) := all_at dvX11_force_0 13 rfl
theorem dX11_force_27 : decode cX11_force 27 = .ok (.iload_n 1, 1) := all_at dvX11_force_0 14 rfl
theorem dX11_force_28 : decode cX11_force 28 = .ok (.iload_n 2, 1) := all_at dvX11_force_0 15 rfl
theorem dX11_force_29 : decode cX11_force 29 = .ok (.invokevirtual 194, 3) := all_at dvX11_force_0 16 rfl
theorem dX11_force_32 : decode cX11_force 32 = .ok (.ireturn, 1) := all_at dvX11_force_0 17 rfl
set_option maxRecDepth 100000 in
theorem dvX11_greatestDivisor_0 : ([(0, .iconst 0, 1), (1, .istore 4, 2), (3, .iload 4, 2), (5, .bipush 100, 2), (7, .if_icmp .ge 25, 3), (10, .lload_n 2, 1), (11, .lconst 0, 1), (12, .lcmp, 1), (13, .ifCond .eq 19, 3), (16, .lload_n 0, 1), (17, .lload_n 2, 1), (18, .lrem, 1), (19, .lstore 5, 2), (21, .lload_n 2, 1), (22, .lstore_n 0, 1), (23, .lload 5, 2), (25, .lstore_n 2, 1), (26, .iinc 4 1, 3), (29, .goto (-26), 3), (32, .lload_n 0, 1), (33, .lreturn, 1)] : List (Nat × Instr × Nat)).all (fun q => decide (decode cX11_greatestDivisor q.1 = .ok (q.2.1, q.2.2))) = true := by decide +kernel
theorem dX11_greatestDivisor_0 : decode cX11_greatestDivisor 0 = .ok (.iconst 0, 1) := all_at dvX11_greatestDivisor_0 0 rfl
theorem dX11_greatestDivisor_1 : decode cX11_greatestDivisor 1 = .ok (.istore 4, 2) := all_at dvX11_greatestDivisor_0 1 rfl
theorem dX11_greatestDivisor_3 : decode cX11_greatestDivisor 3 = .ok (.iload 4, 2) := all_at dvX11_greatestDivisor_0 2 rfl
theorem dX11_greatestDivisor_5 : decode cX11_greatestDivisor 5 = .ok (.bipush 100, 2) := all_at dvX11_greatestDivisor_0 3 rfl
theorem dX11_greatestDivisor_7 : decode cX11_greatestDivisor 7 = .ok (.if_icmp .ge 25, 3) := all_at dvX11_greatestDivisor_0 4 rfl
theorem dX11_greatestDivisor_10 : decode cX11_greatestDivisor 10 = .ok (.lload_n 2, 1) := all_at dvX11_greatestDivisor_0 5 rfl
theorem dX11_greatestDivisor_11 : decode cX11_greatestDivisor 11 = .ok (.lconst 0, 1) := all_at dvX11_greatestDivisor_0 6 rfl
theorem dX11_greatestDivisor_12 : decode cX11_greatestDivisor 12 = .ok (.lcmp, 1) := all_at dvX11_greatestDivisor_0 7 rfl
theorem dX11_greatestDivisor_13 : decode cX11_greatestDivisor 13 = .ok (.ifCond .eq 19, 3) := all_at dvX11_greatestDivisor_0 8 rfl
theorem dX11_greatestDivisor_16 : decode cX11_greatestDivisor 16 = .ok (.lload_n 0, 1) := all_at dvX11_greatestDivisor_0 9 rfl
theorem dX11_greatestDivisor_17 : decode cX11_greatestDivisor 17 = .ok (.lload_n 2, 1) := all_at dvX11_greatestDivisor_0 10 rfl
theorem dX11_greatestDivisor_18 : decode cX11_greatestDivisor 18 = .ok (.lrem, 1) := all_at dvX11_greatestDivisor_0 11 rfl
theorem dX11_greatestDivisor_19 : decode cX11_greatestDivisor 19 = .ok (.lstore 5, 2) := all_at dvX11_greatestDivisor_0 12 rfl
theorem dX11_greatestDivisor_21 : decode cX11_greatestDivisor 21 = .ok (.lload_n 2, 1) := all_at dvX11_greatestDivisor_0 13 rfl
theorem dX11_greatestDivisor_22 : decode cX11_greatestDivisor 22 = .ok (.lstore_n 0, 1) := all_at dvX11_greatestDivisor_0 14 rfl
theorem dX11_greatestDivisor_23 : decode cX11_greatestDivisor 23 = .ok (.lload 5, 2) := all_at dvX11_greatestDivisor_0 15 rfl
theorem dX11_greatestDivisor_25 : decode cX11_greatestDivisor 25 = .ok (.lstore_n 2, 1) := all_at dvX11_greatestDivisor_0 16 rfl
theorem dX11_greatestDivisor_26 : decode cX11_greatestDivisor 26 = .ok (.iinc 4 1, 3) := all_at dvX11_greatestDivisor_0 17 rfl
theorem dX11_greatestDivisor_29 : decode cX11_greatestDivisor 29 = .ok (.goto (-26), 3) := all_at dvX11_greatestDivisor_0 18 rfl
theorem dX11_greatestDivisor_32 : decode cX11_greatestDivisor 32 = .ok (.lload_n 0, 1) := all_at dvX11_greatestDivisor_0 19 rfl
theorem dX11_greatestDivisor_33 : decode cX11_greatestDivisor 33 = .ok (.lreturn, 1) := all_at dvX11_greatestDivisor_0 20 rfl
set_option maxRecDepth 100000 in
theorem dvX11_houses_0 : ([(0, .iload_n 1, 1), (1, .iconst 0, 1), (2, .iconst 2, 1), (3, .invokestatic 89, 3), (6, .ifCond .ne 6, 3), (9, .ldc 93, 2), (11, .ireturn, 1), (12, .aload_n 0, 1), (13, .getfield 74, 3), (16, .getfield 320, 3), (19, .ifCond .ne 6, 3), (22, .ldc 94, 2), (24, .ireturn, 1), (25, .aload_n 0, 1), (26, .getfield 74, 3), (29, .invokevirtual 324, 3), (32, .istore_n 2, 1), (33, .iload_n 1, 1), (34, .iconst 2, 1), (35, .if_icmp .ne 5, 3), (38, .iload_n 2, 1), (39, .ireturn, 1), (40, .iload_n 1, 1), (41, .ifCond .ne 14, 3)] : List (Nat × Instr × Nat)).all (fun q => decide (decode cX11_houses q.1 = .ok (q.2.1, q.2.2))) = true := by decide +kernel
theorem dX11_houses_0 : decode cX11_houses 0 = .ok (.iload_n 1, 1) := all_at dvX11_houses_0 0 rfl
theorem dX11_houses_1 : decode cX11_houses 1 = .ok (.iconst 0, 1) := all_at dvX11_houses_0 1 rfl
theorem dX11_houses_2 : decode cX11_houses 2 = .ok (.iconst 2, 1) := all_at dvX11_houses_0 2 rfl
theorem dX11_houses_3 : decode cX11_houses 3 = .ok (.invokestatic 89, 3) := all_at dvX11_houses_0 3 rfl
theorem dX11_houses_6 : decode cX11_houses 6 = .ok (.ifCond .ne 6, 3) := all_at dvX11_houses_0 4 rfl
theorem dX11_houses_9 : decode cX11_houses 9 = .ok (.ldc 93, 2) := all_at dvX11_houses_0 5 rfl
theorem dX11_houses_11 : decode cX11_houses 11 = .ok (.ireturn, 1) := all_at dvX11_houses_0 6 rfl
theorem dX11_houses_12 : decode cX11_houses 12 = .ok (.aload_n 0, 1) := all_at dvX11_houses_0 7 rfl
theorem dX11_houses_13 : decode cX11_houses 13 = .ok (.getfield 74, 3) := all_at dvX11_houses_0 8 rfl
theorem dX11_houses_16 : decode cX11_houses 16 = .ok (.getfield 320, 3) := all_at dvX11_houses_0 9 rfl
theorem dX11_houses_19 : decode cX11_houses 19 = .ok (.ifCond .ne 6, 3) := all_at dvX11_houses_0 10 rfl
theorem dX11_houses_22 : decode cX11_houses 22 = .ok (.ldc 94, 2) := all_at dvX11_houses_0 11 rfl
theorem dX11_houses_24 : decode cX11_houses 24 = .ok (.ireturn, 1) := all_at dvX11_houses_0 12 rfl
theorem dX11_houses_25 : decode cX11_houses 25 = .ok (.aload_n 0, 1) := all_at dvX11_houses_0 13 rfl
theorem dX11_houses_26 : decode cX11_houses 26 = .ok (.getfield 74, 3) := all_at dvX11_houses_0 14 rfl
theorem dX11_houses_29 : decode cX11_houses 29 = .ok (.invokevirtual 324, 3) := all_at dvX11_houses_0 15 rfl
theorem dX11_houses_32 : decode cX11_houses 32 = .ok (.istore_n 2, 1) := all_at dvX11_houses_0 16 rfl
theorem dX11_houses_33 : decode cX11_houses 33 = .ok (.iload_n 1, 1) := all_at dvX11_houses_0 17 rfl
theorem dX11_houses_34 : decode cX11_houses 34 = .ok (.iconst 2, 1) := all_at dvX11_houses_0 18 rfl
theorem dX11_houses_35 : decode cX11_houses 35 = .ok (.if_icmp .ne 5, 3) := all_at dvX11_houses_0 19 rfl
theorem dX11_houses_38 : decode cX11_houses 38 = .ok (.iload_n 2, 1) := all_at dvX11_houses_0 20 rfl
theorem dX11_houses_39 : decode cX11_houses 39 = .ok (.ireturn, 1) := all_at dvX11_houses_0 21 rfl
theorem dX11_houses_40 : decode cX11_houses 40 = .ok (.iload_n 1, 1) := all_at dvX11_houses_0 22 rfl
theorem dX11_houses_41 : decode cX11_houses 41 = .ok (.ifCond .ne 14, 3) := all_at dvX11_houses_0 23 rfl
set_option maxRecDepth 100000 in
theorem dvX11_houses_44 : ([(44, .aload_n 0, 1), (45, .getfield 74, 3), (48, .iload_n 2, 1), (49, .invokevirtual 327, 3), (52, .goto 11, 3), (55, .aload_n 0, 1), (56, .getfield 74, 3), (59, .iload_n 2, 1), (60, .invokevirtual 330, 3), (63, .ireturn, 1)] : List (Nat × Instr × Nat)).all (fun q => decide (decode cX11_houses q.1 = .ok (q.2.1, q.2.2))) = true := by decide +kernel
theorem dX11_houses_44 : decode cX11_houses 44 = .ok (.aload_n 0, 1) := all_at dvX11_houses_44 0 rfl
theorem dX11_houses_45 : decode cX11_houses 45 = .ok (.getfield 74, 3) := all_at dvX11_houses_44 1 rfl
theorem dX11_houses_48 : decode cX11_houses 48 = .ok (.iload_n 2, 1) := all_at dvX11_houses_44 2 rfl
theorem dX11_houses_49 : decode cX11_houses 49 = .ok (.invokevirtual 327, 3) := all_at dvX11_houses_44 3 rfl
theorem dX11_houses_52 : decode cX11_houses 52 = .ok (.goto 11, 3) := all_at dvX11_houses_44 4 rfl
theorem dX11_houses_55 : decode cX11_houses 55 = .ok (.aload_n 0, 1) := all_at dvX11_houses_44 5 rfl
theorem dX11_houses_56 : decode cX11_houses 56 = .ok (.getfield 74, 3) := all_at dvX11_houses_44 6 rfl
theorem dX11_houses_59 : decode cX11_houses 59 = .ok (.iload_n 2, 1) := all_at dvX11_houses_44 7 rfl
theorem dX11_houses_60 : decode cX11_houses 60 = .ok (.invokevirtual 330, 3) := all_at dvX11_houses_44 8 rfl
theorem dX11_houses_63 : decode cX11_houses 63 = .ok (.ireturn, 1) := all_at dvX11_houses_44 9 rfl
set_option maxRecDepth 100000 in
theorem dvX11_inLeastTerms_0 : ([(0, .lload_n 0, 1), (1, .lload_n 2, 1), (2, .invokestatic 371, 3), (5, .lstore 5, 2), (7, .iload 4, 2), (9, .ifCond .ne 7, 3), (12, .lload_n 0, 1), (13, .goto 4, 3), (16, .lload_n 2, 1), (17, .lstore 7, 2), (19, .lload 5, 2), (21, .lconst 0, 1), (22, .lcmp, 1), (23, .ifCond .ne 8, 3), (26, .lload 7, 2), (28, .goto 8, 3), (31, .lload 7, 2), (33, .lload 5, 2), (35, .ldiv, 1), (36, .lreturn, 1)] : List (Nat × Instr × Nat)).all (fun q => decide (decode cX11_inLeastTerms q.1 = .ok (q.2.1, q.2.2))) = true := by decide +kernel
theorem dX11_inLeastTerms_0 : decode cX11_inLeastTerms 0 = .ok (.lload_n 0, 1) := all_at dvX11_inLeastTerms_0 0 rfl
theorem dX11_inLeastTerms_1 : decode cX11_inLeastTerms 1 = .ok (.lload_n 2, 1) := all_at dvX11_inLeastTerms_0 1 rfl
theorem dX11_inLeastTerms_2 : decode cX11_inLeastTerms 2 = .ok (.invokestatic 371, 3) := all_at dvX11_inLeastTerms_0 2 rfl
theorem dX11_inLeastTerms_5 : decode cX11_inLeastTerms 5 = .ok (.lstore 5, 2) := all_at dvX11_inLeastTerms_0 3 rfl
theorem dX11_inLeastTerms_7 : decode cX11_inLeastTerms 7 = .ok (.iload 4, 2) := all_at dvX11_inLeastTerms_0 4 rfl
theorem dX11_inLeastTerms_9 : decode cX11_inLeastTerms 9 = .ok (.ifCond .ne 7, 3) := all_at dvX11_inLeastTerms_0 5 rfl
theorem dX11_inLeastTerms_12 : decode cX11_inLeastTerms 12 = .ok (.lload_n 0, 1) := all_at dvX11_inLeastTerms_0 6 rfl
theorem dX11_inLeastTerms_13 : decode cX11_inLeastTerms 13 = .ok (.goto 4, 3) := all_at dvX11_inLeastTerms_0 7 rfl
theorem dX11_inLeastTerms_16 : decode cX11_inLeastTerms 16 = .ok (.lload_n 2, 1) := all_at dvX11_inLeastTerms_0 8 rfl
theorem dX11_inLeastTerms_17 : decode cX11_inLeastTerms 17 = .ok (.lstore 7, 2) := all_at dvX11_inLeastTerms_0 9 rfl
theorem dX11_inLeastTerms_19 : decode cX11_inLeastTerms 19 = .ok (.lload 5, 2) := all_at dvX11_inLeastTerms_0 10 rfl
theorem dX11_inLeastTerms_21 : decode cX11_inLeastTerms 21 = .ok (.lconst 0, 1) := all_at dvX11_inLeastTerms_0 11 rfl
theorem dX11_inLeastTerms_22 : decode cX11_inLeastTerms 22 = .ok (.lcmp, 1) := all_at dvX11_inLeastTerms_0 12 rfl
theorem dX11_inLeastTerms_23 : decode cX11_inLeastTerms 23 = .ok (.ifCond .ne 8, 3) := all_at dvX11_inLeastTerms_0 13 rfl
theorem dX11_inLeastTerms_26 : decode cX11_inLeastTerms 26 = .ok (.lload 7, 2) := all_at dvX11_inLeastTerms_0 14 rfl
theorem dX11_inLeastTerms_28 : decode cX11_inLeastTerms 28 = .ok (.goto 8, 3) := all_at dvX11_inLeastTerms_0 15 rfl
theorem dX11_inLeastTerms_31 : decode cX11_inLeastTerms 31 = .ok (.lload 7, 2) := all_at dvX11_inLeastTerms_0 16 rfl
theorem dX11_inLeastTerms_33 : decode cX11_inLeastTerms 33 = .ok (.lload 5, 2) := all_at dvX11_inLeastTerms_0 17 rfl
theorem dX11_inLeastTerms_35 : decode cX11_inLeastTerms 35 = .ok (.ldiv, 1) := all_at dvX11_inLeastTerms_0 18 rfl
theorem dX11_inLeastTerms_36 : decode cX11_inLeastTerms 36 = .ok (.lreturn, 1) := all_at dvX11_inLeastTerms_0 19 rfl
set_option maxRecDepth 100000 in
theorem dvX11_lawful_0 : ([(0, .aload_n 0, 1), (1, .getfield 26, 3), (4, .iload_n 1, 1), (5, .invokevirtual 104, 3), (8, .ifCond .ne 7, 3), (11, .ldc2_w 214, 3), (14, .lreturn, 1), (15, .iload_n 2, 1), (16, .iconst 0, 1), (17, .aload_n 0, 1), (18, .getfield 85, 3), (21, .invokestatic 89, 3), (24, .ifCond .eq 12, 3), (27, .iload_n 3, 1), (28, .iconst 0, 1), (29, .iconst 1, 1), (30, .invokestatic 89, 3), (33, .ifCond .ne 7, 3), (36, .ldc2_w 216, 3), (39, .lreturn, 1), (40, .aload_n 0, 1), (41, .getfield 51, 3), (44, .iload_n 1, 1), (45, .iload_n 2, 1)] : List (Nat × Instr × Nat)).all (fun q => decide (decode cX11_lawful q.1 = .ok (q.2.1, q.2.2))) = true := by decide +kernel
theorem dX11_lawful_0 : decode cX11_lawful 0 = .ok (.aload_n 0, 1) := all_at dvX11_lawful_0 0 rfl
theorem dX11_lawful_1 : decode cX11_lawful 1 = .ok (.getfield 26, 3) := all_at dvX11_lawful_0 1 rfl
theorem dX11_lawful_4 : decode cX11_lawful 4 = .ok (.iload_n 1, 1) := all_at dvX11_lawful_0 2 rfl
theorem dX11_lawful_5 : decode cX11_lawful 5 = .ok (.invokevirtual 104, 3) := all_at dvX11_lawful_0 3 rfl
theorem dX11_lawful_8 : decode cX11_lawful 8 = .ok (.ifCond .ne 7, 3) := all_at dvX11_lawful_0 4 rfl
theorem dX11_lawful_11 : decode cX11_lawful 11 = .ok (.ldc2_w 214, 3) := all_at dvX11_lawful_0 5 rfl
theorem dX11_lawful_14 : decode cX11_lawful 14 = .ok (.lreturn, 1) := all_at dvX11_lawful_0 6 rfl
theorem dX11_lawful_15 : decode cX11_lawful 15 = .ok (.iload_n 2, 1) := all_at dvX11_lawful_0 7 rfl
theorem dX11_lawful_16 : decode cX11_lawful 16 = .ok (.iconst 0, 1) := all_at dvX11_lawful_0 8 rfl
theorem dX11_lawful_17 : decode cX11_lawful 17 = .ok (.aload_n 0, 1) := all_at dvX11_lawful_0 9 rfl
theorem dX11_lawful_18 : decode cX11_lawful 18 = .ok (.getfield 85, 3) := all_at dvX11_lawful_0 10 rfl
theorem dX11_lawful_21 : decode cX11_lawful 21 = .ok (.invokestatic 89, 3) := all_at dvX11_lawful_0 11 rfl
theorem dX11_lawful_24 : decode cX11_lawful 24 = .ok (.ifCond .eq 12, 3) := all_at dvX11_lawful_0 12 rfl
theorem dX11_lawful_27 : decode cX11_lawful 27 = .ok (.iload_n 3, 1) := all_at dvX11_lawful_0 13 rfl
theorem dX11_lawful_28 : decode cX11_lawful 28 = .ok (.iconst 0, 1) := all_at dvX11_lawful_0 14 rfl
theorem dX11_lawful_29 : decode cX11_lawful 29 = .ok (.iconst 1, 1) := all_at dvX11_lawful_0 15 rfl
theorem dX11_lawful_30 : decode cX11_lawful 30 = .ok (.invokestatic 89, 3) := all_at dvX11_lawful_0 16 rfl
theorem dX11_lawful_33 : decode cX11_lawful 33 = .ok (.ifCond .ne 7, 3) := all_at dvX11_lawful_0 17 rfl
theorem dX11_lawful_36 : decode cX11_lawful 36 = .ok (.ldc2_w 216, 3) := all_at dvX11_lawful_0 18 rfl
theorem dX11_lawful_39 : decode cX11_lawful 39 = .ok (.lreturn, 1) := all_at dvX11_lawful_0 19 rfl
theorem dX11_lawful_40 : decode cX11_lawful 40 = .ok (.aload_n 0, 1) := all_at dvX11_lawful_0 20 rfl
theorem dX11_lawful_41 : decode cX11_lawful 41 = .ok (.getfield 51, 3) := all_at dvX11_lawful_0 21 rfl
theorem dX11_lawful_44 : decode cX11_lawful 44 = .ok (.iload_n 1, 1) := all_at dvX11_lawful_0 22 rfl
theorem dX11_lawful_45 : decode cX11_lawful 45 = .ok (.iload_n 2, 1) := all_at dvX11_lawful_0 23 rfl
set_option maxRecDepth 100000 in
theorem dvX11_lawful_46 : ([(46, .invokevirtual 182, 3), (49, .iconst 1, 1), (50, .if_icmp .eq 7, 3), (53, .ldc2_w 218, 3), (56, .lreturn, 1), (57, .aload_n 0, 1), (58, .getfield 51, 3), (61, .invokevirtual 220, 3), (64, .aload_n 0, 1), (65, .iload_n 1, 1), (66, .iload_n 2, 1), (67, .invokevirtual 224, 3), (70, .lmul, 1), (71, .aload_n 0, 1), (72, .getfield 51, 3), (75, .invokevirtual 228, 3), (78, .ldc2_w 231, 3), (81, .lmul, 1), (82, .iload_n 3, 1), (83, .invokestatic 163, 3), (86, .lreturn, 1)] : List (Nat × Instr × Nat)).all (fun q => decide (decode cX11_lawful q.1 = .ok (q.2.1, q.2.2))) = true := by decide +kernel
theorem dX11_lawful_46 : decode cX11_lawful 46 = .ok (.invokevirtual 182, 3) := all_at dvX11_lawful_46 0 rfl
theorem dX11_lawful_49 : decode cX11_lawful 49 = .ok (.iconst 1, 1) := all_at dvX11_lawful_46 1 rfl
theorem dX11_lawful_50 : decode cX11_lawful 50 = .ok (.if_icmp .eq 7, 3) := all_at dvX11_lawful_46 2 rfl
theorem dX11_lawful_53 : decode cX11_lawful 53 = .ok (.ldc2_w 218, 3) := all_at dvX11_lawful_46 3 rfl
theorem dX11_lawful_56 : decode cX11_lawful 56 = .ok (.lreturn, 1) := all_at dvX11_lawful_46 4 rfl
theorem dX11_lawful_57 : decode cX11_lawful 57 = .ok (.aload_n 0, 1) := all_at dvX11_lawful_46 5 rfl
theorem dX11_lawful_58 : decode cX11_lawful 58 = .ok (.getfield 51, 3) := all_at dvX11_lawful_46 6 rfl
theorem dX11_lawful_61 : decode cX11_lawful 61 = .ok (.invokevirtual 220, 3) := all_at dvX11_lawful_46 7 rfl
theorem dX11_lawful_64 : decode cX11_lawful 64 = .ok (.aload_n 0, 1) := all_at dvX11_lawful_46 8 rfl
theorem dX11_lawful_65 : decode cX11_lawful 65 = .ok (.iload_n 1, 1) := all_at dvX11_lawful_46 9 rfl
theorem dX11_lawful_66 : decode cX11_lawful 66 = .ok (.iload_n 2, 1) := all_at dvX11_lawful_46 10 rfl
theorem dX11_lawful_67 : decode cX11_lawful 67 = .ok (.invokevirtual 224, 3) := all_at dvX11_lawful_46 11 rfl
theorem dX11_lawful_70 : decode cX11_lawful 70 = .ok (.lmul, 1) := all_at dvX11_lawful_46 12 rfl
theorem dX11_lawful_71 : decode cX11_lawful 71 = .ok (.aload_n 0, 1) := all_at dvX11_lawful_46 13 rfl
theorem dX11_lawful_72 : decode cX11_lawful 72 = .ok (.getfield 51, 3) := all_at dvX11_lawful_46 14 rfl
theorem dX11_lawful_75 : decode cX11_lawful 75 = .ok (.invokevirtual 228, 3) := all_at dvX11_lawful_46 15 rfl
theorem dX11_lawful_78 : decode cX11_lawful 78 = .ok (.ldc2_w 231, 3) := all_at dvX11_lawful_46 16 rfl
theorem dX11_lawful_81 : decode cX11_lawful 81 = .ok (.lmul, 1) := all_at dvX11_lawful_46 17 rfl
theorem dX11_lawful_82 : decode cX11_lawful 82 = .ok (.iload_n 3, 1) := all_at dvX11_lawful_46 18 rfl
theorem dX11_lawful_83 : decode cX11_lawful 83 = .ok (.invokestatic 163, 3) := all_at dvX11_lawful_46 19 rfl
theorem dX11_lawful_86 : decode cX11_lawful 86 = .ok (.lreturn, 1) := all_at dvX11_lawful_46 20 rfl
set_option maxRecDepth 100000 in
theorem dvX11_loss_0 : ([(0, .aload_n 0, 1), (1, .getfield 51, 3), (4, .iload_n 1, 1), (5, .aload_n 0, 1), (6, .getfield 85, 3), (9, .invokevirtual 144, 3), (12, .aload_n 0, 1), (13, .getfield 51, 3), (16, .getfield 147, 3), (19, .getfield 160, 3), (22, .iconst 0, 1), (23, .laload, 1), (24, .lstore_n 2, 1), (25, .lload_n 2, 1), (26, .lconst 0, 1), (27, .lcmp, 1), (28, .ifCond .ne 7, 3), (31, .iconst 0, 1), (32, .goto 24, 3), (35, .ldc2_w 231, 3), (38, .lload_n 2, 1), (39, .aload_n 0, 1), (40, .getfield 51, 3), (43, .getfield 147, 3)] : List (Nat × Instr × Nat)).all (fun q => decide (decode cX11_loss q.1 = .ok (q.2.1, q.2.2))) = true := by decide +kernel
theorem dX11_loss_0 : decode cX11_loss 0 = .ok (.aload_n 0, 1) := all_at dvX11_loss_0 0 rfl
theorem dX11_loss_1 : decode cX11_loss 1 = .ok (.getfield 51, 3) := all_at dvX11_loss_0 1 rfl
theorem dX11_loss_4 : decode cX11_loss 4 = .ok (.iload_n 1, 1) := all_at dvX11_loss_0 2 rfl
theorem dX11_loss_5 : decode cX11_loss 5 = .ok (.aload_n 0, 1) := all_at dvX11_loss_0 3 rfl
theorem dX11_loss_6 : decode cX11_loss 6 = .ok (.getfield 85, 3) := all_at dvX11_loss_0 4 rfl
theorem dX11_loss_9 : decode cX11_loss 9 = .ok (.invokevirtual 144, 3) := all_at dvX11_loss_0 5 rfl
theorem dX11_loss_12 : decode cX11_loss 12 = .ok (.aload_n 0, 1) := all_at dvX11_loss_0 6 rfl
theorem dX11_loss_13 : decode cX11_loss 13 = .ok (.getfield 51, 3) := all_at dvX11_loss_0 7 rfl
theorem dX11_loss_16 : decode cX11_loss 16 = .ok (.getfield 147, 3) := all_at dvX11_loss_0 8 rfl
theorem dX11_loss_19 : decode cX11_loss 19 = .ok (.getfield 160, 3) := all_at dvX11_loss_0 9 rfl
theorem dX11_loss_22 : decode cX11_loss 22 = .ok (.iconst 0, 1) := all_at dvX11_loss_0 10 rfl
theorem dX11_loss_23 : decode cX11_loss 23 = .ok (.laload, 1) := all_at dvX11_loss_0 11 rfl
theorem dX11_loss_24 : decode cX11_loss 24 = .ok (.lstore_n 2, 1) := all_at dvX11_loss_0 12 rfl
theorem dX11_loss_25 : decode cX11_loss 25 = .ok (.lload_n 2, 1) := all_at dvX11_loss_0 13 rfl
theorem dX11_loss_26 : decode cX11_loss 26 = .ok (.lconst 0, 1) := all_at dvX11_loss_0 14 rfl
theorem dX11_loss_27 : decode cX11_loss 27 = .ok (.lcmp, 1) := all_at dvX11_loss_0 15 rfl
theorem dX11_loss_28 : decode cX11_loss 28 = .ok (.ifCond .ne 7, 3) := all_at dvX11_loss_0 16 rfl
theorem dX11_loss_31 : decode cX11_loss 31 = .ok (.iconst 0, 1) := all_at dvX11_loss_0 17 rfl
theorem dX11_loss_32 : decode cX11_loss 32 = .ok (.goto 24, 3) := all_at dvX11_loss_0 18 rfl
theorem dX11_loss_35 : decode cX11_loss 35 = .ok (.ldc2_w 231, 3) := all_at dvX11_loss_0 19 rfl
theorem dX11_loss_38 : decode cX11_loss 38 = .ok (.lload_n 2, 1) := all_at dvX11_loss_0 20 rfl
theorem dX11_loss_39 : decode cX11_loss 39 = .ok (.aload_n 0, 1) := all_at dvX11_loss_0 21 rfl
theorem dX11_loss_40 : decode cX11_loss 40 = .ok (.getfield 51, 3) := all_at dvX11_loss_0 22 rfl
theorem dX11_loss_43 : decode cX11_loss 43 = .ok (.getfield 147, 3) := all_at dvX11_loss_0 23 rfl
set_option maxRecDepth 100000 in
theorem dvX11_loss_46 : ([(46, .getfield 156, 3), (49, .iconst 0, 1), (50, .laload, 1), (51, .lsub, 1), (52, .lmul, 1), (53, .lload_n 2, 1), (54, .ldiv, 1), (55, .l2i, 1), (56, .ireturn, 1)] : List (Nat × Instr × Nat)).all (fun q => decide (decode cX11_loss q.1 = .ok (q.2.1, q.2.2))) = true := by decide +kernel
theorem dX11_loss_46 : decode cX11_loss 46 = .ok (.getfield 156, 3) := all_at dvX11_loss_46 0 rfl
theorem dX11_loss_49 : decode cX11_loss 49 = .ok (.iconst 0, 1) := all_at dvX11_loss_46 1 rfl
theorem dX11_loss_50 : decode cX11_loss 50 = .ok (.laload, 1) := all_at dvX11_loss_46 2 rfl
theorem dX11_loss_51 : decode cX11_loss 51 = .ok (.lsub, 1) := all_at dvX11_loss_46 3 rfl
theorem dX11_loss_52 : decode cX11_loss 52 = .ok (.lmul, 1) := all_at dvX11_loss_46 4 rfl
theorem dX11_loss_53 : decode cX11_loss 53 = .ok (.lload_n 2, 1) := all_at dvX11_loss_46 5 rfl
theorem dX11_loss_54 : decode cX11_loss 54 = .ok (.ldiv, 1) := all_at dvX11_loss_46 6 rfl
theorem dX11_loss_55 : decode cX11_loss 55 = .ok (.l2i, 1) := all_at dvX11_loss_46 7 rfl
theorem dX11_loss_56 : decode cX11_loss 56 = .ok (.ireturn, 1) := all_at dvX11_loss_46 8 rfl
set_option maxRecDepth 100000 in
theorem dvX11_moistened_0 : ([(0, .aload_n 0, 1), (1, .getfield 26, 3), (4, .getfield 233, 3), (7, .iload_n 1, 1), (8, .iaload, 1), (9, .i2l, 1), (10, .ldc2_w 231, 3), (13, .aload_n 0, 1), (14, .getfield 33, 3), (17, .iconst 0, 1), (18, .iload_n 2, 1), (19, .invokevirtual 194, 3), (22, .i2l, 1), (23, .ladd, 1), (24, .lmul, 1), (25, .lreturn, 1)] : List (Nat × Instr × Nat)).all (fun q => decide (decode cX11_moistened q.1 = .ok (q.2.1, q.2.2))) = true := by decide +kernel
theorem dX11_moistened_0 : decode cX11_moistened 0 = .ok (.aload_n 0, 1) := all_at dvX11_moistened_0 0 rfl
theorem dX11_moistened_1 : decode cX11_moistened 1 = .ok (.getfield 26, 3) := all_at dvX11_moistened_0 1 rfl
theorem dX11_moistened_4 : decode cX11_moistened 4 = .ok (.getfield 233, 3) := all_at dvX11_moistened_0 2 rfl
theorem dX11_moistened_7 : decode cX11_moistened 7 = .ok (.iload_n 1, 1) := all_at dvX11_moistened_0 3 rfl
theorem dX11_moistened_8 : decode cX11_moistened 8 = .ok (.iaload, 1) := all_at dvX11_moistened_0 4 rfl
theorem dX11_moistened_9 : decode cX11_moistened 9 = .ok (.i2l, 1) := all_at dvX11_moistened_0 5 rfl
theorem dX11_moistened_10 : decode cX11_moistened 10 = .ok (.ldc2_w 231, 3) := all_at dvX11_moistened_0 6 rfl
theorem dX11_moistened_13 : decode cX11_moistened 13 = .ok (.aload_n 0, 1) := all_at dvX11_moistened_0 7 rfl
theorem dX11_moistened_14 : decode cX11_moistened 14 = .ok (.getfield 33, 3) := all_at dvX11_moistened_0 8 rfl
theorem dX11_moistened_17 : decode cX11_moistened 17 = .ok (.iconst 0, 1) := all_at dvX11_moistened_0 9 rfl
theorem dX11_moistened_18 : decode cX11_moistened 18 = .ok (.iload_n 2, 1) := all_at dvX11_moistened_0 10 rfl
theorem dX11_moistened_19 : decode cX11_moistened 19 = .ok (.invokevirtual 194, 3) := all_at dvX11_moistened_0 11 rfl
theorem dX11_moistened_22 : decode cX11_moistened 22 = .ok (.i2l, 1) := all_at dvX11_moistened_0 12 rfl
theorem dX11_moistened_23 : decode cX11_moistened 23 = .ok (.ladd, 1) := all_at dvX11_moistened_0 13 rfl
theorem dX11_moistened_24 : decode cX11_moistened 24 = .ok (.lmul, 1) := all_at dvX11_moistened_0 14 rfl
theorem dX11_moistened_25 : decode cX11_moistened 25 = .ok (.lreturn, 1) := all_at dvX11_moistened_0 15 rfl
set_option maxRecDepth 100000 in
theorem dvX11_needed_0 : ([(0, .aload_n 0, 1), (1, .getfield 26, 3), (4, .iload_n 1, 1), (5, .invokevirtual 104, 3), (8, .ifCond .ne 6, 3), (11, .ldc 108, 2), (13, .ireturn, 1), (14, .iload_n 2, 1), (15, .iconst 1, 1), (16, .bipush 100, 2), (18, .invokestatic 89, 3), (21, .ifCond .ne 6, 3), (24, .ldc 93, 2), (26, .ireturn, 1), (27, .aload_n 0, 1), (28, .getfield 60, 3), (31, .iload_n 1, 1), (32, .aload_n 0, 1), (33, .getfield 85, 3), (36, .aload_n 0, 1), (37, .getfield 33, 3), (40, .iconst 2, 1), (41, .aload_n 0, 1), (42, .getfield 85, 3)] : List (Nat × Instr × Nat)).all (fun q => decide (decode cX11_needed q.1 = .ok (q.2.1, q.2.2))) = true := by decide +kernel
theorem dX11_needed_0 : decode cX11_needed 0 = .ok (.aload_n 0, 1) := all_at dvX11_needed_0 0 rfl
theorem dX11_needed_1 : decode cX11_needed 1 = .ok (.getfield 26, 3) := all_at dvX11_needed_0 1 rfl
theorem dX11_needed_4 : decode cX11_needed 4 = .ok (.iload_n 1, 1) := all_at dvX11_needed_0 2 rfl
theorem dX11_needed_5 : decode cX11_needed 5 = .ok (.invokevirtual 104, 3) := all_at dvX11_needed_0 3 rfl
theorem dX11_needed_8 : decode cX11_needed 8 = .ok (.ifCond .ne 6, 3) := all_at dvX11_needed_0 4 rfl
theorem dX11_needed_11 : decode cX11_needed 11 = .ok (.ldc 108, 2) := all_at dvX11_needed_0 5 rfl
theorem dX11_needed_13 : decode cX11_needed 13 = .ok (.ireturn, 1) := all_at dvX11_needed_0 6 rfl
theorem dX11_needed_14 : decode cX11_needed 14 = .ok (.iload_n 2, 1) := all_at dvX11_needed_0 7 rfl
theorem dX11_needed_15 : decode cX11_needed 15 = .ok (.iconst 1, 1) := all_at dvX11_needed_0 8 rfl
theorem dX11_needed_16 : decode cX11_needed 16 = .ok (.bipush 100, 2) := all_at dvX11_needed_0 9 rfl
theorem dX11_needed_18 : decode cX11_needed 18 = .ok (.invokestatic 89, 3) := all_at dvX11_needed_0 10 rfl
theorem dX11_needed_21 : decode cX11_needed 21 = .ok (.ifCond .ne 6, 3) := all_at dvX11_needed_0 11 rfl
theorem dX11_needed_24 : decode cX11_needed 24 = .ok (.ldc 93, 2) := all_at dvX11_needed_0 12 rfl
theorem dX11_needed_26 : decode cX11_needed 26 = .ok (.ireturn, 1) := all_at dvX11_needed_0 13 rfl
theorem dX11_needed_27 : decode cX11_needed 27 = .ok (.aload_n 0, 1) := all_at dvX11_needed_0 14 rfl
theorem dX11_needed_28 : decode cX11_needed 28 = .ok (.getfield 60, 3) := all_at dvX11_needed_0 15 rfl
theorem dX11_needed_31 : decode cX11_needed 31 = .ok (.iload_n 1, 1) := all_at dvX11_needed_0 16 rfl
theorem dX11_needed_32 : decode cX11_needed 32 = .ok (.aload_n 0, 1) := all_at dvX11_needed_0 17 rfl
theorem dX11_needed_33 : decode cX11_needed 33 = .ok (.getfield 85, 3) := all_at dvX11_needed_0 18 rfl
theorem dX11_needed_36 : decode cX11_needed 36 = .ok (.aload_n 0, 1) := all_at dvX11_needed_0 19 rfl
theorem dX11_needed_37 : decode cX11_needed 37 = .ok (.getfield 33, 3) := all_at dvX11_needed_0 20 rfl
theorem dX11_needed_40 : decode cX11_needed 40 = .ok (.iconst 2, 1) := all_at dvX11_needed_0 21 rfl
theorem dX11_needed_41 : decode cX11_needed 41 = .ok (.aload_n 0, 1) := all_at dvX11_needed_0 22 rfl
theorem dX11_needed_42 : decode cX11_needed 42 = .ok (.getfield 85, 3) := all_at dvX11_needed_0 23 rfl
set_option maxRecDepth 100000 in
theorem dvX11_needed_45 : ([(45, .invokevirtual 194, 3), (48, .invokevirtual 255, 3), (51, .aload_n 0, 1), (52, .getfield 60, 3), (55, .iload_n 2, 1), (56, .invokevirtual 268, 3), (59, .ireturn, 1)] : List (Nat × Instr × Nat)).all (fun q => decide (decode cX11_needed q.1 = .ok (q.2.1, q.2.2))) = true := by decide +kernel
theorem dX11_needed_45 : decode cX11_needed 45 = .ok (.invokevirtual 194, 3) := all_at dvX11_needed_45 0 rfl
theorem dX11_needed_48 : decode cX11_needed 48 = .ok (.invokevirtual 255, 3) := all_at dvX11_needed_45 1 rfl
theorem dX11_needed_51 : decode cX11_needed 51 = .ok (.aload_n 0, 1) := all_at dvX11_needed_45 2 rfl
theorem dX11_needed_52 : decode cX11_needed 52 = .ok (.getfield 60, 3) := all_at dvX11_needed_45 3 rfl
theorem dX11_needed_55 : decode cX11_needed 55 = .ok (.iload_n 2, 1) := all_at dvX11_needed_45 4 rfl
theorem dX11_needed_56 : decode cX11_needed 56 = .ok (.invokevirtual 268, 3) := all_at dvX11_needed_45 5 rfl
theorem dX11_needed_59 : decode cX11_needed 59 = .ok (.ireturn, 1) := all_at dvX11_needed_45 6 rfl
set_option maxRecDepth 100000 in
theorem dvX11_odd_0 : ([(0, .aload_n 0, 1), (1, .getfield 26, 3), (4, .iload_n 1, 1), (5, .invokevirtual 104, 3), (8, .ifCond .ne 6, 3), (11, .ldc 108, 2), (13, .ireturn, 1), (14, .iload_n 2, 1), (15, .iconst 0, 1), (16, .iconst 2, 1), (17, .invokestatic 89, 3), (20, .ifCond .ne 6, 3), (23, .ldc 93, 2), (25, .ireturn, 1), (26, .aload_n 0, 1), (27, .getfield 60, 3), (30, .iload_n 1, 1), (31, .aload_n 0, 1), (32, .getfield 85, 3), (35, .aload_n 0, 1), (36, .getfield 33, 3), (39, .iconst 2, 1), (40, .aload_n 0, 1), (41, .getfield 85, 3)] : List (Nat × Instr × Nat)).all (fun q => decide (decode cX11_odd q.1 = .ok (q.2.1, q.2.2))) = true := by decide +kernel
theorem dX11_odd_0 : decode cX11_odd 0 = .ok (.aload_n 0, 1) := all_at dvX11_odd_0 0 rfl
theorem dX11_odd_1 : decode cX11_odd 1 = .ok (.getfield 26, 3) := all_at dvX11_odd_0 1 rfl
theorem dX11_odd_4 : decode cX11_odd 4 = .ok (.iload_n 1, 1) := all_at dvX11_odd_0 2 rfl
theorem dX11_odd_5 : decode cX11_odd 5 = .ok (.invokevirtual 104, 3) := all_at dvX11_odd_0 3 rfl
theorem dX11_odd_8 : decode cX11_odd 8 = .ok (.ifCond .ne 6, 3) := all_at dvX11_odd_0 4 rfl
theorem dX11_odd_11 : decode cX11_odd 11 = .ok (.ldc 108, 2) := all_at dvX11_odd_0 5 rfl
theorem dX11_odd_13 : decode cX11_odd 13 = .ok (.ireturn, 1) := all_at dvX11_odd_0 6 rfl
theorem dX11_odd_14 : decode cX11_odd 14 = .ok (.iload_n 2, 1) := all_at dvX11_odd_0 7 rfl
theorem dX11_odd_15 : decode cX11_odd 15 = .ok (.iconst 0, 1) := all_at dvX11_odd_0 8 rfl
theorem dX11_odd_16 : decode cX11_odd 16 = .ok (.iconst 2, 1) := all_at dvX11_odd_0 9 rfl
theorem dX11_odd_17 : decode cX11_odd 17 = .ok (.invokestatic 89, 3) := all_at dvX11_odd_0 10 rfl
theorem dX11_odd_20 : decode cX11_odd 20 = .ok (.ifCond .ne 6, 3) := all_at dvX11_odd_0 11 rfl
theorem dX11_odd_23 : decode cX11_odd 23 = .ok (.ldc 93, 2) := all_at dvX11_odd_0 12 rfl
theorem dX11_odd_25 : decode cX11_odd 25 = .ok (.ireturn, 1) := all_at dvX11_odd_0 13 rfl
theorem dX11_odd_26 : decode cX11_odd 26 = .ok (.aload_n 0, 1) := all_at dvX11_odd_0 14 rfl
theorem dX11_odd_27 : decode cX11_odd 27 = .ok (.getfield 60, 3) := all_at dvX11_odd_0 15 rfl
theorem dX11_odd_30 : decode cX11_odd 30 = .ok (.iload_n 1, 1) := all_at dvX11_odd_0 16 rfl
theorem dX11_odd_31 : decode cX11_odd 31 = .ok (.aload_n 0, 1) := all_at dvX11_odd_0 17 rfl
theorem dX11_odd_32 : decode cX11_odd 32 = .ok (.getfield 85, 3) := all_at dvX11_odd_0 18 rfl
theorem dX11_odd_35 : decode cX11_odd 35 = .ok (.aload_n 0, 1) := all_at dvX11_odd_0 19 rfl
theorem dX11_odd_36 : decode cX11_odd 36 = .ok (.getfield 33, 3) := all_at dvX11_odd_0 20 rfl
theorem dX11_odd_39 : decode cX11_odd 39 = .ok (.iconst 2, 1) := all_at dvX11_odd_0 21 rfl
theorem dX11_odd_40 : decode cX11_odd 40 = .ok (.aload_n 0, 1) := all_at dvX11_odd_0 22 rfl
theorem dX11_odd_41 : decode cX11_odd 41 = .ok (.getfield 85, 3) := all_at dvX11_odd_0 23 rfl
set_option maxRecDepth 100000 in
theorem dvX11_odd_44 : ([(44, .invokevirtual 194, 3), (47, .invokevirtual 255, 3), (50, .aload_n 0, 1), (51, .getfield 60, 3), (54, .iload_n 2, 1), (55, .invokevirtual 265, 3), (58, .ireturn, 1)] : List (Nat × Instr × Nat)).all (fun q => decide (decode cX11_odd q.1 = .ok (q.2.1, q.2.2))) = true := by decide +kernel
theorem dX11_odd_44 : decode cX11_odd 44 = .ok (.invokevirtual 194, 3) := all_at dvX11_odd_44 0 rfl
theorem dX11_odd_47 : decode cX11_odd 47 = .ok (.invokevirtual 255, 3) := all_at dvX11_odd_44 1 rfl
theorem dX11_odd_50 : decode cX11_odd 50 = .ok (.aload_n 0, 1) := all_at dvX11_odd_44 2 rfl
theorem dX11_odd_51 : decode cX11_odd 51 = .ok (.getfield 60, 3) := all_at dvX11_odd_44 3 rfl
theorem dX11_odd_54 : decode cX11_odd 54 = .ok (.iload_n 2, 1) := all_at dvX11_odd_44 4 rfl
theorem dX11_odd_55 : decode cX11_odd 55 = .ok (.invokevirtual 265, 3) := all_at dvX11_odd_44 5 rfl
theorem dX11_odd_58 : decode cX11_odd 58 = .ok (.ireturn, 1) := all_at dvX11_odd_44 6 rfl
set_option maxRecDepth 100000 in
theorem dvX11_order_0 : ([(0, .iload_n 1, 1), (1, .iconst 1, 1), (2, .iconst 3, 1), (3, .invokestatic 89, 3), (6, .ifCond .ne 6, 3), (9, .ldc 93, 2), (11, .ireturn, 1), (12, .aload_n 0, 1), (13, .getfield 67, 3), (16, .iload_n 1, 1), (17, .invokevirtual 307, 3), (20, .iload_n 2, 1), (21, .iconst (-1), 1), (22, .if_icmp .ne 11, 3), (25, .aload_n 0, 1), (26, .getfield 67, 3), (29, .getfield 311, 3), (32, .ireturn, 1), (33, .iload_n 2, 1), (34, .iconst 0, 1), (35, .aload_n 0, 1), (36, .getfield 67, 3), (39, .getfield 305, 3), (42, .iconst 1, 1)] : List (Nat × Instr × Nat)).all (fun q => decide (decode cX11_order q.1 = .ok (q.2.1, q.2.2))) = true := by decide +kernel
theorem dX11_order_0 : decode cX11_order 0 = .ok (.iload_n 1, 1) := all_at dvX11_order_0 0 rfl
theorem dX11_order_1 : decode cX11_order 1 = .ok (.iconst 1, 1) := all_at dvX11_order_0 1 rfl
theorem dX11_order_2 : decode cX11_order 2 = .ok (.iconst 3, 1) := all_at dvX11_order_0 2 rfl
theorem dX11_order_3 : decode cX11_order 3 = .ok (.invokestatic 89, 3) := all_at dvX11_order_0 3 rfl
theorem dX11_order_6 : decode cX11_order 6 = .ok (.ifCond .ne 6, 3) := all_at dvX11_order_0 4 rfl
theorem dX11_order_9 : decode cX11_order 9 = .ok (.ldc 93, 2) := all_at dvX11_order_0 5 rfl
theorem dX11_order_11 : decode cX11_order 11 = .ok (.ireturn, 1) := all_at dvX11_order_0 6 rfl
theorem dX11_order_12 : decode cX11_order 12 = .ok (.aload_n 0, 1) := all_at dvX11_order_0 7 rfl
theorem dX11_order_13 : decode cX11_order 13 = .ok (.getfield 67, 3) := all_at dvX11_order_0 8 rfl
theorem dX11_order_16 : decode cX11_order 16 = .ok (.iload_n 1, 1) := all_at dvX11_order_0 9 rfl
theorem dX11_order_17 : decode cX11_order 17 = .ok (.invokevirtual 307, 3) := all_at dvX11_order_0 10 rfl
theorem dX11_order_20 : decode cX11_order 20 = .ok (.iload_n 2, 1) := all_at dvX11_order_0 11 rfl
theorem dX11_order_21 : decode cX11_order 21 = .ok (.iconst (-1), 1) := all_at dvX11_order_0 12 rfl
theorem dX11_order_22 : decode cX11_order 22 = .ok (.if_icmp .ne 11, 3) := all_at dvX11_order_0 13 rfl
theorem dX11_order_25 : decode cX11_order 25 = .ok (.aload_n 0, 1) := all_at dvX11_order_0 14 rfl
theorem dX11_order_26 : decode cX11_order 26 = .ok (.getfield 67, 3) := all_at dvX11_order_0 15 rfl
theorem dX11_order_29 : decode cX11_order 29 = .ok (.getfield 311, 3) := all_at dvX11_order_0 16 rfl
theorem dX11_order_32 : decode cX11_order 32 = .ok (.ireturn, 1) := all_at dvX11_order_0 17 rfl
theorem dX11_order_33 : decode cX11_order 33 = .ok (.iload_n 2, 1) := all_at dvX11_order_0 18 rfl
theorem dX11_order_34 : decode cX11_order 34 = .ok (.iconst 0, 1) := all_at dvX11_order_0 19 rfl
theorem dX11_order_35 : decode cX11_order 35 = .ok (.aload_n 0, 1) := all_at dvX11_order_0 20 rfl
theorem dX11_order_36 : decode cX11_order 36 = .ok (.getfield 67, 3) := all_at dvX11_order_0 21 rfl
theorem dX11_order_39 : decode cX11_order 39 = .ok (.getfield 305, 3) := all_at dvX11_order_0 22 rfl
theorem dX11_order_42 : decode cX11_order 42 = .ok (.iconst 1, 1) := all_at dvX11_order_0 23 rfl
set_option maxRecDepth 100000 in
theorem dvX11_order_43 : ([(43, .isub, 1), (44, .invokestatic 89, 3), (47, .ifCond .eq 15, 3), (50, .aload_n 0, 1), (51, .getfield 67, 3), (54, .getfield 314, 3), (57, .iload_n 2, 1), (58, .iaload, 1), (59, .goto 4, 3), (62, .iconst (-1), 1), (63, .ireturn, 1)] : List (Nat × Instr × Nat)).all (fun q => decide (decode cX11_order q.1 = .ok (q.2.1, q.2.2))) = true := by decide +kernel
theorem dX11_order_43 : decode cX11_order 43 = .ok (.isub, 1) := all_at dvX11_order_43 0 rfl
theorem dX11_order_44 : decode cX11_order 44 = .ok (.invokestatic 89, 3) := all_at dvX11_order_43 1 rfl
theorem dX11_order_47 : decode cX11_order 47 = .ok (.ifCond .eq 15, 3) := all_at dvX11_order_43 2 rfl
theorem dX11_order_50 : decode cX11_order 50 = .ok (.aload_n 0, 1) := all_at dvX11_order_43 3 rfl
theorem dX11_order_51 : decode cX11_order 51 = .ok (.getfield 67, 3) := all_at dvX11_order_43 4 rfl
theorem dX11_order_54 : decode cX11_order 54 = .ok (.getfield 314, 3) := all_at dvX11_order_43 5 rfl
theorem dX11_order_57 : decode cX11_order 57 = .ok (.iload_n 2, 1) := all_at dvX11_order_43 6 rfl
theorem dX11_order_58 : decode cX11_order 58 = .ok (.iaload, 1) := all_at dvX11_order_43 7 rfl
theorem dX11_order_59 : decode cX11_order 59 = .ok (.goto 4, 3) := all_at dvX11_order_43 8 rfl
theorem dX11_order_62 : decode cX11_order 62 = .ok (.iconst (-1), 1) := all_at dvX11_order_43 9 rfl
theorem dX11_order_63 : decode cX11_order 63 = .ok (.ireturn, 1) := all_at dvX11_order_43 10 rfl
set_option maxRecDepth 100000 in
theorem dvX11_ratio_0 : ([(0, .aload_n 0, 1), (1, .getfield 26, 3), (4, .iload_n 1, 1), (5, .invokevirtual 104, 3), (8, .ifCond .ne 6, 3), (11, .ldc 108, 2), (13, .ireturn, 1), (14, .iload_n 2, 1), (15, .iconst 0, 1), (16, .iconst 2, 1), (17, .invokestatic 89, 3), (20, .ifCond .eq 12, 3), (23, .iload_n 3, 1), (24, .iconst 0, 1), (25, .iconst 2, 1), (26, .invokestatic 89, 3), (29, .ifCond .ne 6, 3), (32, .ldc 93, 2), (34, .ireturn, 1), (35, .aload_n 0, 1), (36, .getfield 51, 3), (39, .iload_n 1, 1), (40, .aload_n 0, 1), (41, .getfield 85, 3)] : List (Nat × Instr × Nat)).all (fun q => decide (decode cX11_ratio q.1 = .ok (q.2.1, q.2.2))) = true := by decide +kernel
theorem dX11_ratio_0 : decode cX11_ratio 0 = .ok (.aload_n 0, 1) := all_at dvX11_ratio_0 0 rfl
theorem dX11_ratio_1 : decode cX11_ratio 1 = .ok (.getfield 26, 3) := all_at dvX11_ratio_0 1 rfl
theorem dX11_ratio_4 : decode cX11_ratio 4 = .ok (.iload_n 1, 1) := all_at dvX11_ratio_0 2 rfl
theorem dX11_ratio_5 : decode cX11_ratio 5 = .ok (.invokevirtual 104, 3) := all_at dvX11_ratio_0 3 rfl
theorem dX11_ratio_8 : decode cX11_ratio 8 = .ok (.ifCond .ne 6, 3) := all_at dvX11_ratio_0 4 rfl
theorem dX11_ratio_11 : decode cX11_ratio 11 = .ok (.ldc 108, 2) := all_at dvX11_ratio_0 5 rfl
theorem dX11_ratio_13 : decode cX11_ratio 13 = .ok (.ireturn, 1) := all_at dvX11_ratio_0 6 rfl
theorem dX11_ratio_14 : decode cX11_ratio 14 = .ok (.iload_n 2, 1) := all_at dvX11_ratio_0 7 rfl
theorem dX11_ratio_15 : decode cX11_ratio 15 = .ok (.iconst 0, 1) := all_at dvX11_ratio_0 8 rfl
theorem dX11_ratio_16 : decode cX11_ratio 16 = .ok (.iconst 2, 1) := all_at dvX11_ratio_0 9 rfl
theorem dX11_ratio_17 : decode cX11_ratio 17 = .ok (.invokestatic 89, 3) := all_at dvX11_ratio_0 10 rfl
theorem dX11_ratio_20 : decode cX11_ratio 20 = .ok (.ifCond .eq 12, 3) := all_at dvX11_ratio_0 11 rfl
theorem dX11_ratio_23 : decode cX11_ratio 23 = .ok (.iload_n 3, 1) := all_at dvX11_ratio_0 12 rfl
theorem dX11_ratio_24 : decode cX11_ratio 24 = .ok (.iconst 0, 1) := all_at dvX11_ratio_0 13 rfl
theorem dX11_ratio_25 : decode cX11_ratio 25 = .ok (.iconst 2, 1) := all_at dvX11_ratio_0 14 rfl
theorem dX11_ratio_26 : decode cX11_ratio 26 = .ok (.invokestatic 89, 3) := all_at dvX11_ratio_0 15 rfl
theorem dX11_ratio_29 : decode cX11_ratio 29 = .ok (.ifCond .ne 6, 3) := all_at dvX11_ratio_0 16 rfl
theorem dX11_ratio_32 : decode cX11_ratio 32 = .ok (.ldc 93, 2) := all_at dvX11_ratio_0 17 rfl
theorem dX11_ratio_34 : decode cX11_ratio 34 = .ok (.ireturn, 1) := all_at dvX11_ratio_0 18 rfl
theorem dX11_ratio_35 : decode cX11_ratio 35 = .ok (.aload_n 0, 1) := all_at dvX11_ratio_0 19 rfl
theorem dX11_ratio_36 : decode cX11_ratio 36 = .ok (.getfield 51, 3) := all_at dvX11_ratio_0 20 rfl
theorem dX11_ratio_39 : decode cX11_ratio 39 = .ok (.iload_n 1, 1) := all_at dvX11_ratio_0 21 rfl
theorem dX11_ratio_40 : decode cX11_ratio 40 = .ok (.aload_n 0, 1) := all_at dvX11_ratio_0 22 rfl
theorem dX11_ratio_41 : decode cX11_ratio 41 = .ok (.getfield 85, 3) := all_at dvX11_ratio_0 23 rfl
set_option maxRecDepth 100000 in
theorem dvX11_ratio_44 : ([(44, .invokevirtual 144, 3), (47, .iload_n 3, 1), (48, .iconst 2, 1), (49, .if_icmp .ne 16, 3), (52, .aload_n 0, 1), (53, .getfield 51, 3), (56, .getfield 147, 3), (59, .getfield 151, 3), (62, .iload_n 2, 1), (63, .iaload, 1), (64, .ireturn, 1), (65, .aload_n 0, 1), (66, .getfield 51, 3), (69, .getfield 147, 3), (72, .getfield 151, 3), (75, .iload_n 2, 1), (76, .iaload, 1), (77, .ifCond .ne 6, 3), (80, .ldc 94, 2), (82, .ireturn, 1), (83, .aload_n 0, 1), (84, .getfield 51, 3), (87, .getfield 147, 3), (90, .getfield 156, 3)] : List (Nat × Instr × Nat)).all (fun q => decide (decode cX11_ratio q.1 = .ok (q.2.1, q.2.2))) = true := by decide +kernel
theorem dX11_ratio_44 : decode cX11_ratio 44 = .ok (.invokevirtual 144, 3) := all_at dvX11_ratio_44 0 rfl
theorem dX11_ratio_47 : decode cX11_ratio 47 = .ok (.iload_n 3, 1) := all_at dvX11_ratio_44 1 rfl
theorem dX11_ratio_48 : decode cX11_ratio 48 = .ok (.iconst 2, 1) := all_at dvX11_ratio_44 2 rfl
theorem dX11_ratio_49 : decode cX11_ratio 49 = .ok (.if_icmp .ne 16, 3) := all_at dvX11_ratio_44 3 rfl
theorem dX11_ratio_52 : decode cX11_ratio 52 = .ok (.aload_n 0, 1) := all_at dvX11_ratio_44 4 rfl
theorem dX11_ratio_53 : decode cX11_ratio 53 = .ok (.getfield 51, 3) := all_at dvX11_ratio_44 5 rfl
theorem dX11_ratio_56 : decode cX11_ratio 56 = .ok (.getfield 147, 3) := all_at dvX11_ratio_44 6 rfl
theorem dX11_ratio_59 : decode cX11_ratio 59 = .ok (.getfield 151, 3) := all_at dvX11_ratio_44 7 rfl
theorem dX11_ratio_62 : decode cX11_ratio 62 = .ok (.iload_n 2, 1) := all_at dvX11_ratio_44 8 rfl
theorem dX11_ratio_63 : decode cX11_ratio 63 = .ok (.iaload, 1) := all_at dvX11_ratio_44 9 rfl
theorem dX11_ratio_64 : decode cX11_ratio 64 = .ok (.ireturn, 1) := all_at dvX11_ratio_44 10 rfl
theorem dX11_ratio_65 : decode cX11_ratio 65 = .ok (.aload_n 0, 1) := all_at dvX11_ratio_44 11 rfl
theorem dX11_ratio_66 : decode cX11_ratio 66 = .ok (.getfield 51, 3) := all_at dvX11_ratio_44 12 rfl
theorem dX11_ratio_69 : decode cX11_ratio 69 = .ok (.getfield 147, 3) := all_at dvX11_ratio_44 13 rfl
theorem dX11_ratio_72 : decode cX11_ratio 72 = .ok (.getfield 151, 3) := all_at dvX11_ratio_44 14 rfl
theorem dX11_ratio_75 : decode cX11_ratio 75 = .ok (.iload_n 2, 1) := all_at dvX11_ratio_44 15 rfl
theorem dX11_ratio_76 : decode cX11_ratio 76 = .ok (.iaload, 1) := all_at dvX11_ratio_44 16 rfl
theorem dX11_ratio_77 : decode cX11_ratio 77 = .ok (.ifCond .ne 6, 3) := all_at dvX11_ratio_44 17 rfl
theorem dX11_ratio_80 : decode cX11_ratio 80 = .ok (.ldc 94, 2) := all_at dvX11_ratio_44 18 rfl
theorem dX11_ratio_82 : decode cX11_ratio 82 = .ok (.ireturn, 1) := all_at dvX11_ratio_44 19 rfl
theorem dX11_ratio_83 : decode cX11_ratio 83 = .ok (.aload_n 0, 1) := all_at dvX11_ratio_44 20 rfl
theorem dX11_ratio_84 : decode cX11_ratio 84 = .ok (.getfield 51, 3) := all_at dvX11_ratio_44 21 rfl
theorem dX11_ratio_87 : decode cX11_ratio 87 = .ok (.getfield 147, 3) := all_at dvX11_ratio_44 22 rfl
theorem dX11_ratio_90 : decode cX11_ratio 90 = .ok (.getfield 156, 3) := all_at dvX11_ratio_44 23 rfl
set_option maxRecDepth 100000 in
theorem dvX11_ratio_93 : ([(93, .iload_n 2, 1), (94, .laload, 1), (95, .aload_n 0, 1), (96, .getfield 51, 3), (99, .getfield 147, 3), (102, .getfield 160, 3), (105, .iload_n 2, 1), (106, .laload, 1), (107, .iload_n 3, 1), (108, .invokestatic 163, 3), (111, .l2i, 1), (112, .ireturn, 1)] : List (Nat × Instr × Nat)).all (fun q => decide (decode cX11_ratio q.1 = .ok (q.2.1, q.2.2))) = true := by decide +kernel
theorem dX11_ratio_93 : decode cX11_ratio 93 = .ok (.iload_n 2, 1) := all_at dvX11_ratio_93 0 rfl
theorem dX11_ratio_94 : decode cX11_ratio 94 = .ok (.laload, 1) := all_at dvX11_ratio_93 1 rfl
theorem dX11_ratio_95 : decode cX11_ratio 95 = .ok (.aload_n 0, 1) := all_at dvX11_ratio_93 2 rfl
theorem dX11_ratio_96 : decode cX11_ratio 96 = .ok (.getfield 51, 3) := all_at dvX11_ratio_93 3 rfl
theorem dX11_ratio_99 : decode cX11_ratio 99 = .ok (.getfield 147, 3) := all_at dvX11_ratio_93 4 rfl
theorem dX11_ratio_102 : decode cX11_ratio 102 = .ok (.getfield 160, 3) := all_at dvX11_ratio_93 5 rfl
theorem dX11_ratio_105 : decode cX11_ratio 105 = .ok (.iload_n 2, 1) := all_at dvX11_ratio_93 6 rfl
theorem dX11_ratio_106 : decode cX11_ratio 106 = .ok (.laload, 1) := all_at dvX11_ratio_93 7 rfl
theorem dX11_ratio_107 : decode cX11_ratio 107 = .ok (.iload_n 3, 1) := all_at dvX11_ratio_93 8 rfl
theorem dX11_ratio_108 : decode cX11_ratio 108 = .ok (.invokestatic 163, 3) := all_at dvX11_ratio_93 9 rfl
theorem dX11_ratio_111 : decode cX11_ratio 111 = .ok (.l2i, 1) := all_at dvX11_ratio_93 10 rfl
theorem dX11_ratio_112 : decode cX11_ratio 112 = .ok (.ireturn, 1) := all_at dvX11_ratio_93 11 rfl
set_option maxRecDepth 100000 in
theorem dvX11_rule_0 : ([(0, .iload_n 1, 1), (1, .iconst 0, 1), (2, .sipush 3000, 3), (5, .invokestatic 89, 3), (8, .ifCond .ne 6, 3), (11, .ldc 93, 2), (13, .ireturn, 1), (14, .aload_n 0, 1), (15, .getfield 33, 3), (18, .getfield 170, 3), (21, .bipush 8, 2), (23, .if_icmp .lt 6, 3), (26, .ldc 99, 2), (28, .ireturn, 1), (29, .aload_n 0, 1), (30, .getfield 42, 3), (33, .invokevirtual 201, 3), (36, .istore_n 2, 1), (37, .iload_n 2, 1), (38, .ifCond .ne 14, 3), (41, .aload_n 0, 1), (42, .getfield 33, 3), (45, .iload_n 1, 1), (46, .invokevirtual 204, 3)] : List (Nat × Instr × Nat)).all (fun q => decide (decode cX11_rule q.1 = .ok (q.2.1, q.2.2))) = true := by decide +kernel
theorem dX11_rule_0 : decode cX11_rule 0 = .ok (.iload_n 1, 1) := all_at dvX11_rule_0 0 rfl
theorem dX11_rule_1 : decode cX11_rule 1 = .ok (.iconst 0, 1) := all_at dvX11_rule_0 1 rfl
theorem dX11_rule_2 : decode cX11_rule 2 = .ok (.sipush 3000, 3) := all_at dvX11_rule_0 2 rfl
theorem dX11_rule_5 : decode cX11_rule 5 = .ok (.invokestatic 89, 3) := all_at dvX11_rule_0 3 rfl
theorem dX11_rule_8 : decode cX11_rule 8 = .ok (.ifCond .ne 6, 3) := all_at dvX11_rule_0 4 rfl
theorem dX11_rule_11 : decode cX11_rule 11 = .ok (.ldc 93, 2) := all_at dvX11_rule_0 5 rfl
theorem dX11_rule_13 : decode cX11_rule 13 = .ok (.ireturn, 1) := all_at dvX11_rule_0 6 rfl
theorem dX11_rule_14 : decode cX11_rule 14 = .ok (.aload_n 0, 1) := all_at dvX11_rule_0 7 rfl
theorem dX11_rule_15 : decode cX11_rule 15 = .ok (.getfield 33, 3) := all_at dvX11_rule_0 8 rfl
theorem dX11_rule_18 : decode cX11_rule 18 = .ok (.getfield 170, 3) := all_at dvX11_rule_0 9 rfl
theorem dX11_rule_21 : decode cX11_rule 21 = .ok (.bipush 8, 2) := all_at dvX11_rule_0 10 rfl
theorem dX11_rule_23 : decode cX11_rule 23 = .ok (.if_icmp .lt 6, 3) := all_at dvX11_rule_0 11 rfl
theorem dX11_rule_26 : decode cX11_rule 26 = .ok (.ldc 99, 2) := all_at dvX11_rule_0 12 rfl
theorem dX11_rule_28 : decode cX11_rule 28 = .ok (.ireturn, 1) := all_at dvX11_rule_0 13 rfl
theorem dX11_rule_29 : decode cX11_rule 29 = .ok (.aload_n 0, 1) := all_at dvX11_rule_0 14 rfl
theorem dX11_rule_30 : decode cX11_rule 30 = .ok (.getfield 42, 3) := all_at dvX11_rule_0 15 rfl
theorem dX11_rule_33 : decode cX11_rule 33 = .ok (.invokevirtual 201, 3) := all_at dvX11_rule_0 16 rfl
theorem dX11_rule_36 : decode cX11_rule 36 = .ok (.istore_n 2, 1) := all_at dvX11_rule_0 17 rfl
theorem dX11_rule_37 : decode cX11_rule 37 = .ok (.iload_n 2, 1) := all_at dvX11_rule_0 18 rfl
theorem dX11_rule_38 : decode cX11_rule 38 = .ok (.ifCond .ne 14, 3) := all_at dvX11_rule_0 19 rfl
theorem dX11_rule_41 : decode cX11_rule 41 = .ok (.aload_n 0, 1) := all_at dvX11_rule_0 20 rfl
theorem dX11_rule_42 : decode cX11_rule 42 = .ok (.getfield 33, 3) := all_at dvX11_rule_0 21 rfl
theorem dX11_rule_45 : decode cX11_rule 45 = .ok (.iload_n 1, 1) := all_at dvX11_rule_0 22 rfl
theorem dX11_rule_46 : decode cX11_rule 46 = .ok (.invokevirtual 204, 3) := all_at dvX11_rule_0 23 rfl
set_option maxRecDepth 100000 in
theorem dvX11_rule_49 : ([(49, .goto 7, 3), (52, .bipush (-10), 2), (54, .iload_n 2, 1), (55, .isub, 1), (56, .ireturn, 1)] : List (Nat × Instr × Nat)).all (fun q => decide (decode cX11_rule q.1 = .ok (q.2.1, q.2.2))) = true := by decide +kernel
theorem dX11_rule_49 : decode cX11_rule 49 = .ok (.goto 7, 3) := all_at dvX11_rule_49 0 rfl
theorem dX11_rule_52 : decode cX11_rule 52 = .ok (.bipush (-10), 2) := all_at dvX11_rule_49 1 rfl
theorem dX11_rule_54 : decode cX11_rule 54 = .ok (.iload_n 2, 1) := all_at dvX11_rule_49 2 rfl
theorem dX11_rule_55 : decode cX11_rule 55 = .ok (.isub, 1) := all_at dvX11_rule_49 3 rfl
theorem dX11_rule_56 : decode cX11_rule 56 = .ok (.ireturn, 1) := all_at dvX11_rule_49 4 rfl
set_option maxRecDepth 100000 in
theorem dvX11_size_0 : ([(0, .aload_n 0, 1), (1, .getfield 26, 3), (4, .iload_n 1, 1), (5, .invokevirtual 104, 3), (8, .ifCond .ne 6, 3), (11, .ldc 108, 2), (13, .ireturn, 1), (14, .iload_n 2, 1), (15, .iconst 0, 1), (16, .iconst 3, 1), (17, .invokestatic 89, 3), (20, .ifCond .ne 6, 3), (23, .ldc 93, 2), (25, .ireturn, 1), (26, .aload_n 0, 1), (27, .getfield 26, 3), (30, .getfield 271, 3), (33, .iload_n 1, 1), (34, .iaload, 1), (35, .ifCond .ne 5, 3), (38, .iconst (-1), 1), (39, .ireturn, 1), (40, .aload_n 0, 1), (41, .getfield 26, 3)] : List (Nat × Instr × Nat)).all (fun q => decide (decode cX11_size q.1 = .ok (q.2.1, q.2.2))) = true := by decide +kernel
theorem dX11_size_0 : decode cX11_size 0 = .ok (.aload_n 0, 1) := all_at dvX11_size_0 0 rfl
theorem dX11_size_1 : decode cX11_size 1 = .ok (.getfield 26, 3) := all_at dvX11_size_0 1 rfl
theorem dX11_size_4 : decode cX11_size 4 = .ok (.iload_n 1, 1) := all_at dvX11_size_0 2 rfl
theorem dX11_size_5 : decode cX11_size 5 = .ok (.invokevirtual 104, 3) := all_at dvX11_size_0 3 rfl
theorem dX11_size_8 : decode cX11_size 8 = .ok (.ifCond .ne 6, 3) := all_at dvX11_size_0 4 rfl
theorem dX11_size_11 : decode cX11_size 11 = .ok (.ldc 108, 2) := all_at dvX11_size_0 5 rfl
theorem dX11_size_13 : decode cX11_size 13 = .ok (.ireturn, 1) := all_at dvX11_size_0 6 rfl
theorem dX11_size_14 : decode cX11_size 14 = .ok (.iload_n 2, 1) := all_at dvX11_size_0 7 rfl
theorem dX11_size_15 : decode cX11_size 15 = .ok (.iconst 0, 1) := all_at dvX11_size_0 8 rfl
theorem dX11_size_16 : decode cX11_size 16 = .ok (.iconst 3, 1) := all_at dvX11_size_0 9 rfl
theorem dX11_size_17 : decode cX11_size 17 = .ok (.invokestatic 89, 3) := all_at dvX11_size_0 10 rfl
theorem dX11_size_20 : decode cX11_size 20 = .ok (.ifCond .ne 6, 3) := all_at dvX11_size_0 11 rfl
theorem dX11_size_23 : decode cX11_size 23 = .ok (.ldc 93, 2) := all_at dvX11_size_0 12 rfl
theorem dX11_size_25 : decode cX11_size 25 = .ok (.ireturn, 1) := all_at dvX11_size_0 13 rfl
theorem dX11_size_26 : decode cX11_size 26 = .ok (.aload_n 0, 1) := all_at dvX11_size_0 14 rfl
theorem dX11_size_27 : decode cX11_size 27 = .ok (.getfield 26, 3) := all_at dvX11_size_0 15 rfl
theorem dX11_size_30 : decode cX11_size 30 = .ok (.getfield 271, 3) := all_at dvX11_size_0 16 rfl
theorem dX11_size_33 : decode cX11_size 33 = .ok (.iload_n 1, 1) := all_at dvX11_size_0 17 rfl
theorem dX11_size_34 : decode cX11_size 34 = .ok (.iaload, 1) := all_at dvX11_size_0 18 rfl
theorem dX11_size_35 : decode cX11_size 35 = .ok (.ifCond .ne 5, 3) := all_at dvX11_size_0 19 rfl
theorem dX11_size_38 : decode cX11_size 38 = .ok (.iconst (-1), 1) := all_at dvX11_size_0 20 rfl
theorem dX11_size_39 : decode cX11_size 39 = .ok (.ireturn, 1) := all_at dvX11_size_0 21 rfl
theorem dX11_size_40 : decode cX11_size 40 = .ok (.aload_n 0, 1) := all_at dvX11_size_0 22 rfl
theorem dX11_size_41 : decode cX11_size 41 = .ok (.getfield 26, 3) := all_at dvX11_size_0 23 rfl
set_option maxRecDepth 100000 in
theorem dvX11_size_44 : ([(44, .getfield 271, 3), (47, .iload_n 1, 1), (48, .iaload, 1), (49, .i2l, 1), (50, .lstore_n 3, 1), (51, .aload_n 0, 1), (52, .getfield 26, 3), (55, .iload_n 1, 1), (56, .invokevirtual 277, 3), (59, .i2l, 1), (60, .lstore 5, 2), (62, .iload_n 2, 1), (63, .iconst 2, 1), (64, .if_icmp .ge 12, 3), (67, .lload 5, 2), (69, .lload_n 3, 1), (70, .iload_n 2, 1), (71, .invokestatic 163, 3), (74, .l2i, 1), (75, .ireturn, 1), (76, .lload_n 3, 1), (77, .aload_n 0, 1), (78, .getfield 26, 3), (81, .iload_n 1, 1)] : List (Nat × Instr × Nat)).all (fun q => decide (decode cX11_size q.1 = .ok (q.2.1, q.2.2))) = true := by decide +kernel
theorem dX11_size_44 : decode cX11_size 44 = .ok (.getfield 271, 3) := all_at dvX11_size_44 0 rfl
theorem dX11_size_47 : decode cX11_size 47 = .ok (.iload_n 1, 1) := all_at dvX11_size_44 1 rfl
theorem dX11_size_48 : decode cX11_size 48 = .ok (.iaload, 1) := all_at dvX11_size_44 2 rfl
theorem dX11_size_49 : decode cX11_size 49 = .ok (.i2l, 1) := all_at dvX11_size_44 3 rfl
theorem dX11_size_50 : decode cX11_size 50 = .ok (.lstore_n 3, 1) := all_at dvX11_size_44 4 rfl
theorem dX11_size_51 : decode cX11_size 51 = .ok (.aload_n 0, 1) := all_at dvX11_size_44 5 rfl
theorem dX11_size_52 : decode cX11_size 52 = .ok (.getfield 26, 3) := all_at dvX11_size_44 6 rfl
theorem dX11_size_55 : decode cX11_size 55 = .ok (.iload_n 1, 1) := all_at dvX11_size_44 7 rfl
theorem dX11_size_56 : decode cX11_size 56 = .ok (.invokevirtual 277, 3) := all_at dvX11_size_44 8 rfl
theorem dX11_size_59 : decode cX11_size 59 = .ok (.i2l, 1) := all_at dvX11_size_44 9 rfl
theorem dX11_size_60 : decode cX11_size 60 = .ok (.lstore 5, 2) := all_at dvX11_size_44 10 rfl
theorem dX11_size_62 : decode cX11_size 62 = .ok (.iload_n 2, 1) := all_at dvX11_size_44 11 rfl
theorem dX11_size_63 : decode cX11_size 63 = .ok (.iconst 2, 1) := all_at dvX11_size_44 12 rfl
theorem dX11_size_64 : decode cX11_size 64 = .ok (.if_icmp .ge 12, 3) := all_at dvX11_size_44 13 rfl
theorem dX11_size_67 : decode cX11_size 67 = .ok (.lload 5, 2) := all_at dvX11_size_44 14 rfl
theorem dX11_size_69 : decode cX11_size 69 = .ok (.lload_n 3, 1) := all_at dvX11_size_44 15 rfl
theorem dX11_size_70 : decode cX11_size 70 = .ok (.iload_n 2, 1) := all_at dvX11_size_44 16 rfl
theorem dX11_size_71 : decode cX11_size 71 = .ok (.invokestatic 163, 3) := all_at dvX11_size_44 17 rfl
theorem dX11_size_74 : decode cX11_size 74 = .ok (.l2i, 1) := all_at dvX11_size_44 18 rfl
theorem dX11_size_75 : decode cX11_size 75 = .ok (.ireturn, 1) := all_at dvX11_size_44 19 rfl
theorem dX11_size_76 : decode cX11_size 76 = .ok (.lload_n 3, 1) := all_at dvX11_size_44 20 rfl
theorem dX11_size_77 : decode cX11_size 77 = .ok (.aload_n 0, 1) := all_at dvX11_size_44 21 rfl
theorem dX11_size_78 : decode cX11_size 78 = .ok (.getfield 26, 3) := all_at dvX11_size_44 22 rfl
theorem dX11_size_81 : decode cX11_size 81 = .ok (.iload_n 1, 1) := all_at dvX11_size_44 23 rfl
set_option maxRecDepth 100000 in
theorem dvX11_size_82 : ([(82, .invokevirtual 280, 3), (85, .lmul, 1), (86, .lload 5, 2), (88, .lload 5, 2), (90, .lmul, 1), (91, .lsub, 1), (92, .lload_n 3, 1), (93, .lload_n 3, 1), (94, .lmul, 1), (95, .iload_n 2, 1), (96, .iconst 2, 1), (97, .irem, 1), (98, .invokestatic 163, 3), (101, .l2i, 1), (102, .ireturn, 1)] : List (Nat × Instr × Nat)).all (fun q => decide (decode cX11_size q.1 = .ok (q.2.1, q.2.2))) = true := by decide +kernel
theorem dX11_size_82 : decode cX11_size 82 = .ok (.invokevirtual 280, 3) := all_at dvX11_size_82 0 rfl
theorem dX11_size_85 : decode cX11_size 85 = .ok (.lmul, 1) := all_at dvX11_size_82 1 rfl
theorem dX11_size_86 : decode cX11_size 86 = .ok (.lload 5, 2) := all_at dvX11_size_82 2 rfl
theorem dX11_size_88 : decode cX11_size 88 = .ok (.lload 5, 2) := all_at dvX11_size_82 3 rfl
theorem dX11_size_90 : decode cX11_size 90 = .ok (.lmul, 1) := all_at dvX11_size_82 4 rfl
theorem dX11_size_91 : decode cX11_size 91 = .ok (.lsub, 1) := all_at dvX11_size_82 5 rfl
theorem dX11_size_92 : decode cX11_size 92 = .ok (.lload_n 3, 1) := all_at dvX11_size_82 6 rfl
theorem dX11_size_93 : decode cX11_size 93 = .ok (.lload_n 3, 1) := all_at dvX11_size_82 7 rfl
theorem dX11_size_94 : decode cX11_size 94 = .ok (.lmul, 1) := all_at dvX11_size_82 8 rfl
theorem dX11_size_95 : decode cX11_size 95 = .ok (.iload_n 2, 1) := all_at dvX11_size_82 9 rfl
theorem dX11_size_96 : decode cX11_size 96 = .ok (.iconst 2, 1) := all_at dvX11_size_82 10 rfl
theorem dX11_size_97 : decode cX11_size 97 = .ok (.irem, 1) := all_at dvX11_size_82 11 rfl
theorem dX11_size_98 : decode cX11_size 98 = .ok (.invokestatic 163, 3) := all_at dvX11_size_82 12 rfl
theorem dX11_size_101 : decode cX11_size 101 = .ok (.l2i, 1) := all_at dvX11_size_82 13 rfl
theorem dX11_size_102 : decode cX11_size 102 = .ok (.ireturn, 1) := all_at dvX11_size_82 14 rfl
set_option maxRecDepth 100000 in
theorem dvX11_span_0 : ([(0, .aload_n 0, 1), (1, .getfield 26, 3), (4, .iload_n 1, 1), (5, .invokevirtual 104, 3), (8, .ifCond .ne 7, 3), (11, .ldc2_w 214, 3), (14, .lreturn, 1), (15, .iload_n 2, 1), (16, .iconst 0, 1), (17, .iconst 3, 1), (18, .invokestatic 89, 3), (21, .ifCond .ne 7, 3), (24, .ldc2_w 216, 3), (27, .lreturn, 1), (28, .aload_n 0, 1), (29, .getfield 51, 3), (32, .iload_n 1, 1), (33, .aload_n 0, 1), (34, .getfield 85, 3), (37, .invokevirtual 144, 3), (40, .aload_n 0, 1), (41, .getfield 51, 3), (44, .getfield 147, 3), (47, .getfield 151, 3)] : List (Nat × Instr × Nat)).all (fun q => decide (decode cX11_span q.1 = .ok (q.2.1, q.2.2))) = true := by decide +kernel
theorem dX11_span_0 : decode cX11_span 0 = .ok (.aload_n 0, 1) := all_at dvX11_span_0 0 rfl
theorem dX11_span_1 : decode cX11_span 1 = .ok (.getfield 26, 3) := all_at dvX11_span_0 1 rfl
theorem dX11_span_4 : decode cX11_span 4 = .ok (.iload_n 1, 1) := all_at dvX11_span_0 2 rfl
theorem dX11_span_5 : decode cX11_span 5 = .ok (.invokevirtual 104, 3) := all_at dvX11_span_0 3 rfl
theorem dX11_span_8 : decode cX11_span 8 = .ok (.ifCond .ne 7, 3) := all_at dvX11_span_0 4 rfl
theorem dX11_span_11 : decode cX11_span 11 = .ok (.ldc2_w 214, 3) := all_at dvX11_span_0 5 rfl
theorem dX11_span_14 : decode cX11_span 14 = .ok (.lreturn, 1) := all_at dvX11_span_0 6 rfl
theorem dX11_span_15 : decode cX11_span 15 = .ok (.iload_n 2, 1) := all_at dvX11_span_0 7 rfl
theorem dX11_span_16 : decode cX11_span 16 = .ok (.iconst 0, 1) := all_at dvX11_span_0 8 rfl
theorem dX11_span_17 : decode cX11_span 17 = .ok (.iconst 3, 1) := all_at dvX11_span_0 9 rfl
theorem dX11_span_18 : decode cX11_span 18 = .ok (.invokestatic 89, 3) := all_at dvX11_span_0 10 rfl
theorem dX11_span_21 : decode cX11_span 21 = .ok (.ifCond .ne 7, 3) := all_at dvX11_span_0 11 rfl
theorem dX11_span_24 : decode cX11_span 24 = .ok (.ldc2_w 216, 3) := all_at dvX11_span_0 12 rfl
theorem dX11_span_27 : decode cX11_span 27 = .ok (.lreturn, 1) := all_at dvX11_span_0 13 rfl
theorem dX11_span_28 : decode cX11_span 28 = .ok (.aload_n 0, 1) := all_at dvX11_span_0 14 rfl
theorem dX11_span_29 : decode cX11_span 29 = .ok (.getfield 51, 3) := all_at dvX11_span_0 15 rfl
theorem dX11_span_32 : decode cX11_span 32 = .ok (.iload_n 1, 1) := all_at dvX11_span_0 16 rfl
theorem dX11_span_33 : decode cX11_span 33 = .ok (.aload_n 0, 1) := all_at dvX11_span_0 17 rfl
theorem dX11_span_34 : decode cX11_span 34 = .ok (.getfield 85, 3) := all_at dvX11_span_0 18 rfl
theorem dX11_span_37 : decode cX11_span 37 = .ok (.invokevirtual 144, 3) := all_at dvX11_span_0 19 rfl
theorem dX11_span_40 : decode cX11_span 40 = .ok (.aload_n 0, 1) := all_at dvX11_span_0 20 rfl
theorem dX11_span_41 : decode cX11_span 41 = .ok (.getfield 51, 3) := all_at dvX11_span_0 21 rfl
theorem dX11_span_44 : decode cX11_span 44 = .ok (.getfield 147, 3) := all_at dvX11_span_0 22 rfl
theorem dX11_span_47 : decode cX11_span 47 = .ok (.getfield 151, 3) := all_at dvX11_span_0 23 rfl
set_option maxRecDepth 100000 in
theorem dvX11_span_50 : ([(50, .iconst 0, 1), (51, .iaload, 1), (52, .ifCond .ne 7, 3), (55, .ldc2_w 218, 3), (58, .lreturn, 1), (59, .aload_n 0, 1), (60, .iload_n 1, 1), (61, .iload_n 2, 1), (62, .iconst 2, 1), (63, .if_icmp .ge 7, 3), (66, .iconst 1, 1), (67, .goto 4, 3), (70, .iconst 0, 1), (71, .invokevirtual 236, 3), (74, .i2l, 1), (75, .lstore_n 3, 1), (76, .aload_n 0, 1), (77, .getfield 51, 3), (80, .getfield 147, 3), (83, .getfield 156, 3), (86, .iconst 0, 1), (87, .laload, 1), (88, .lload_n 3, 1), (89, .lsub, 1)] : List (Nat × Instr × Nat)).all (fun q => decide (decode cX11_span q.1 = .ok (q.2.1, q.2.2))) = true := by decide +kernel
theorem dX11_span_50 : decode cX11_span 50 = .ok (.iconst 0, 1) := all_at dvX11_span_50 0 rfl
theorem dX11_span_51 : decode cX11_span 51 = .ok (.iaload, 1) := all_at dvX11_span_50 1 rfl
theorem dX11_span_52 : decode cX11_span 52 = .ok (.ifCond .ne 7, 3) := all_at dvX11_span_50 2 rfl
theorem dX11_span_55 : decode cX11_span 55 = .ok (.ldc2_w 218, 3) := all_at dvX11_span_50 3 rfl
theorem dX11_span_58 : decode cX11_span 58 = .ok (.lreturn, 1) := all_at dvX11_span_50 4 rfl
theorem dX11_span_59 : decode cX11_span 59 = .ok (.aload_n 0, 1) := all_at dvX11_span_50 5 rfl
theorem dX11_span_60 : decode cX11_span 60 = .ok (.iload_n 1, 1) := all_at dvX11_span_50 6 rfl
theorem dX11_span_61 : decode cX11_span 61 = .ok (.iload_n 2, 1) := all_at dvX11_span_50 7 rfl
theorem dX11_span_62 : decode cX11_span 62 = .ok (.iconst 2, 1) := all_at dvX11_span_50 8 rfl
theorem dX11_span_63 : decode cX11_span 63 = .ok (.if_icmp .ge 7, 3) := all_at dvX11_span_50 9 rfl
theorem dX11_span_66 : decode cX11_span 66 = .ok (.iconst 1, 1) := all_at dvX11_span_50 10 rfl
theorem dX11_span_67 : decode cX11_span 67 = .ok (.goto 4, 3) := all_at dvX11_span_50 11 rfl
theorem dX11_span_70 : decode cX11_span 70 = .ok (.iconst 0, 1) := all_at dvX11_span_50 12 rfl
theorem dX11_span_71 : decode cX11_span 71 = .ok (.invokevirtual 236, 3) := all_at dvX11_span_50 13 rfl
theorem dX11_span_74 : decode cX11_span 74 = .ok (.i2l, 1) := all_at dvX11_span_50 14 rfl
theorem dX11_span_75 : decode cX11_span 75 = .ok (.lstore_n 3, 1) := all_at dvX11_span_50 15 rfl
theorem dX11_span_76 : decode cX11_span 76 = .ok (.aload_n 0, 1) := all_at dvX11_span_50 16 rfl
theorem dX11_span_77 : decode cX11_span 77 = .ok (.getfield 51, 3) := all_at dvX11_span_50 17 rfl
theorem dX11_span_80 : decode cX11_span 80 = .ok (.getfield 147, 3) := all_at dvX11_span_50 18 rfl
theorem dX11_span_83 : decode cX11_span 83 = .ok (.getfield 156, 3) := all_at dvX11_span_50 19 rfl
theorem dX11_span_86 : decode cX11_span 86 = .ok (.iconst 0, 1) := all_at dvX11_span_50 20 rfl
theorem dX11_span_87 : decode cX11_span 87 = .ok (.laload, 1) := all_at dvX11_span_50 21 rfl
theorem dX11_span_88 : decode cX11_span 88 = .ok (.lload_n 3, 1) := all_at dvX11_span_50 22 rfl
theorem dX11_span_89 : decode cX11_span 89 = .ok (.lsub, 1) := all_at dvX11_span_50 23 rfl
set_option maxRecDepth 100000 in
theorem dvX11_span_90 : ([(90, .aload_n 0, 1), (91, .iload_n 1, 1), (92, .aload_n 0, 1), (93, .getfield 85, 3), (96, .invokevirtual 224, 3), (99, .lmul, 1), (100, .lstore 5, 2), (102, .lload 5, 2), (104, .aload_n 0, 1), (105, .getfield 51, 3), (108, .getfield 147, 3), (111, .getfield 160, 3), (114, .iconst 0, 1), (115, .laload, 1), (116, .lload_n 3, 1), (117, .lsub, 1), (118, .ldc2_w 231, 3), (121, .lmul, 1), (122, .iload_n 2, 1), (123, .iconst 2, 1), (124, .irem, 1), (125, .invokestatic 163, 3), (128, .lreturn, 1)] : List (Nat × Instr × Nat)).all (fun q => decide (decode cX11_span q.1 = .ok (q.2.1, q.2.2))) = true := by decide +kernel
theorem dX11_span_90 : decode cX11_span 90 = .ok (.aload_n 0, 1) := all_at dvX11_span_90 0 rfl
theorem dX11_span_91 : decode cX11_span 91 = .ok (.iload_n 1, 1) := all_at dvX11_span_90 1 rfl
theorem dX11_span_92 : decode cX11_span 92 = .ok (.aload_n 0, 1) := all_at dvX11_span_90 2 rfl
theorem dX11_span_93 : decode cX11_span 93 = .ok (.getfield 85, 3) := all_at dvX11_span_90 3 rfl
theorem dX11_span_96 : decode cX11_span 96 = .ok (.invokevirtual 224, 3) := all_at dvX11_span_90 4 rfl
theorem dX11_span_99 : decode cX11_span 99 = .ok (.lmul, 1) := all_at dvX11_span_90 5 rfl
theorem dX11_span_100 : decode cX11_span 100 = .ok (.lstore 5, 2) := all_at dvX11_span_90 6 rfl
theorem dX11_span_102 : decode cX11_span 102 = .ok (.lload 5, 2) := all_at dvX11_span_90 7 rfl
theorem dX11_span_104 : decode cX11_span 104 = .ok (.aload_n 0, 1) := all_at dvX11_span_90 8 rfl
theorem dX11_span_105 : decode cX11_span 105 = .ok (.getfield 51, 3) := all_at dvX11_span_90 9 rfl
theorem dX11_span_108 : decode cX11_span 108 = .ok (.getfield 147, 3) := all_at dvX11_span_90 10 rfl
theorem dX11_span_111 : decode cX11_span 111 = .ok (.getfield 160, 3) := all_at dvX11_span_90 11 rfl
theorem dX11_span_114 : decode cX11_span 114 = .ok (.iconst 0, 1) := all_at dvX11_span_90 12 rfl
theorem dX11_span_115 : decode cX11_span 115 = .ok (.laload, 1) := all_at dvX11_span_90 13 rfl
theorem dX11_span_116 : decode cX11_span 116 = .ok (.lload_n 3, 1) := all_at dvX11_span_90 14 rfl
theorem dX11_span_117 : decode cX11_span 117 = .ok (.lsub, 1) := all_at dvX11_span_90 15 rfl
theorem dX11_span_118 : decode cX11_span 118 = .ok (.ldc2_w 231, 3) := all_at dvX11_span_90 16 rfl
theorem dX11_span_121 : decode cX11_span 121 = .ok (.lmul, 1) := all_at dvX11_span_90 17 rfl
theorem dX11_span_122 : decode cX11_span 122 = .ok (.iload_n 2, 1) := all_at dvX11_span_90 18 rfl
theorem dX11_span_123 : decode cX11_span 123 = .ok (.iconst 2, 1) := all_at dvX11_span_90 19 rfl
theorem dX11_span_124 : decode cX11_span 124 = .ok (.irem, 1) := all_at dvX11_span_90 20 rfl
theorem dX11_span_125 : decode cX11_span 125 = .ok (.invokestatic 163, 3) := all_at dvX11_span_90 21 rfl
theorem dX11_span_128 : decode cX11_span 128 = .ok (.lreturn, 1) := all_at dvX11_span_90 22 rfl
set_option maxRecDepth 100000 in
theorem dvX11_state_0 : ([(0, .aload_n 0, 1), (1, .getfield 26, 3), (4, .iload_n 1, 1), (5, .invokevirtual 104, 3), (8, .ifCond .ne 6, 3), (11, .ldc 108, 2), (13, .ireturn, 1), (14, .iload_n 2, 1), (15, .iconst 0, 1), (16, .aload_n 0, 1), (17, .getfield 85, 3), (20, .invokestatic 89, 3), (23, .ifCond .eq 15, 3), (26, .aload_n 0, 1), (27, .getfield 51, 3), (30, .iload_n 1, 1), (31, .iload_n 2, 1), (32, .invokevirtual 182, 3), (35, .goto 5, 3), (38, .ldc 93, 2), (40, .ireturn, 1)] : List (Nat × Instr × Nat)).all (fun q => decide (decode cX11_state q.1 = .ok (q.2.1, q.2.2))) = true := by decide +kernel
theorem dX11_state_0 : decode cX11_state 0 = .ok (.aload_n 0, 1) := all_at dvX11_state_0 0 rfl
theorem dX11_state_1 : decode cX11_state 1 = .ok (.getfield 26, 3) := all_at dvX11_state_0 1 rfl
theorem dX11_state_4 : decode cX11_state 4 = .ok (.iload_n 1, 1) := all_at dvX11_state_0 2 rfl
theorem dX11_state_5 : decode cX11_state 5 = .ok (.invokevirtual 104, 3) := all_at dvX11_state_0 3 rfl
theorem dX11_state_8 : decode cX11_state 8 = .ok (.ifCond .ne 6, 3) := all_at dvX11_state_0 4 rfl
theorem dX11_state_11 : decode cX11_state 11 = .ok (.ldc 108, 2) := all_at dvX11_state_0 5 rfl
theorem dX11_state_13 : decode cX11_state 13 = .ok (.ireturn, 1) := all_at dvX11_state_0 6 rfl
theorem dX11_state_14 : decode cX11_state 14 = .ok (.iload_n 2, 1) := all_at dvX11_state_0 7 rfl
theorem dX11_state_15 : decode cX11_state 15 = .ok (.iconst 0, 1) := all_at dvX11_state_0 8 rfl
theorem dX11_state_16 : decode cX11_state 16 = .ok (.aload_n 0, 1) := all_at dvX11_state_0 9 rfl
theorem dX11_state_17 : decode cX11_state 17 = .ok (.getfield 85, 3) := all_at dvX11_state_0 10 rfl
theorem dX11_state_20 : decode cX11_state 20 = .ok (.invokestatic 89, 3) := all_at dvX11_state_0 11 rfl
theorem dX11_state_23 : decode cX11_state 23 = .ok (.ifCond .eq 15, 3) := all_at dvX11_state_0 12 rfl
theorem dX11_state_26 : decode cX11_state 26 = .ok (.aload_n 0, 1) := all_at dvX11_state_0 13 rfl
theorem dX11_state_27 : decode cX11_state 27 = .ok (.getfield 51, 3) := all_at dvX11_state_0 14 rfl
theorem dX11_state_30 : decode cX11_state 30 = .ok (.iload_n 1, 1) := all_at dvX11_state_0 15 rfl
theorem dX11_state_31 : decode cX11_state 31 = .ok (.iload_n 2, 1) := all_at dvX11_state_0 16 rfl
theorem dX11_state_32 : decode cX11_state 32 = .ok (.invokevirtual 182, 3) := all_at dvX11_state_0 17 rfl
theorem dX11_state_35 : decode cX11_state 35 = .ok (.goto 5, 3) := all_at dvX11_state_0 18 rfl
theorem dX11_state_38 : decode cX11_state 38 = .ok (.ldc 93, 2) := all_at dvX11_state_0 19 rfl
theorem dX11_state_40 : decode cX11_state 40 = .ok (.ireturn, 1) := all_at dvX11_state_0 20 rfl
theorem sw_0_10 (x : Int32) : (x.toInt < 0 ∨ 10 < x.toInt) ∨ x = 0 ∨ x = 1 ∨ x = 2 ∨ x = 3 ∨ x = 4 ∨ x = 5 ∨ x = 6 ∨ x = 7 ∨ x = 8 ∨ x = 9 ∨ x = 10 := by
  by_cases h : x.toInt < 0 ∨ 10 < x.toInt
  · exact Or.inl h
  · right
    have h2 : x.toInt = 0 ∨ x.toInt = 1 ∨ x.toInt = 2 ∨ x.toInt = 3 ∨ x.toInt = 4 ∨ x.toInt = 5 ∨ x.toInt = 6 ∨ x.toInt = 7 ∨ x.toInt = 8 ∨ x.toInt = 9 ∨ x.toInt = 10 := by omega
    rcases h2 with h2 | h2 | h2 | h2 | h2 | h2 | h2 | h2 | h2 | h2 | h2
    · exact Or.inl (z_of (by decide) h2)
    · exact Or.inr (Or.inl (z_of (by decide) h2))
    · exact Or.inr (Or.inr (Or.inl (z_of (by decide) h2)))
    · exact Or.inr (Or.inr (Or.inr (Or.inl (z_of (by decide) h2))))
    · exact Or.inr (Or.inr (Or.inr (Or.inr (Or.inl (z_of (by decide) h2)))))
    · exact Or.inr (Or.inr (Or.inr (Or.inr (Or.inr (Or.inl (z_of (by decide) h2))))))
    · exact Or.inr (Or.inr (Or.inr (Or.inr (Or.inr (Or.inr (Or.inl (z_of (by decide) h2)))))))
    · exact Or.inr (Or.inr (Or.inr (Or.inr (Or.inr (Or.inr (Or.inr (Or.inl (z_of (by decide) h2))))))))
    · exact Or.inr (Or.inr (Or.inr (Or.inr (Or.inr (Or.inr (Or.inr (Or.inr (Or.inl (z_of (by decide) h2)))))))))
    · exact Or.inr (Or.inr (Or.inr (Or.inr (Or.inr (Or.inr (Or.inr (Or.inr (Or.inr (Or.inl (z_of (by decide) h2))))))))))
    · exact Or.inr (Or.inr (Or.inr (Or.inr (Or.inr (Or.inr (Or.inr (Or.inr (Or.inr (Or.inr (z_of (by decide) h2))))))))))
set_option maxHeartbeats 4000000 in
set_option maxRecDepth 100000 in
/-- X11_greatestDivisor -/
theorem c_X11_greatestDivisor (l : Launch) (dC : Nat → ClassId) (dI : Nat → Nat → Nat) (a : Int64) (b : Int64) : Met l yX11_greatestDivisor (wc yX11_greatestDivisor cX11_greatestDivisor 7 (some .long)) ({ frames := 0, cells := 0, slots := 0, locals := 0 } : Room) (pR (dC, dI) classes [] [] [.long a, .long b]) (vp_Sl (fun r => True)) 0 0 (fun _ => False) := by
  refine Met.ofW (cc := cX11_greatestDivisor) (maxL := 7) (ret := (some .long)) (by decide) rfl ?_
  intro p e s m args below meth c s₁ B hml hv
  obtain ⟨rfl, hP, hK⟩ := hv
  have hx := B.exec
  have hb := B.bytes
  have hr := B.returns
  have ht := tb_tl (atoms_spec (ws := wc yX11_greatestDivisor cX11_greatestDivisor 7 (some .long)) B.pre)
  have hown : s.vm.findClass RX11 = some m.cls := findClass_of_methodNamed B.named
  have hlocks := B.notSynchronized
  have hl := lv_entry [.long a, .long b] (n := 7) (Nat.le_of_ble_eq_true rfl)
  rw [lg_entry_eq]
  generalize (lg_sl [.long a, .long b] ++ List.replicate (7 - (lg_sl [.long a, .long b]).length) Slot.unset).toArray = ls at hl ⊢
  have hl : lv_has ls 7 [(0, .long a), (2, .long b)] := hl
  refine lv_iconst (v := 0) hx hb dX11_greatestDivisor_0 (by decide) ?_
  refine lv_istore (lv' := [(4, .int 0), (0, .long a), (2, .long b)]) hx hb dX11_greatestDivisor_1 hl (by decide) rfl (fun ls hl => ?_)
  have lp170 : ∀ (nn170 : Nat) (x169_4 : Int32) (x169_0 : Int64) (x169_2 : Int64), 0 ≤ x169_4.toInt ∧ x169_4.toInt ≤ 100 → 100 - x169_4.toInt < (nn170 : Int) → ∀ (ls : Array Slot), lv_has ls 7 [(4, .int x169_4), (0, .long x169_0), (2, .long x169_2)] → W p l e ({ frames := 0, cells := 0, slots := 0, locals := 0 } : Room) s m ([.long a, .long b] : List Value).toArray below meth c s.heap [] 0 0 (MQ below (vp_Sl (fun r => True)) ([.long a, .long b] : List Value).toArray s 0 0 (fun _ => False)) (F0 m 3 ls []) := by
    intro nn170
    induction nn170 with
    | zero => intro x169_4 x169_0 x169_2 hx169_4 hm170; exfalso; omega
    | succ nn170 ih170 =>
      intro x169_4 x169_0 x169_2 hx169_4 hm170 ls hl
      refine lv_iload hx hb dX11_greatestDivisor_3 (lv_at hl 0 rfl) ?_
      refine lv_bipush (v := 100) hx hb dX11_greatestDivisor_5 (by decide) ?_
      refine lv_icmp_ge (tgt := 32) hx hb dX11_greatestDivisor_7 (by decide) (fun c171 => ?_) (fun c171 => ?_)
      · have fc171 := z_le (by decide : (100 : Int32).toInt = 100) (rfl : (x169_4).toInt = _) c171
        refine lv_lload_n hx hb dX11_greatestDivisor_32 rfl (lv_at hl 1 rfl) ?_
        exact W.lret (v := x169_0) hx hb hr (fun t ht9 hW => ⟨x169_0, rfl, trivial, ht9⟩) (fun q hq => by cases hq) dX11_greatestDivisor_33
      · have fc171 := z_nle (by decide : (100 : Int32).toInt = 100) (rfl : (x169_4).toInt = _) c171
        refine lv_lload_n hx hb dX11_greatestDivisor_10 rfl (lv_at hl 2 rfl) ?_
        refine lv_lconst (v := 0) hx hb dX11_greatestDivisor_11 (by decide) ?_
        refine W.lcmp hx hb dX11_greatestDivisor_12 ?_
        refine lv_topi (fun v172 ev172 => ?_)
        refine lv_if_eq (tgt := 32) hx hb dX11_greatestDivisor_13 (by decide) (fun c173 => ?_) (fun c173 => ?_)
        · have fc173 := zc_eq ev172 (rfl : (x169_2).toInt = _) (by decide : (0 : Int64).toInt = 0) c173
          refine lv_lload_n hx hb dX11_greatestDivisor_32 rfl (lv_at hl 1 rfl) ?_
          exact W.lret (v := x169_0) hx hb hr (fun t ht9 hW => ⟨x169_0, rfl, trivial, ht9⟩) (fun q hq => by cases hq) dX11_greatestDivisor_33
        · have fc173 := zc_ne ev172 (rfl : (x169_2).toInt = _) (by decide : (0 : Int64).toInt = 0) c173
          refine lv_lload_n hx hb dX11_greatestDivisor_16 rfl (lv_at hl 1 rfl) ?_
          refine lv_lload_n hx hb dX11_greatestDivisor_17 rfl (lv_at hl 2 rfl) ?_
          refine lv_lrem hx hb dX11_greatestDivisor_18 (l_nz (rfl : (x169_2 : Int64).toInt = _) (by omega)) ?_
          refine lv_topl (fun w174 ew174 => ?_)
          refine lv_lstore (lv' := [(5, .long w174), (4, .int x169_4), (0, .long x169_0), (2, .long x169_2)]) hx hb dX11_greatestDivisor_19 hl (by decide) rfl (fun ls hl => ?_)
          refine lv_lload_n hx hb dX11_greatestDivisor_21 rfl (lv_at hl 3 rfl) ?_
          refine lv_lstore_n (lv' := [(0, .long x169_2), (5, .long w174), (4, .int x169_4), (2, .long x169_2)]) hx hb dX11_greatestDivisor_22 rfl hl (by decide) rfl (fun ls hl => ?_)
          refine lv_lload hx hb dX11_greatestDivisor_23 (lv_at hl 1 rfl) ?_
          refine lv_lstore_n (lv' := [(2, .long w174), (0, .long x169_2), (5, .long w174), (4, .int x169_4)]) hx hb dX11_greatestDivisor_25 rfl hl (by decide) rfl (fun ls hl => ?_)
          obtain ⟨v175, ev175⟩ : ∃ y : Int32, y = x169_4 + 1 := ⟨_, rfl⟩
          have tv175 := z_add ev175 rfl (by decide : (1 : Int32).toInt = 1) (by omega) (by omega)
          refine lv_iinc (v := v175) (lv' := [(4, .int v175), (2, .long w174), (0, .long x169_2), (5, .long w174)]) hx hb dX11_greatestDivisor_26 hl (k := 3) rfl (by rw [ev175]; rfl) (by decide) rfl (fun ls hl => ?_)
          refine lv_goto (tgt := 3) hx hb dX11_greatestDivisor_29 (by decide) ?_
          exact ih170 v175 x169_2 w174 ⟨by omega, by omega⟩ (by omega) ls (lv_sub hl [0, 2, 1] rfl)
  exact lp170 101 0 a b ⟨by decide, by decide⟩ (by first | decide | omega) ls (lv_sub hl [0, 1, 2] rfl)
set_option maxHeartbeats 4000000 in
set_option maxRecDepth 100000 in
/-- X11_inLeastTerms -/
theorem c_X11_inLeastTerms (l : Launch) (dC : Nat → ClassId) (dI : Nat → Nat → Nat) (a : Int64) (b : Int64) (d : Int32) : Met l yX11_inLeastTerms (wc yX11_inLeastTerms cX11_inLeastTerms 9 (some .long)) ({ frames := 1, cells := 0, slots := 0, locals := 26 } : Room) (pR (dC, dI) classes [] [] [.long a, .long b, .int d]) (vp_Sl (fun r => True)) 0 0 (fun _ => False) := by
  refine Met.ofW (cc := cX11_inLeastTerms) (maxL := 9) (ret := (some .long)) (by decide) rfl ?_
  intro p e s m args below meth c s₁ B hml hv
  obtain ⟨rfl, hP, hK⟩ := hv
  have hx := B.exec
  have hb := B.bytes
  have hr := B.returns
  have ht := tb_tl (atoms_spec (ws := wc yX11_inLeastTerms cX11_inLeastTerms 9 (some .long)) B.pre)
  have hown : s.vm.findClass RX11 = some m.cls := findClass_of_methodNamed B.named
  have hlocks := B.notSynchronized
  have hl := lv_entry [.long a, .long b, .int d] (n := 9) (Nat.le_of_ble_eq_true rfl)
  rw [lg_entry_eq]
  generalize (lg_sl [.long a, .long b, .int d] ++ List.replicate (9 - (lg_sl [.long a, .long b, .int d]).length) Slot.unset).toArray = ls at hl ⊢
  have hl : lv_has ls 9 [(0, .long a), (2, .long b), (4, .int d)] := hl
  refine lv_lload_n hx hb dX11_inLeastTerms_0 rfl (lv_at hl 0 rfl) ?_
  refine lv_lload_n hx hb dX11_inLeastTerms_1 rfl (lv_at hl 1 rfl) ?_
  refine vp_callSl (W.runS (As := [.long a, .long b]) (rest := []) ⟨hx, hb, hml, hown, ht⟩ (c_X11_greatestDivisor l dC dI a b) (kS 2 ht m_584 m_585 m_77 m_586 rfl rfl hd_X11_greatestDivisor_v ⟨Nat.le_of_ble_eq_true rfl, Nat.le_of_ble_eq_true rfl⟩) (sR noP (hK.sub (tys' := []) [] rfl)) rfl rfl hl.1 rfl (lv_room (Nat.le_of_ble_eq_true rfl)) dX11_inLeastTerms_2 ⟨Nat.le_of_ble_eq_true rfl, Nat.le_of_ble_eq_true rfl⟩) (fun r1 hr1 => ?_)
  refine lv_lstore (lv' := [(5, .long r1), (0, .long a), (2, .long b), (4, .int d)]) hx hb dX11_inLeastTerms_5 hl (by decide) rfl (fun ls hl => ?_)
  refine lv_iload hx hb dX11_inLeastTerms_7 (lv_at hl 3 rfl) ?_
  refine lv_if_ne (tgt := 16) hx hb dX11_inLeastTerms_9 (by decide) (fun c2 => ?_) (fun c2 => ?_)
  · have fc2 := z_ne (rfl : (d).toInt = _) (by decide : (0 : Int32).toInt = 0) c2
    refine lv_lload_n hx hb dX11_inLeastTerms_16 rfl (lv_at hl 2 rfl) ?_
    refine lv_lstore (lv' := [(7, .long b), (5, .long r1), (0, .long a), (2, .long b), (4, .int d)]) hx hb dX11_inLeastTerms_17 hl (by decide) rfl (fun ls hl => ?_)
    refine lv_lload hx hb dX11_inLeastTerms_19 (lv_at hl 1 rfl) ?_
    refine lv_lconst (v := 0) hx hb dX11_inLeastTerms_21 (by decide) ?_
    refine W.lcmp hx hb dX11_inLeastTerms_22 ?_
    refine lv_topi (fun v3 ev3 => ?_)
    refine lv_if_ne (tgt := 31) hx hb dX11_inLeastTerms_23 (by decide) (fun c4 => ?_) (fun c4 => ?_)
    · have fc4 := zc_ne ev3 (rfl : (r1).toInt = _) (by decide : (0 : Int64).toInt = 0) c4
      refine lv_lload hx hb dX11_inLeastTerms_31 (lv_at hl 0 rfl) ?_
      refine lv_lload hx hb dX11_inLeastTerms_33 (lv_at hl 1 rfl) ?_
      refine lv_ldiv hx hb dX11_inLeastTerms_35 (l_nz (rfl : (r1 : Int64).toInt = _) (by omega)) ?_
      refine lv_topl (fun w5 ew5 => ?_)
      exact W.lret (v := w5) hx hb hr (fun t ht9 hW => ⟨w5, rfl, trivial, ht9⟩) (fun q hq => by cases hq) dX11_inLeastTerms_36
    · have fc4 := zc_eq ev3 (rfl : (r1).toInt = _) (by decide : (0 : Int64).toInt = 0) c4
      refine lv_lload hx hb dX11_inLeastTerms_26 (lv_at hl 0 rfl) ?_
      refine lv_goto (tgt := 36) hx hb dX11_inLeastTerms_28 (by decide) ?_
      exact W.lret (v := b) hx hb hr (fun t ht9 hW => ⟨b, rfl, trivial, ht9⟩) (fun q hq => by cases hq) dX11_inLeastTerms_36
  · have fc2 := z_eq (rfl : (d).toInt = _) (by decide : (0 : Int32).toInt = 0) c2
    refine lv_lload_n hx hb dX11_inLeastTerms_12 rfl (lv_at hl 1 rfl) ?_
    refine lv_goto (tgt := 17) hx hb dX11_inLeastTerms_13 (by decide) ?_
    refine lv_lstore (lv' := [(7, .long a), (5, .long r1), (0, .long a), (2, .long b), (4, .int d)]) hx hb dX11_inLeastTerms_17 hl (by decide) rfl (fun ls hl => ?_)
    refine lv_lload hx hb dX11_inLeastTerms_19 (lv_at hl 1 rfl) ?_
    refine lv_lconst (v := 0) hx hb dX11_inLeastTerms_21 (by decide) ?_
    refine W.lcmp hx hb dX11_inLeastTerms_22 ?_
    refine lv_topi (fun v6 ev6 => ?_)
    refine lv_if_ne (tgt := 31) hx hb dX11_inLeastTerms_23 (by decide) (fun c7 => ?_) (fun c7 => ?_)
    · have fc7 := zc_ne ev6 (rfl : (r1).toInt = _) (by decide : (0 : Int64).toInt = 0) c7
      refine lv_lload hx hb dX11_inLeastTerms_31 (lv_at hl 0 rfl) ?_
      refine lv_lload hx hb dX11_inLeastTerms_33 (lv_at hl 1 rfl) ?_
      refine lv_ldiv hx hb dX11_inLeastTerms_35 (l_nz (rfl : (r1 : Int64).toInt = _) (by omega)) ?_
      refine lv_topl (fun w8 ew8 => ?_)
      exact W.lret (v := w8) hx hb hr (fun t ht9 hW => ⟨w8, rfl, trivial, ht9⟩) (fun q hq => by cases hq) dX11_inLeastTerms_36
    · have fc7 := zc_eq ev6 (rfl : (r1).toInt = _) (by decide : (0 : Int64).toInt = 0) c7
      refine lv_lload hx hb dX11_inLeastTerms_26 (lv_at hl 0 rfl) ?_
      refine lv_goto (tgt := 36) hx hb dX11_inLeastTerms_28 (by decide) ?_
      exact W.lret (v := a) hx hb hr (fun t ht9 hW => ⟨a, rfl, trivial, ht9⟩) (fun q hq => by cases hq) dX11_inLeastTerms_36
set_option maxHeartbeats 4000000 in
set_option maxRecDepth 100000 in
/-- X11_balesIn -/
theorem c_X11_balesIn (l : Launch) (dC : Nat → ClassId) (dI : Nat → Nat → Nat) (sz : Nat) (ak av : Nat → Nat) (h : Nat) (g : Nat → Nat → Nat) (ca : Nat → Nat → ClassId) (iv : Nat → Nat → Int32) (lv : Nat → Nat → Int64) (fa : Nat → Nat → Nat → Int32) (la : Nat → Nat → Nat → Int64) (hI : IX iv fa) (a : Int32) : Met l yX11_balesIn (wc yX11_balesIn cX11_balesIn 4 (some .int)) ({ frames := 5, cells := 0, slots := 0, locals := 117 } : Room) (pWZ ak av (dC, dI) classes (WX h g ca iv lv fa la) (TX ca) sz [.ref h, .int a]) (va_Qi (fun r (u : SS) => ∃ (na_1_6 : Nat → Int32) (na_30_2 : Nat → Int32) (nb_30_0 : Nat → Int64) (nb_30_1 : Nat → Int64) (ni_3_3 : Int32) (ni_3_4 : Int32), (∀ j, inb (bA 1 6 j) (na_1_6 j)) ∧ inb (bI 3 3) ni_3_3 ∧ inb (bI 3 4) ni_3_4 ∧ (True) ∧ u = ((u2 (u2 iv 3 3 ni_3_3) 3 4 ni_3_4), lv, (u2 (u2 fa 1 6 na_1_6) 30 2 na_30_2), (u2 (u2 la 30 0 nb_30_0) 30 1 nb_30_1))) (bX (dC, dI) h g ca (va_A (WX h g ca iv lv fa la) sz)) (va_A (WX h g ca iv lv fa la) sz)) 0 0 (va_A (WX h g ca iv lv fa la) sz) := by
  refine Met.ofW (cc := cX11_balesIn) (maxL := 4) (ret := (some .int)) (by decide) rfl ?_
  intro p e s m args below meth c s₁ B hml hv
  obtain ⟨rfl, hsz, hP, hK, hD0, hZ⟩ := hv
  have hx := B.exec
  have hb := B.bytes
  have hr := B.returns
  have ht := tb_tl (atoms_spec (ws := wc yX11_balesIn cX11_balesIn 4 (some .int)) B.pre)
  have hown : s.vm.findClass RX11 = some m.cls := findClass_of_methodNamed B.named
  have hlocks := B.notSynchronized
  subst hsz
  have hD := hD0.self (sz := s.heap.size)
  generalize hAe : va_A (WX h g ca iv lv fa la) s.heap.size = A at hD hZ ⊢
  have hA : ∀ q : Nat, s.heap.size ≤ q → A q := fun q h => by rw [← hAe]; exact Or.inr h
  have hS : va_S A s.heap s.heap [] := va_S.rf
  have hl := lv_entry [.ref h, .int a] (n := 4) (Nat.le_of_ble_eq_true rfl)
  rw [lg_entry_eq]
  generalize (lg_sl [.ref h, .int a] ++ List.replicate (4 - (lg_sl [.ref h, .int a]).length) Slot.unset).toArray = ls at hl ⊢
  have hl : lv_has ls 4 [(0, .ref h), (1, .int a)] := hl
  refine lv_iconst (v := 0) hx hb dX11_balesIn_0 (by decide) ?_
  refine lv_istore_n (lv' := [(2, .int 0), (0, .ref h), (1, .int a)]) hx hb dX11_balesIn_1 rfl hl (by decide) rfl (fun ls hl => ?_)
  refine lv_iconst (v := 0) hx hb dX11_balesIn_2 (by decide) ?_
  refine lv_istore_n (lv' := [(3, .int 0), (2, .int 0), (0, .ref h), (1, .int a)]) hx hb dX11_balesIn_3 rfl hl (by decide) rfl (fun ls hl => ?_)
  have lp678 : ∀ (nn678 : Nat) (x677_3 : Int32) (x677_2 : Int32) (w677_i_3_3 : Int32) (w677_i_3_4 : Int32) (w677_a_1_6 : Nat → Int32) (w677_a_30_2 : Nat → Int32) (w677_b_30_0 : Nat → Int64) (w677_b_30_1 : Nat → Int64), 0 ≤ x677_3.toInt ∧ x677_3.toInt ≤ 10 → 0 ≤ w677_i_3_3.toInt ∧ w677_i_3_3.toInt ≤ 2 → 0 ≤ w677_i_3_4.toInt ∧ w677_i_3_4.toInt ≤ 2 → (∀ j, inb (bA 1 6 j) (w677_a_1_6 j)) → (∀ j, inb (bA 30 2 j) (w677_a_30_2 j)) → 10 - x677_3.toInt < (nn678 : Int) → ∀ (H : Heap) (locs : List Loc), ∀ (ls : Array Slot), va_P (dC, dI) classes (WX h g ca (u2 (u2 iv 3 3 w677_i_3_3) 3 4 w677_i_3_4) lv (u2 (u2 fa 1 6 w677_a_1_6) 30 2 w677_a_30_2) (u2 (u2 la 30 0 w677_b_30_0) 30 1 w677_b_30_1)) H → va_D A (WX h g ca (u2 (u2 iv 3 3 w677_i_3_3) 3 4 w677_i_3_4) lv (u2 (u2 fa 1 6 w677_a_1_6) 30 2 w677_a_30_2) (u2 (u2 la 30 0 w677_b_30_0) 30 1 w677_b_30_1)) → va_S A s.heap H locs → lv_has ls 4 [(3, .int x677_3), (2, .int x677_2), (0, .ref h), (1, .int a)] → W p l e ({ frames := 5, cells := 0, slots := 0, locals := 117 } : Room) s m ([.ref h, .int a] : List Value).toArray below meth c H locs 0 0 (MQ below (va_Qi (fun r (u : SS) => ∃ (na_1_6 : Nat → Int32) (na_30_2 : Nat → Int32) (nb_30_0 : Nat → Int64) (nb_30_1 : Nat → Int64) (ni_3_3 : Int32) (ni_3_4 : Int32), (∀ j, inb (bA 1 6 j) (na_1_6 j)) ∧ inb (bI 3 3) ni_3_3 ∧ inb (bI 3 4) ni_3_4 ∧ (True) ∧ u = ((u2 (u2 iv 3 3 ni_3_3) 3 4 ni_3_4), lv, (u2 (u2 fa 1 6 na_1_6) 30 2 na_30_2), (u2 (u2 la 30 0 nb_30_0) 30 1 nb_30_1))) (bX (dC, dI) h g ca A) A) ([.ref h, .int a] : List Value).toArray s 0 0 A) (F0 m 4 ls []) := by
    intro nn678
    induction nn678 with
    | zero => intro x677_3 x677_2 w677_i_3_3 w677_i_3_4 w677_a_1_6 w677_a_30_2 w677_b_30_0 w677_b_30_1 hx677_3 hw677_i_3_3 hw677_i_3_4 hw677_a_1_6 hw677_a_30_2 hm678; exfalso; omega
    | succ nn678 ih678 =>
      intro x677_3 x677_2 w677_i_3_3 w677_i_3_4 w677_a_1_6 w677_a_30_2 w677_b_30_0 w677_b_30_1 hx677_3 hw677_i_3_3 hw677_i_3_4 hw677_a_1_6 hw677_a_30_2 hm678 H locs ls hP hD hS hl
      refine lv_iload_n hx hb dX11_balesIn_4 rfl (lv_at hl 0 rfl) ?_
      refine lv_aload_n hx hb dX11_balesIn_5 rfl (lv_at hl 2 rfl) ?_
      refine gX_11_2 hx hb ht hown hK hP m_417 dX11_balesIn_6 ?_
      have i_0_7 : 0 ≤ (iv 0 7).toInt ∧ (iv 0 7).toInt ≤ 10 := hI.1 0 7
      refine gX_0_7 hx hb ht hown hK hP m_165 (v := (iv 0 7)) rfl dX11_balesIn_9 ?_
      refine lv_icmp_ge (tgt := 40) hx hb dX11_balesIn_12 (by decide) (fun c679 => ?_) (fun c679 => ?_)
      · have fc679 := z_le (rfl : ((iv 0 7)).toInt = _) (rfl : (x677_3).toInt = _) c679
        refine lv_iload_n hx hb dX11_balesIn_40 rfl (lv_at hl 1 rfl) ?_
        have hP9 : va_P (dC, dI) classes (WX h g ca (u2 (u2 iv 3 3 w677_i_3_3) 3 4 w677_i_3_4) lv (u2 (u2 fa 1 6 w677_a_1_6) 30 2 w677_a_30_2) (u2 (u2 la 30 0 w677_b_30_0) 30 1 w677_b_30_1)) H := hP
        have hD9 : va_D A (WX h g ca (u2 (u2 iv 3 3 w677_i_3_3) 3 4 w677_i_3_4) lv (u2 (u2 fa 1 6 w677_a_1_6) 30 2 w677_a_30_2) (u2 (u2 la 30 0 w677_b_30_0) 30 1 w677_b_30_1)) := hD
        exact W.iret (v := x677_2) hx hb hr (fun t ht9 hW => ⟨⟨x677_2, ((u2 (u2 iv 3 3 w677_i_3_3) 3 4 w677_i_3_4), lv, (u2 (u2 fa 1 6 w677_a_1_6) 30 2 w677_a_30_2), (u2 (u2 la 30 0 w677_b_30_0) 30 1 w677_b_30_1)), rfl, ⟨w677_a_1_6, w677_a_30_2, w677_b_30_0, w677_b_30_1, w677_i_3_3, w677_i_3_4, hw677_a_1_6, (show inb (0, 2) w677_i_3_3 from ⟨by omega, by omega⟩), (show inb (0, 2) w677_i_3_4 from ⟨by omega, by omega⟩), trivial, rfl⟩, by rw [ht9]; exact hP9, hD9⟩, hS.F ht9⟩) hS.2.2 dX11_balesIn_41
      · have fc679 := z_nle (rfl : ((iv 0 7)).toInt = _) (rfl : (x677_3).toInt = _) c679
        refine lv_aload_n hx hb dX11_balesIn_15 rfl (lv_at hl 2 rfl) ?_
        refine gX_11_5 hx hb ht hown hK hP m_420 dX11_balesIn_16 ?_
        refine lv_iload_n hx hb dX11_balesIn_19 rfl (lv_at hl 0 rfl) ?_
        refine lv_aload_n hx hb dX11_balesIn_20 rfl (lv_at hl 2 rfl) ?_
        have i_11_10 : 0 ≤ (iv 11 10).toInt ∧ (iv 11 10).toInt ≤ 3000 := hI.1 11 10
        refine gX_11_10 hx hb ht hown hK hP m_425 (v := (iv 11 10)) rfl dX11_balesIn_21 ?_
        have hFc := free_all hD hS hA
        refine va_calli (va_runV (As := [.int x677_3, .int (iv 11 10)]) (rest := []) ⟨hx, hb, hml, hown, ht⟩ (c_X3_weighUp l dC dI H.size ak av h g ca (u2 (u2 iv 3 3 w677_i_3_3) 3 4 w677_i_3_4) lv (u2 (u2 fa 1 6 w677_a_1_6) 30 2 w677_a_30_2) (u2 (u2 la 30 0 w677_b_30_0) 30 1 w677_b_30_1) (IX_a (c := 30) (k := 2) (IX_a (c := 1) (k := 6) (IX_i (c := 3) (k := 4) (IX_i (c := 3) (k := 3) hI (show inb (0, 2) w677_i_3_3 from ⟨by omega, by omega⟩)) (show inb (0, 2) w677_i_3_4 from ⟨by omega, by omega⟩)) hw677_a_1_6) hw677_a_30_2) x677_3 (iv 11 10)) (kV 2 ht m_595 m_596 m_597 m_83 m_598 rfl rfl hd_X3_weighUp_v ⟨Nat.le_of_ble_eq_true rfl, Nat.le_of_ble_eq_true rfl⟩) (vWZ hP hK hD ((hZ.kept hS.2.1).narrow (free_all hD hS hA)) (rX_3 hK hP)) rfl rfl hl.1 rfl (lv_room (Nat.le_of_ble_eq_true rfl)) dX11_balesIn_24 ⟨Nat.le_of_ble_eq_true rfl, Nat.le_of_ble_eq_true rfl⟩) hS (fun q _ h => hFc q h) hFc (fun r680 u t H1 locs ht9 hvm hr680 hB hz1 hk1 hS => ?_)
        obtain ⟨n681, n682, n683, n684, n685, n686, hn681, hn685, hn686, hr680, rfl⟩ := hr680
        have hn682 : ∀ j, inb (bA 30 2 j) (n682 j) := fun j => full_i _
        have hn685 : 0 ≤ n685.toInt ∧ n685.toInt ≤ 2 := hn685
        have hn686 : 0 ≤ n686.toInt ∧ n686.toInt ≤ 2 := hn686
        obtain ⟨hP, hD⟩ := hB
        rw [ht9] at hP
        generalize H1 = H at hP hS ⊢
        have hP : va_P (dC, dI) classes (WX h g ca (u2 (u2 iv 3 3 n685) 3 4 n686) lv (u2 (u2 fa 1 6 n681) 30 2 n682) (u2 (u2 la 30 0 n683) 30 1 n684)) H := hP
        have hD : va_D A (WX h g ca (u2 (u2 iv 3 3 n685) 3 4 n686) lv (u2 (u2 fa 1 6 n681) 30 2 n682) (u2 (u2 la 30 0 n683) 30 1 n684)) := (show va_D _ (WX h g ca (u2 (u2 iv 3 3 n685) 3 4 n686) lv (u2 (u2 fa 1 6 n681) 30 2 n682) (u2 (u2 la 30 0 n683) 30 1 n684)) from hD).weaken (fun _ _ _ h => hFc _ h)
        refine lv_iload_n hx hb dX11_balesIn_27 rfl (lv_at hl 3 rfl) ?_
        refine lv_icmp_ne (tgt := 34) hx hb dX11_balesIn_28 (by decide) (fun c687 => ?_) (fun c687 => ?_)
        · have fc687 := z_ne (rfl : (r680).toInt = _) (rfl : (a).toInt = _) c687
          obtain ⟨v688, ev688⟩ : ∃ y : Int32, y = x677_3 + 1 := ⟨_, rfl⟩
          have tv688 := z_add ev688 rfl (by decide : (1 : Int32).toInt = 1) (by omega) (by omega)
          refine lv_iinc (v := v688) (lv' := [(3, .int v688), (2, .int x677_2), (0, .ref h), (1, .int a)]) hx hb dX11_balesIn_34 hl (k := 0) rfl (by rw [ev688]; rfl) (by decide) rfl (fun ls hl => ?_)
          refine lv_goto (tgt := 4) hx hb dX11_balesIn_37 (by decide) ?_
          exact ih678 v688 x677_2 n685 n686 n681 n682 n683 n684 ⟨by omega, by omega⟩ ⟨by omega, by omega⟩ ⟨by omega, by omega⟩ hn681 hn682 (by omega) _ _ ls hP hD hS (lv_sub hl [0, 1, 2, 3] rfl)
        · have fc687 := z_eq (rfl : (r680).toInt = _) (rfl : (a).toInt = _) c687
          obtain ⟨v689, ev689⟩ : ∃ y : Int32, y = x677_2 + 1 := ⟨_, rfl⟩
          refine lv_iinc (v := v689) (lv' := [(2, .int v689), (3, .int x677_3), (0, .ref h), (1, .int a)]) hx hb dX11_balesIn_31 hl (k := 1) rfl (by rw [ev689]; rfl) (by decide) rfl (fun ls hl => ?_)
          obtain ⟨v690, ev690⟩ : ∃ y : Int32, y = x677_3 + 1 := ⟨_, rfl⟩
          have tv690 := z_add ev690 rfl (by decide : (1 : Int32).toInt = 1) (by omega) (by omega)
          refine lv_iinc (v := v690) (lv' := [(3, .int v690), (2, .int v689), (0, .ref h), (1, .int a)]) hx hb dX11_balesIn_34 hl (k := 1) rfl (by rw [ev690]; rfl) (by decide) rfl (fun ls hl => ?_)
          refine lv_goto (tgt := 4) hx hb dX11_balesIn_37 (by decide) ?_
          exact ih678 v690 v689 n685 n686 n681 n682 n683 n684 ⟨by omega, by omega⟩ ⟨by omega, by omega⟩ ⟨by omega, by omega⟩ hn681 hn682 (by omega) _ _ ls hP hD hS (lv_sub hl [0, 1, 2, 3] rfl)
  have i_3_3 : 0 ≤ (iv 3 3).toInt ∧ (iv 3 3).toInt ≤ 2 := hI.1 3 3
  have i_3_4 : 0 ≤ (iv 3 4).toInt ∧ (iv 3 4).toInt ≤ 2 := hI.1 3 4
  exact lp678 11 0 0 (iv 3 3) (iv 3 4) (fa 1 6) (fa 30 2) (la 30 0) (la 30 1) ⟨by decide, by decide⟩ ⟨by omega, by omega⟩ ⟨by omega, by omega⟩ (hI.2 1 6) (hI.2 30 2) (by first | decide | omega) _ _ ls hP hD hS (lv_sub hl [0, 1, 2, 3] rfl)
set_option maxHeartbeats 4000000 in
set_option maxRecDepth 100000 in
/-- X11_fees -/
theorem c_X11_fees (l : Launch) (dC : Nat → ClassId) (dI : Nat → Nat → Nat) (sz : Nat) (ak av : Nat → Nat) (h : Nat) (g : Nat → Nat → Nat) (ca : Nat → Nat → ClassId) (iv : Nat → Nat → Int32) (lv : Nat → Nat → Int64) (fa : Nat → Nat → Nat → Int32) (la : Nat → Nat → Nat → Int64) (hI : IX iv fa) : Met l yX11_fees (wc yX11_fees cX11_fees 3 (some .int)) ({ frames := 4, cells := 0, slots := 0, locals := 93 } : Room) (pWZ ak av (dC, dI) classes (WX h g ca iv lv fa la) (TX ca) sz [.ref h]) (va_Qi (fun r (u : SS) => ∃ (na_1_6 : Nat → Int32), (∀ j, inb (bA 1 6 j) (na_1_6 j)) ∧ (True) ∧ u = (iv, lv, (u2 fa 1 6 na_1_6), la)) (bX (dC, dI) h g ca (va_A (WX h g ca iv lv fa la) sz)) (va_A (WX h g ca iv lv fa la) sz)) 0 0 (va_A (WX h g ca iv lv fa la) sz) := by
  refine Met.ofW (cc := cX11_fees) (maxL := 3) (ret := (some .int)) (by decide) rfl ?_
  intro p e s m args below meth c s₁ B hml hv
  obtain ⟨rfl, hsz, hP, hK, hD0, hZ⟩ := hv
  have hx := B.exec
  have hb := B.bytes
  have hr := B.returns
  have ht := tb_tl (atoms_spec (ws := wc yX11_fees cX11_fees 3 (some .int)) B.pre)
  have hown : s.vm.findClass RX11 = some m.cls := findClass_of_methodNamed B.named
  have hlocks := B.notSynchronized
  subst hsz
  have hD := hD0.self (sz := s.heap.size)
  generalize hAe : va_A (WX h g ca iv lv fa la) s.heap.size = A at hD hZ ⊢
  have hA : ∀ q : Nat, s.heap.size ≤ q → A q := fun q h => by rw [← hAe]; exact Or.inr h
  have hS : va_S A s.heap s.heap [] := va_S.rf
  have hl := lv_entry [.ref h] (n := 3) (Nat.le_of_ble_eq_true rfl)
  rw [lg_entry_eq]
  generalize (lg_sl [.ref h] ++ List.replicate (3 - (lg_sl [.ref h]).length) Slot.unset).toArray = ls at hl ⊢
  have hl : lv_has ls 3 [(0, .ref h)] := hl
  refine lv_iconst (v := 0) hx hb dX11_fees_0 (by decide) ?_
  refine lv_istore_n (lv' := [(1, .int 0), (0, .ref h)]) hx hb dX11_fees_1 rfl hl (by decide) rfl (fun ls hl => ?_)
  refine lv_iconst (v := 0) hx hb dX11_fees_2 (by decide) ?_
  refine lv_istore_n (lv' := [(2, .int 0), (1, .int 0), (0, .ref h)]) hx hb dX11_fees_3 rfl hl (by decide) rfl (fun ls hl => ?_)
  have lp249 : ∀ (nn249 : Nat) (x248_2 : Int32) (x248_1 : Int32) (w248_a_1_6 : Nat → Int32), 0 ≤ x248_2.toInt ∧ x248_2.toInt ≤ 40 → (∀ j, inb (bA 1 6 j) (w248_a_1_6 j)) → 40 - x248_2.toInt < (nn249 : Int) → ∀ (H : Heap) (locs : List Loc), ∀ (ls : Array Slot), va_P (dC, dI) classes (WX h g ca iv lv (u2 fa 1 6 w248_a_1_6) la) H → va_D A (WX h g ca iv lv (u2 fa 1 6 w248_a_1_6) la) → va_S A s.heap H locs → lv_has ls 3 [(2, .int x248_2), (1, .int x248_1), (0, .ref h)] → W p l e ({ frames := 4, cells := 0, slots := 0, locals := 93 } : Room) s m ([.ref h] : List Value).toArray below meth c H locs 0 0 (MQ below (va_Qi (fun r (u : SS) => ∃ (na_1_6 : Nat → Int32), (∀ j, inb (bA 1 6 j) (na_1_6 j)) ∧ (True) ∧ u = (iv, lv, (u2 fa 1 6 na_1_6), la)) (bX (dC, dI) h g ca A) A) ([.ref h] : List Value).toArray s 0 0 A) (F0 m 4 ls []) := by
    intro nn249
    induction nn249 with
    | zero => intro x248_2 x248_1 w248_a_1_6 hx248_2 hw248_a_1_6 hm249; exfalso; omega
    | succ nn249 ih249 =>
      intro x248_2 x248_1 w248_a_1_6 hx248_2 hw248_a_1_6 hm249 H locs ls hP hD hS hl
      refine lv_iload_n hx hb dX11_fees_4 rfl (lv_at hl 0 rfl) ?_
      refine lv_aload_n hx hb dX11_fees_5 rfl (lv_at hl 2 rfl) ?_
      refine gX_11_9 hx hb ht hown hK hP m_424 dX11_fees_6 ?_
      have i_6_7 : 0 ≤ (iv 6 7).toInt ∧ (iv 6 7).toInt ≤ 40 := hI.1 6 7
      refine gX_6_7 hx hb ht hown hK hP m_397 (v := (iv 6 7)) rfl dX11_fees_9 ?_
      refine lv_icmp_ge (tgt := 65) hx hb dX11_fees_12 (by decide) (fun c250 => ?_) (fun c250 => ?_)
      · have fc250 := z_le (rfl : ((iv 6 7)).toInt = _) (rfl : (x248_2).toInt = _) c250
        refine lv_iload_n hx hb dX11_fees_65 rfl (lv_at hl 1 rfl) ?_
        have hP9 : va_P (dC, dI) classes (WX h g ca iv lv (u2 fa 1 6 w248_a_1_6) la) H := hP
        have hD9 : va_D A (WX h g ca iv lv (u2 fa 1 6 w248_a_1_6) la) := hD
        exact W.iret (v := x248_1) hx hb hr (fun t ht9 hW => ⟨⟨x248_1, (iv, lv, (u2 fa 1 6 w248_a_1_6), la), rfl, ⟨w248_a_1_6, hw248_a_1_6, trivial, rfl⟩, by rw [ht9]; exact hP9, hD9⟩, hS.F ht9⟩) hS.2.2 dX11_fees_66
      · have fc250 := z_nle (rfl : ((iv 6 7)).toInt = _) (rfl : (x248_2).toInt = _) c250
        refine lv_aload_n hx hb dX11_fees_15 rfl (lv_at hl 2 rfl) ?_
        refine gX_11_9 hx hb ht hown hK hP m_424 dX11_fees_16 ?_
        refine lv_iload_n hx hb dX11_fees_19 rfl (lv_at hl 0 rfl) ?_
        refine vp_callSi (W.runV (As := [.int x248_2]) (rest := []) ⟨hx, hb, hml, hown, ht⟩ (c_X6_isCertificate l dC dI h g ca iv lv (u2 fa 1 6 w248_a_1_6) la (IX_a (c := 1) (k := 6) hI hw248_a_1_6) x248_2 ⟨by omega, by omega⟩) (kV 1 ht m_663 m_664 m_665 m_88 m_666 rfl rfl hd_X6_isCertificate_v ⟨Nat.le_of_ble_eq_true rfl, Nat.le_of_ble_eq_true rfl⟩) (vR hP hK (rX_6 hK hP)) rfl rfl hl.1 rfl (lv_room (Nat.le_of_ble_eq_true rfl)) dX11_fees_20 ⟨Nat.le_of_ble_eq_true rfl, Nat.le_of_ble_eq_true rfl⟩) (fun r251 hr251 => ?_)
        refine lv_if_eq (tgt := 59) hx hb dX11_fees_23 (by decide) (fun c252 => ?_) (fun c252 => ?_)
        · have fc252 := z_eq (rfl : (r251).toInt = _) (by decide : (0 : Int32).toInt = 0) c252
          obtain ⟨v253, ev253⟩ : ∃ y : Int32, y = x248_2 + 1 := ⟨_, rfl⟩
          have tv253 := z_add ev253 rfl (by decide : (1 : Int32).toInt = 1) (by omega) (by omega)
          refine lv_iinc (v := v253) (lv' := [(2, .int v253), (1, .int x248_1), (0, .ref h)]) hx hb dX11_fees_59 hl (k := 0) rfl (by rw [ev253]; rfl) (by decide) rfl (fun ls hl => ?_)
          refine lv_goto (tgt := 4) hx hb dX11_fees_62 (by decide) ?_
          exact ih249 v253 x248_1 w248_a_1_6 ⟨by omega, by omega⟩ hw248_a_1_6 (by omega) _ _ ls hP hD hS (lv_sub hl [0, 1, 2] rfl)
        · have fc252 := z_ne (rfl : (r251).toInt = _) (by decide : (0 : Int32).toInt = 0) c252
          refine lv_aload_n hx hb dX11_fees_26 rfl (lv_at hl 2 rfl) ?_
          refine gX_11_9 hx hb ht hown hK hP m_424 dX11_fees_27 ?_
          refine gX_6_3 hx hb ht hown hK hP m_390 dX11_fees_30 ?_
          refine lv_iload_n hx hb dX11_fees_33 rfl (lv_at hl 0 rfl) ?_
          refine lX_6_3 hx hb hK hP (f := (fa 6 3)) rfl (vp_in_iff.mpr ⟨by omega, by omega⟩) dX11_fees_34 ?_
          refine lv_topi (fun v254 ev254 => ?_)
          have tv254 : (-1) ≤ v254.toInt ∧ v254.toInt ≤ 39 := by rw [ev254]; exact hI.2 6 3 _
          refine lv_iconst (v := (-1)) hx hb dX11_fees_35 (by decide) ?_
          refine lv_icmp_ne (tgt := 59) hx hb dX11_fees_36 (by decide) (fun c255 => ?_) (fun c255 => ?_)
          · have fc255 := z_ne (rfl : (v254).toInt = _) (by decide : ((-1) : Int32).toInt = (-1)) c255
            obtain ⟨v256, ev256⟩ : ∃ y : Int32, y = x248_2 + 1 := ⟨_, rfl⟩
            have tv256 := z_add ev256 rfl (by decide : (1 : Int32).toInt = 1) (by omega) (by omega)
            refine lv_iinc (v := v256) (lv' := [(2, .int v256), (1, .int x248_1), (0, .ref h)]) hx hb dX11_fees_59 hl (k := 0) rfl (by rw [ev256]; rfl) (by decide) rfl (fun ls hl => ?_)
            refine lv_goto (tgt := 4) hx hb dX11_fees_62 (by decide) ?_
            exact ih249 v256 x248_1 w248_a_1_6 ⟨by omega, by omega⟩ hw248_a_1_6 (by omega) _ _ ls hP hD hS (lv_sub hl [0, 1, 2] rfl)
          · have fc255 := z_eq (rfl : (v254).toInt = _) (by decide : ((-1) : Int32).toInt = (-1)) c255
            refine lv_iload_n hx hb dX11_fees_39 rfl (lv_at hl 1 rfl) ?_
            refine lv_aload_n hx hb dX11_fees_40 rfl (lv_at hl 2 rfl) ?_
            refine gX_11_3 hx hb ht hown hK hP m_418 dX11_fees_41 ?_
            refine lv_iconst (v := 4) hx hb dX11_fees_44 (by decide) ?_
            refine lv_aload_n hx hb dX11_fees_45 rfl (lv_at hl 2 rfl) ?_
            refine gX_11_9 hx hb ht hown hK hP m_424 dX11_fees_46 ?_
            refine gX_6_4 hx hb ht hown hK hP m_392 dX11_fees_49 ?_
            refine lv_iload_n hx hb dX11_fees_52 rfl (lv_at hl 0 rfl) ?_
            refine lX_6_4 hx hb hK hP (f := (fa 6 4)) rfl (vp_in_iff.mpr ⟨by omega, by omega⟩) dX11_fees_53 ?_
            refine lv_topi (fun v257 ev257 => ?_)
            have hFc := free_all hD hS hA
            refine va_calli (va_runV (As := [.int 4, .int v257]) (rest := [.int x248_1]) ⟨hx, hb, hml, hown, ht⟩ (c_X1_holding l dC dI H.size ak av h g ca iv lv (u2 fa 1 6 w248_a_1_6) la (IX_a (c := 1) (k := 6) hI hw248_a_1_6) 4 v257 ⟨by decide, by decide⟩) (kV 2 ht m_667 m_601 m_602 m_81 m_603 rfl rfl hd_X1_holding_v ⟨Nat.le_of_ble_eq_true rfl, Nat.le_of_ble_eq_true rfl⟩) (vWZ hP hK hD ((hZ.kept hS.2.1).narrow (free_all hD hS hA)) (rX_1 hK hP)) rfl rfl hl.1 rfl (lv_room (Nat.le_of_ble_eq_true rfl)) dX11_fees_54 ⟨Nat.le_of_ble_eq_true rfl, Nat.le_of_ble_eq_true rfl⟩) hS (fun q _ h => hFc q h) hFc (fun r258 u t H1 locs ht9 hvm hr258 hB hz1 hk1 hS => ?_)
            obtain ⟨n259, hn259, hr258, rfl⟩ := hr258
            obtain ⟨hP, hD⟩ := hB
            rw [ht9] at hP
            generalize H1 = H at hP hS ⊢
            have hP : va_P (dC, dI) classes (WX h g ca iv lv (u2 fa 1 6 n259) la) H := hP
            have hD : va_D A (WX h g ca iv lv (u2 fa 1 6 n259) la) := (show va_D _ (WX h g ca iv lv (u2 fa 1 6 n259) la) from hD).weaken (fun _ _ _ h => hFc _ h)
            refine lv_iadd hx hb dX11_fees_57 ?_
            refine lv_topi (fun v260 ev260 => ?_)
            refine lv_istore_n (lv' := [(1, .int v260), (2, .int x248_2), (0, .ref h)]) hx hb dX11_fees_58 rfl hl (by decide) rfl (fun ls hl => ?_)
            obtain ⟨v261, ev261⟩ : ∃ y : Int32, y = x248_2 + 1 := ⟨_, rfl⟩
            have tv261 := z_add ev261 rfl (by decide : (1 : Int32).toInt = 1) (by omega) (by omega)
            refine lv_iinc (v := v261) (lv' := [(2, .int v261), (1, .int v260), (0, .ref h)]) hx hb dX11_fees_59 hl (k := 1) rfl (by rw [ev261]; rfl) (by decide) rfl (fun ls hl => ?_)
            refine lv_goto (tgt := 4) hx hb dX11_fees_62 (by decide) ?_
            exact ih249 v261 v260 n259 ⟨by omega, by omega⟩ hn259 (by omega) _ _ ls hP hD hS (lv_sub hl [0, 1, 2] rfl)
  exact lp249 41 0 0 (fa 1 6) ⟨by decide, by decide⟩ (hI.2 1 6) (by first | decide | omega) _ _ ls hP hD hS (lv_sub hl [0, 1, 2] rfl)
set_option maxHeartbeats 4000000 in
set_option maxRecDepth 100000 in
/-- X11_moistened -/
theorem c_X11_moistened (l : Launch) (dC : Nat → ClassId) (dI : Nat → Nat → Nat) (sz : Nat) (ak av : Nat → Nat) (h : Nat) (g : Nat → Nat → Nat) (ca : Nat → Nat → ClassId) (iv : Nat → Nat → Int32) (lv : Nat → Nat → Int64) (fa : Nat → Nat → Nat → Int32) (la : Nat → Nat → Nat → Int64) (hI : IX iv fa) (a : Int32) (b : Int32) (h_a : 0 ≤ a.toInt ∧ a.toInt ≤ 9) : Met l yX11_moistened (wc yX11_moistened cX11_moistened 3 (some .long)) ({ frames := 4, cells := 0, slots := 0, locals := 93 } : Room) (pWZ ak av (dC, dI) classes (WX h g ca iv lv fa la) (TX ca) sz [.ref h, .int a, .int b]) (va_Ql (fun r (u : SS) => ∃ (na_1_6 : Nat → Int32), (∀ j, inb (bA 1 6 j) (na_1_6 j)) ∧ (True) ∧ u = (iv, lv, (u2 fa 1 6 na_1_6), la)) (bX (dC, dI) h g ca (va_A (WX h g ca iv lv fa la) sz)) (va_A (WX h g ca iv lv fa la) sz)) 0 0 (va_A (WX h g ca iv lv fa la) sz) := by
  refine Met.ofW (cc := cX11_moistened) (maxL := 3) (ret := (some .long)) (by decide) rfl ?_
  intro p e s m args below meth c s₁ B hml hv
  obtain ⟨rfl, hsz, hP, hK, hD0, hZ⟩ := hv
  have hx := B.exec
  have hb := B.bytes
  have hr := B.returns
  have ht := tb_tl (atoms_spec (ws := wc yX11_moistened cX11_moistened 3 (some .long)) B.pre)
  have hown : s.vm.findClass RX11 = some m.cls := findClass_of_methodNamed B.named
  have hlocks := B.notSynchronized
  subst hsz
  have hD := hD0.self (sz := s.heap.size)
  generalize hAe : va_A (WX h g ca iv lv fa la) s.heap.size = A at hD hZ ⊢
  have hA : ∀ q : Nat, s.heap.size ≤ q → A q := fun q h => by rw [← hAe]; exact Or.inr h
  have hS : va_S A s.heap s.heap [] := va_S.rf
  have hl := lv_entry [.ref h, .int a, .int b] (n := 3) (Nat.le_of_ble_eq_true rfl)
  rw [lg_entry_eq]
  generalize (lg_sl [.ref h, .int a, .int b] ++ List.replicate (3 - (lg_sl [.ref h, .int a, .int b]).length) Slot.unset).toArray = ls at hl ⊢
  have hl : lv_has ls 3 [(0, .ref h), (1, .int a), (2, .int b)] := hl
  refine lv_aload_n hx hb dX11_moistened_0 rfl (lv_at hl 0 rfl) ?_
  refine gX_11_2 hx hb ht hown hK hP m_417 dX11_moistened_1 ?_
  refine gX_0_0 hx hb ht hown hK hP m_153 dX11_moistened_4 ?_
  refine lv_iload_n hx hb dX11_moistened_7 rfl (lv_at hl 1 rfl) ?_
  refine lX_0_0 hx hb hK hP (f := (fa 0 0)) rfl (vp_in_iff.mpr ⟨by omega, by omega⟩) dX11_moistened_8 ?_
  refine lv_topi (fun v1 ev1 => ?_)
  refine lv_i2l (v := (v1.toInt64)) hx hb dX11_moistened_9 rfl ?_
  refine lv_ldc2 hx hb hown (ht _ m_848) dX11_moistened_10 ?_
  refine lv_aload_n hx hb dX11_moistened_13 rfl (lv_at hl 0 rfl) ?_
  refine gX_11_3 hx hb ht hown hK hP m_418 dX11_moistened_14 ?_
  refine lv_iconst (v := 0) hx hb dX11_moistened_17 (by decide) ?_
  refine lv_iload_n hx hb dX11_moistened_18 rfl (lv_at hl 2 rfl) ?_
  have hFc := free_all hD hS hA
  refine va_calli (va_runV (As := [.int 0, .int b]) (rest := [.long 1000, .long (v1.toInt64)]) ⟨hx, hb, hml, hown, ht⟩ (c_X1_holding l dC dI s.heap.size ak av h g ca iv lv fa la hI 0 b ⟨by decide, by decide⟩) (kV 2 ht m_667 m_601 m_602 m_81 m_603 rfl rfl hd_X1_holding_v ⟨Nat.le_of_ble_eq_true rfl, Nat.le_of_ble_eq_true rfl⟩) (vWZ hP hK hD ((hZ.kept hS.2.1).narrow (free_all hD hS hA)) (rX_1 hK hP)) rfl rfl hl.1 rfl (lv_room (Nat.le_of_ble_eq_true rfl)) dX11_moistened_19 ⟨Nat.le_of_ble_eq_true rfl, Nat.le_of_ble_eq_true rfl⟩) hS (fun q _ h => hFc q h) hFc (fun r2 u t H1 locs ht9 hvm hr2 hB hz1 hk1 hS => ?_)
  obtain ⟨n3, hn3, hr2, rfl⟩ := hr2
  obtain ⟨hP, hD⟩ := hB
  rw [ht9] at hP
  generalize H1 = H at hP hS ⊢
  have hP : va_P (dC, dI) classes (WX h g ca iv lv (u2 fa 1 6 n3) la) H := hP
  have hD : va_D A (WX h g ca iv lv (u2 fa 1 6 n3) la) := (show va_D _ (WX h g ca iv lv (u2 fa 1 6 n3) la) from hD).weaken (fun _ _ _ h => hFc _ h)
  refine lv_i2l (v := (r2.toInt64)) hx hb dX11_moistened_22 rfl ?_
  refine lv_ladd hx hb dX11_moistened_23 ?_
  refine lv_topl (fun w4 ew4 => ?_)
  refine lv_lmul hx hb dX11_moistened_24 ?_
  refine lv_topl (fun w5 ew5 => ?_)
  have hP9 : va_P (dC, dI) classes (WX h g ca iv lv (u2 fa 1 6 n3) la) H := hP
  have hD9 : va_D A (WX h g ca iv lv (u2 fa 1 6 n3) la) := hD
  exact W.lret (v := w5) hx hb hr (fun t ht9 hW => ⟨⟨w5, (iv, lv, (u2 fa 1 6 n3), la), rfl, ⟨n3, hn3, trivial, rfl⟩, by rw [ht9]; exact hP9, hD9⟩, hS.F ht9⟩) hS.2.2 dX11_moistened_25
set_option maxHeartbeats 4000000 in
set_option maxRecDepth 100000 in
/-- X11_span -/
theorem c_X11_span (l : Launch) (dC : Nat → ClassId) (dI : Nat → Nat → Nat) (sz : Nat) (ak av : Nat → Nat) (h : Nat) (g : Nat → Nat → Nat) (ca : Nat → Nat → ClassId) (iv : Nat → Nat → Int32) (lv : Nat → Nat → Int64) (fa : Nat → Nat → Nat → Int32) (la : Nat → Nat → Nat → Int64) (hI : IX iv fa) (a : Int32) (b : Int32) : Met l yX11_span (wc yX11_span cX11_span 7 (some .long)) ({ frames := 5, cells := 0, slots := 0, locals := 115 } : Room) (pWZ ak av (dC, dI) classes (WX h g ca iv lv fa la) (TX ca) sz [.ref h, .int a, .int b]) (va_Ql (fun r (u : SS) => ∃ (na_1_6 : Nat → Int32) (na_30_2 : Nat → Int32) (nb_30_0 : Nat → Int64) (nb_30_1 : Nat → Int64), (∀ j, inb (bA 1 6 j) (na_1_6 j)) ∧ (True) ∧ u = (iv, lv, (u2 (u2 fa 1 6 na_1_6) 30 2 na_30_2), (u2 (u2 la 30 0 nb_30_0) 30 1 nb_30_1))) (bX (dC, dI) h g ca (va_A (WX h g ca iv lv fa la) sz)) (va_A (WX h g ca iv lv fa la) sz)) 0 0 (va_A (WX h g ca iv lv fa la) sz) := by
  refine Met.ofW (cc := cX11_span) (maxL := 7) (ret := (some .long)) (by decide) rfl ?_
  intro p e s m args below meth c s₁ B hml hv
  obtain ⟨rfl, hsz, hP, hK, hD0, hZ⟩ := hv
  have hx := B.exec
  have hb := B.bytes
  have hr := B.returns
  have ht := tb_tl (atoms_spec (ws := wc yX11_span cX11_span 7 (some .long)) B.pre)
  have hown : s.vm.findClass RX11 = some m.cls := findClass_of_methodNamed B.named
  have hlocks := B.notSynchronized
  subst hsz
  have hD := hD0.self (sz := s.heap.size)
  generalize hAe : va_A (WX h g ca iv lv fa la) s.heap.size = A at hD hZ ⊢
  have hA : ∀ q : Nat, s.heap.size ≤ q → A q := fun q h => by rw [← hAe]; exact Or.inr h
  have hS : va_S A s.heap s.heap [] := va_S.rf
  have hl := lv_entry [.ref h, .int a, .int b] (n := 7) (Nat.le_of_ble_eq_true rfl)
  rw [lg_entry_eq]
  generalize (lg_sl [.ref h, .int a, .int b] ++ List.replicate (7 - (lg_sl [.ref h, .int a, .int b]).length) Slot.unset).toArray = ls at hl ⊢
  have hl : lv_has ls 7 [(0, .ref h), (1, .int a), (2, .int b)] := hl
  refine lv_aload_n hx hb dX11_span_0 rfl (lv_at hl 0 rfl) ?_
  refine gX_11_2 hx hb ht hown hK hP m_417 dX11_span_1 ?_
  refine lv_iload_n hx hb dX11_span_4 rfl (lv_at hl 1 rfl) ?_
  refine vp_callSi (W.runV (As := [.int a]) (rest := []) ⟨hx, hb, hml, hown, ht⟩ (c_X0_has l dC dI h g ca iv lv fa la hI a) (kV 1 ht m_472 m_473 m_474 m_80 m_475 rfl rfl hd_X0_has_v ⟨Nat.le_of_ble_eq_true rfl, Nat.le_of_ble_eq_true rfl⟩) (vR hP hK (rX_0 hK hP)) rfl rfl hl.1 rfl (lv_room (Nat.le_of_ble_eq_true rfl)) dX11_span_5 ⟨Nat.le_of_ble_eq_true rfl, Nat.le_of_ble_eq_true rfl⟩) (fun r1 hr1 => ?_)
  rcases hr1 with ⟨rfl, fr1⟩ | ⟨rfl, fr1⟩
  · skip
    have i_0_7 : 0 ≤ (iv 0 7).toInt ∧ (iv 0 7).toInt ≤ 10 := hI.1 0 7
    have fr1 : (0 ≤ (a : Int32).toInt ∧ (a : Int32).toInt < ((iv 0 7) : Int32).toInt) := fr1
    refine lv_if_ne (tgt := 15) hx hb dX11_span_8 (by decide) (fun c2 => ?_) (fun c2 => ?_)
    · skip
      refine lv_iload_n hx hb dX11_span_15 rfl (lv_at hl 2 rfl) ?_
      refine lv_iconst (v := 0) hx hb dX11_span_16 (by decide) ?_
      refine lv_iconst (v := 3) hx hb dX11_span_17 (by decide) ?_
      refine vp_callSi (W.runS (As := [.int b, .int 0, .int 3]) (rest := []) ⟨hx, hb, hml, hown, ht⟩ (c_X11_within l dC dI b 0 3 (b.toInt) (0) (3) (rfl : (b).toInt = _) (by decide : (0 : Int32).toInt = 0) (by decide : (3 : Int32).toInt = 3)) (kS 3 ht m_453 m_454 m_77 m_455 rfl rfl hd_X11_within_v ⟨Nat.le_of_ble_eq_true rfl, Nat.le_of_ble_eq_true rfl⟩) (sR noP (hK.sub (tys' := []) [] rfl)) rfl rfl hl.1 rfl (lv_room (Nat.le_of_ble_eq_true rfl)) dX11_span_18 ⟨Nat.le_of_ble_eq_true rfl, Nat.le_of_ble_eq_true rfl⟩) (fun r3 hr3 => ?_)
      rcases hr3 with ⟨rfl, fr3⟩ | ⟨rfl, fr3⟩
      · skip
        refine lv_if_ne (tgt := 28) hx hb dX11_span_21 (by decide) (fun c4 => ?_) (fun c4 => ?_)
        · skip
          refine lv_aload_n hx hb dX11_span_28 rfl (lv_at hl 0 rfl) ?_
          refine gX_11_5 hx hb ht hown hK hP m_420 dX11_span_29 ?_
          refine lv_iload_n hx hb dX11_span_32 rfl (lv_at hl 1 rfl) ?_
          refine lv_aload_n hx hb dX11_span_33 rfl (lv_at hl 0 rfl) ?_
          have i_11_10 : 0 ≤ (iv 11 10).toInt ∧ (iv 11 10).toInt ≤ 3000 := hI.1 11 10
          refine gX_11_10 hx hb ht hown hK hP m_425 (v := (iv 11 10)) rfl dX11_span_34 ?_
          have hFc := free_all hD hS hA
          refine va_callv (va_runV (As := [.int a, .int (iv 11 10)]) (rest := []) ⟨hx, hb, hml, hown, ht⟩ (c_X3_gather l dC dI s.heap.size h g ca iv lv fa la hI a (iv 11 10)) (kV 2 ht m_564 m_565 m_566 m_83 m_567 rfl rfl hd_X3_gather_v ⟨Nat.le_of_ble_eq_true rfl, Nat.le_of_ble_eq_true rfl⟩) (vW hP hK hD (rX_3 hK hP)) rfl rfl hl.1 rfl (lv_room (Nat.le_of_ble_eq_true rfl)) dX11_span_37 ⟨Nat.le_of_ble_eq_true rfl, Nat.le_of_ble_eq_true rfl⟩) hS (fun q _ h => hFc q h) hFc (fun u t H1 locs ht9 hvm hr5 hB hz1 hk1 hS => ?_)
          obtain ⟨n6, n7, n8, rfl⟩ := hr5
          have hn6 : ∀ j, inb (bA 30 2 j) (n6 j) := fun j => full_i _
          obtain ⟨hP, hD⟩ := hB
          rw [ht9] at hP
          generalize H1 = H at hP hS ⊢
          have hP : va_P (dC, dI) classes (WX h g ca iv lv (u2 fa 30 2 n6) (u2 (u2 la 30 0 n7) 30 1 n8)) H := hP
          have hD : va_D A (WX h g ca iv lv (u2 fa 30 2 n6) (u2 (u2 la 30 0 n7) 30 1 n8)) := (show va_D _ (WX h g ca iv lv (u2 fa 30 2 n6) (u2 (u2 la 30 0 n7) 30 1 n8)) from hD).weaken (fun _ _ _ h => hFc _ h)
          refine lv_aload_n hx hb dX11_span_40 rfl (lv_at hl 0 rfl) ?_
          refine gX_11_5 hx hb ht hown hK hP m_420 dX11_span_41 ?_
          refine gX_3_2 hx hb ht hown hK hP m_282 dX11_span_44 ?_
          refine gX_30_2 hx hb ht hown hK hP m_270 dX11_span_47 ?_
          refine lv_iconst (v := 0) hx hb dX11_span_50 (by decide) ?_
          refine lX_30_2 hx hb hK hP (f := n6) rfl (vp_in_iff.mpr (by decide)) dX11_span_51 ?_
          refine lv_topi (fun v9 ev9 => ?_)
          refine lv_if_ne (tgt := 59) hx hb dX11_span_52 (by decide) (fun c10 => ?_) (fun c10 => ?_)
          · have fc10 := z_ne (rfl : (v9).toInt = _) (by decide : (0 : Int32).toInt = 0) c10
            refine lv_aload_n hx hb dX11_span_59 rfl (lv_at hl 0 rfl) ?_
            refine lv_iload_n hx hb dX11_span_60 rfl (lv_at hl 1 rfl) ?_
            refine lv_iload_n hx hb dX11_span_61 rfl (lv_at hl 2 rfl) ?_
            refine lv_iconst (v := 2) hx hb dX11_span_62 (by decide) ?_
            refine lv_icmp_ge (tgt := 70) hx hb dX11_span_63 (by decide) (fun c11 => ?_) (fun c11 => ?_)
            · have fc11 := z_le (by decide : (2 : Int32).toInt = 2) (rfl : (b).toInt = _) c11
              refine lv_iconst (v := 0) hx hb dX11_span_70 (by decide) ?_
              refine vp_callSi (W.runV (As := [.int a, .int 0]) (rest := []) ⟨hx, hb, hml, hown, ht⟩ (c_X11_errors l dC dI h g ca iv lv (u2 fa 30 2 n6) (u2 (u2 la 30 0 n7) 30 1 n8) (IX_a (c := 30) (k := 2) hI hn6) a 0 ⟨by decide, by decide⟩) (kV 2 ht m_858 m_860 m_30 m_77 m_861 rfl rfl hd_X11_errors_v ⟨Nat.le_of_ble_eq_true rfl, Nat.le_of_ble_eq_true rfl⟩) (vR hP hK (rX_11 hK hP)) rfl rfl hl.1 rfl (lv_room (Nat.le_of_ble_eq_true rfl)) dX11_span_71 ⟨Nat.le_of_ble_eq_true rfl, Nat.le_of_ble_eq_true rfl⟩) (fun r12 hr12 => ?_)
              refine lv_i2l (v := (r12.toInt64)) hx hb dX11_span_74 rfl ?_
              refine lv_lstore_n (lv' := [(3, .long (r12.toInt64)), (0, .ref h), (1, .int a), (2, .int b)]) hx hb dX11_span_75 rfl hl (by decide) rfl (fun ls hl => ?_)
              refine lv_aload_n hx hb dX11_span_76 rfl (lv_at hl 1 rfl) ?_
              refine gX_11_5 hx hb ht hown hK hP m_420 dX11_span_77 ?_
              refine gX_3_2 hx hb ht hown hK hP m_282 dX11_span_80 ?_
              refine gX_30_1 hx hb ht hown hK hP m_266 dX11_span_83 ?_
              refine lv_iconst (v := 0) hx hb dX11_span_86 (by decide) ?_
              refine lX_30_1 hx hb hK hP (f := n8) rfl (vp_in_iff.mpr (by decide)) dX11_span_87 ?_
              refine lv_topl (fun w13 ew13 => ?_)
              refine lv_lload_n hx hb dX11_span_88 rfl (lv_at hl 0 rfl) ?_
              refine lv_lsub hx hb dX11_span_89 ?_
              refine lv_topl (fun w14 ew14 => ?_)
              refine lv_aload_n hx hb dX11_span_90 rfl (lv_at hl 1 rfl) ?_
              refine lv_iload_n hx hb dX11_span_91 rfl (lv_at hl 2 rfl) ?_
              refine lv_aload_n hx hb dX11_span_92 rfl (lv_at hl 1 rfl) ?_
              refine gX_11_10 hx hb ht hown hK hP m_425 (v := (iv 11 10)) rfl dX11_span_93 ?_
              have hFc := free_all hD hS hA
              refine va_calll (va_runV (As := [.int a, .int (iv 11 10)]) (rest := [.long w14]) ⟨hx, hb, hml, hown, ht⟩ (c_X11_moistened l dC dI H.size ak av h g ca iv lv (u2 fa 30 2 n6) (u2 (u2 la 30 0 n7) 30 1 n8) (IX_a (c := 30) (k := 2) hI hn6) a (iv 11 10) ⟨by omega, by omega⟩) (kV 2 ht m_844 m_846 m_29 m_77 m_847 rfl rfl hd_X11_moistened_v ⟨Nat.le_of_ble_eq_true rfl, Nat.le_of_ble_eq_true rfl⟩) (vWZ hP hK hD ((hZ.kept hS.2.1).narrow (free_all hD hS hA)) (rX_11 hK hP)) rfl rfl hl.1 rfl (lv_room (Nat.le_of_ble_eq_true rfl)) dX11_span_96 ⟨Nat.le_of_ble_eq_true rfl, Nat.le_of_ble_eq_true rfl⟩) hS (fun q _ h => hFc q h) hFc (fun r15 u t H1 locs ht9 hvm hr15 hB hz1 hk1 hS => ?_)
              obtain ⟨n16, hn16, hr15, rfl⟩ := hr15
              obtain ⟨hP, hD⟩ := hB
              rw [ht9] at hP
              generalize H1 = H at hP hS ⊢
              have hP : va_P (dC, dI) classes (WX h g ca iv lv (u2 (u2 fa 30 2 n6) 1 6 n16) (u2 (u2 la 30 0 n7) 30 1 n8)) H := hP
              have hD : va_D A (WX h g ca iv lv (u2 (u2 fa 30 2 n6) 1 6 n16) (u2 (u2 la 30 0 n7) 30 1 n8)) := (show va_D _ (WX h g ca iv lv (u2 (u2 fa 30 2 n6) 1 6 n16) (u2 (u2 la 30 0 n7) 30 1 n8)) from hD).weaken (fun _ _ _ h => hFc _ h)
              refine lv_lmul hx hb dX11_span_99 ?_
              refine lv_topl (fun w17 ew17 => ?_)
              refine lv_lstore (lv' := [(5, .long w17), (3, .long (r12.toInt64)), (0, .ref h), (1, .int a), (2, .int b)]) hx hb dX11_span_100 hl (by decide) rfl (fun ls hl => ?_)
              refine lv_lload hx hb dX11_span_102 (lv_at hl 0 rfl) ?_
              refine lv_aload_n hx hb dX11_span_104 rfl (lv_at hl 2 rfl) ?_
              refine gX_11_5 hx hb ht hown hK hP m_420 dX11_span_105 ?_
              refine gX_3_2 hx hb ht hown hK hP m_282 dX11_span_108 ?_
              refine gX_30_0 hx hb ht hown hK hP m_263 dX11_span_111 ?_
              refine lv_iconst (v := 0) hx hb dX11_span_114 (by decide) ?_
              refine lX_30_0 hx hb hK hP (f := n7) rfl (vp_in_iff.mpr (by decide)) dX11_span_115 ?_
              refine lv_topl (fun w18 ew18 => ?_)
              refine lv_lload_n hx hb dX11_span_116 rfl (lv_at hl 1 rfl) ?_
              refine lv_lsub hx hb dX11_span_117 ?_
              refine lv_topl (fun w19 ew19 => ?_)
              refine lv_ldc2 hx hb hown (ht _ m_848) dX11_span_118 ?_
              refine lv_lmul hx hb dX11_span_121 ?_
              refine lv_topl (fun w20 ew20 => ?_)
              refine lv_iload_n hx hb dX11_span_122 rfl (lv_at hl 4 rfl) ?_
              refine lv_iconst (v := 2) hx hb dX11_span_123 (by decide) ?_
              refine lv_irem hx hb dX11_span_124 (by decide) ?_
              refine lv_topi (fun v21 ev21 => ?_)
              have tv21 := z_remp ev21 (rfl : (b).toInt = _) (by decide : (2 : Int32).toInt = 2) (by omega) (by omega)
              refine vp_callSl (W.runS (As := [.long w17, .long w20, .int v21]) (rest := []) ⟨hx, hb, hml, hown, ht⟩ (c_X11_inLeastTerms l dC dI w17 w20 v21) (kS 3 ht m_581 m_582 m_77 m_583 rfl rfl hd_X11_inLeastTerms_v ⟨Nat.le_of_ble_eq_true rfl, Nat.le_of_ble_eq_true rfl⟩) (sR noP (hK.sub (tys' := []) [] rfl)) rfl rfl hl.1 rfl (lv_room (Nat.le_of_ble_eq_true rfl)) dX11_span_125 ⟨Nat.le_of_ble_eq_true rfl, Nat.le_of_ble_eq_true rfl⟩) (fun r22 hr22 => ?_)
              have hP9 : va_P (dC, dI) classes (WX h g ca iv lv (u2 (u2 fa 1 6 n16) 30 2 n6) (u2 (u2 la 30 0 n7) 30 1 n8)) H := hP
              have hD9 : va_D A (WX h g ca iv lv (u2 (u2 fa 1 6 n16) 30 2 n6) (u2 (u2 la 30 0 n7) 30 1 n8)) := hD
              exact W.lret (v := r22) hx hb hr (fun t ht9 hW => ⟨⟨r22, (iv, lv, (u2 (u2 fa 1 6 n16) 30 2 n6), (u2 (u2 la 30 0 n7) 30 1 n8)), rfl, ⟨n16, n6, n7, n8, hn16, trivial, rfl⟩, by rw [ht9]; exact hP9, hD9⟩, hS.F ht9⟩) hS.2.2 dX11_span_128
            · have fc11 := z_nle (by decide : (2 : Int32).toInt = 2) (rfl : (b).toInt = _) c11
              refine lv_iconst (v := 1) hx hb dX11_span_66 (by decide) ?_
              refine lv_goto (tgt := 71) hx hb dX11_span_67 (by decide) ?_
              refine vp_callSi (W.runV (As := [.int a, .int 1]) (rest := []) ⟨hx, hb, hml, hown, ht⟩ (c_X11_errors l dC dI h g ca iv lv (u2 fa 30 2 n6) (u2 (u2 la 30 0 n7) 30 1 n8) (IX_a (c := 30) (k := 2) hI hn6) a 1 ⟨by decide, by decide⟩) (kV 2 ht m_858 m_860 m_30 m_77 m_861 rfl rfl hd_X11_errors_v ⟨Nat.le_of_ble_eq_true rfl, Nat.le_of_ble_eq_true rfl⟩) (vR hP hK (rX_11 hK hP)) rfl rfl hl.1 rfl (lv_room (Nat.le_of_ble_eq_true rfl)) dX11_span_71 ⟨Nat.le_of_ble_eq_true rfl, Nat.le_of_ble_eq_true rfl⟩) (fun r23 hr23 => ?_)
              refine lv_i2l (v := (r23.toInt64)) hx hb dX11_span_74 rfl ?_
              refine lv_lstore_n (lv' := [(3, .long (r23.toInt64)), (0, .ref h), (1, .int a), (2, .int b)]) hx hb dX11_span_75 rfl hl (by decide) rfl (fun ls hl => ?_)
              refine lv_aload_n hx hb dX11_span_76 rfl (lv_at hl 1 rfl) ?_
              refine gX_11_5 hx hb ht hown hK hP m_420 dX11_span_77 ?_
              refine gX_3_2 hx hb ht hown hK hP m_282 dX11_span_80 ?_
              refine gX_30_1 hx hb ht hown hK hP m_266 dX11_span_83 ?_
              refine lv_iconst (v := 0) hx hb dX11_span_86 (by decide) ?_
              refine lX_30_1 hx hb hK hP (f := n8) rfl (vp_in_iff.mpr (by decide)) dX11_span_87 ?_
              refine lv_topl (fun w24 ew24 => ?_)
              refine lv_lload_n hx hb dX11_span_88 rfl (lv_at hl 0 rfl) ?_
              refine lv_lsub hx hb dX11_span_89 ?_
              refine lv_topl (fun w25 ew25 => ?_)
              refine lv_aload_n hx hb dX11_span_90 rfl (lv_at hl 1 rfl) ?_
              refine lv_iload_n hx hb dX11_span_91 rfl (lv_at hl 2 rfl) ?_
              refine lv_aload_n hx hb dX11_span_92 rfl (lv_at hl 1 rfl) ?_
              refine gX_11_10 hx hb ht hown hK hP m_425 (v := (iv 11 10)) rfl dX11_span_93 ?_
              have hFc := free_all hD hS hA
              refine va_calll (va_runV (As := [.int a, .int (iv 11 10)]) (rest := [.long w25]) ⟨hx, hb, hml, hown, ht⟩ (c_X11_moistened l dC dI H.size ak av h g ca iv lv (u2 fa 30 2 n6) (u2 (u2 la 30 0 n7) 30 1 n8) (IX_a (c := 30) (k := 2) hI hn6) a (iv 11 10) ⟨by omega, by omega⟩) (kV 2 ht m_844 m_846 m_29 m_77 m_847 rfl rfl hd_X11_moistened_v ⟨Nat.le_of_ble_eq_true rfl, Nat.le_of_ble_eq_true rfl⟩) (vWZ hP hK hD ((hZ.kept hS.2.1).narrow (free_all hD hS hA)) (rX_11 hK hP)) rfl rfl hl.1 rfl (lv_room (Nat.le_of_ble_eq_true rfl)) dX11_span_96 ⟨Nat.le_of_ble_eq_true rfl, Nat.le_of_ble_eq_true rfl⟩) hS (fun q _ h => hFc q h) hFc (fun r26 u t H1 locs ht9 hvm hr26 hB hz1 hk1 hS => ?_)
              obtain ⟨n27, hn27, hr26, rfl⟩ := hr26
              obtain ⟨hP, hD⟩ := hB
              rw [ht9] at hP
              generalize H1 = H at hP hS ⊢
              have hP : va_P (dC, dI) classes (WX h g ca iv lv (u2 (u2 fa 30 2 n6) 1 6 n27) (u2 (u2 la 30 0 n7) 30 1 n8)) H := hP
              have hD : va_D A (WX h g ca iv lv (u2 (u2 fa 30 2 n6) 1 6 n27) (u2 (u2 la 30 0 n7) 30 1 n8)) := (show va_D _ (WX h g ca iv lv (u2 (u2 fa 30 2 n6) 1 6 n27) (u2 (u2 la 30 0 n7) 30 1 n8)) from hD).weaken (fun _ _ _ h => hFc _ h)
              refine lv_lmul hx hb dX11_span_99 ?_
              refine lv_topl (fun w28 ew28 => ?_)
              refine lv_lstore (lv' := [(5, .long w28), (3, .long (r23.toInt64)), (0, .ref h), (1, .int a), (2, .int b)]) hx hb dX11_span_100 hl (by decide) rfl (fun ls hl => ?_)
              refine lv_lload hx hb dX11_span_102 (lv_at hl 0 rfl) ?_
              refine lv_aload_n hx hb dX11_span_104 rfl (lv_at hl 2 rfl) ?_
              refine gX_11_5 hx hb ht hown hK hP m_420 dX11_span_105 ?_
              refine gX_3_2 hx hb ht hown hK hP m_282 dX11_span_108 ?_
              refine gX_30_0 hx hb ht hown hK hP m_263 dX11_span_111 ?_
              refine lv_iconst (v := 0) hx hb dX11_span_114 (by decide) ?_
              refine lX_30_0 hx hb hK hP (f := n7) rfl (vp_in_iff.mpr (by decide)) dX11_span_115 ?_
              refine lv_topl (fun w29 ew29 => ?_)
              refine lv_lload_n hx hb dX11_span_116 rfl (lv_at hl 1 rfl) ?_
              refine lv_lsub hx hb dX11_span_117 ?_
              refine lv_topl (fun w30 ew30 => ?_)
              refine lv_ldc2 hx hb hown (ht _ m_848) dX11_span_118 ?_
              refine lv_lmul hx hb dX11_span_121 ?_
              refine lv_topl (fun w31 ew31 => ?_)
              refine lv_iload_n hx hb dX11_span_122 rfl (lv_at hl 4 rfl) ?_
              refine lv_iconst (v := 2) hx hb dX11_span_123 (by decide) ?_
              refine lv_irem hx hb dX11_span_124 (by decide) ?_
              refine lv_topi (fun v32 ev32 => ?_)
              have tv32 := z_remp ev32 (rfl : (b).toInt = _) (by decide : (2 : Int32).toInt = 2) (by omega) (by omega)
              refine vp_callSl (W.runS (As := [.long w28, .long w31, .int v32]) (rest := []) ⟨hx, hb, hml, hown, ht⟩ (c_X11_inLeastTerms l dC dI w28 w31 v32) (kS 3 ht m_581 m_582 m_77 m_583 rfl rfl hd_X11_inLeastTerms_v ⟨Nat.le_of_ble_eq_true rfl, Nat.le_of_ble_eq_true rfl⟩) (sR noP (hK.sub (tys' := []) [] rfl)) rfl rfl hl.1 rfl (lv_room (Nat.le_of_ble_eq_true rfl)) dX11_span_125 ⟨Nat.le_of_ble_eq_true rfl, Nat.le_of_ble_eq_true rfl⟩) (fun r33 hr33 => ?_)
              have hP9 : va_P (dC, dI) classes (WX h g ca iv lv (u2 (u2 fa 1 6 n27) 30 2 n6) (u2 (u2 la 30 0 n7) 30 1 n8)) H := hP
              have hD9 : va_D A (WX h g ca iv lv (u2 (u2 fa 1 6 n27) 30 2 n6) (u2 (u2 la 30 0 n7) 30 1 n8)) := hD
              exact W.lret (v := r33) hx hb hr (fun t ht9 hW => ⟨⟨r33, (iv, lv, (u2 (u2 fa 1 6 n27) 30 2 n6), (u2 (u2 la 30 0 n7) 30 1 n8)), rfl, ⟨n27, n6, n7, n8, hn27, trivial, rfl⟩, by rw [ht9]; exact hP9, hD9⟩, hS.F ht9⟩) hS.2.2 dX11_span_128
          · have fc10 := z_eq (rfl : (v9).toInt = _) (by decide : (0 : Int32).toInt = 0) c10
            refine lv_ldc2 hx hb hown (ht _ m_839) dX11_span_55 ?_
            have hP9 : va_P (dC, dI) classes (WX h g ca iv lv (u2 (u2 fa 1 6 (fa 1 6)) 30 2 n6) (u2 (u2 la 30 0 n7) 30 1 n8)) H := hP
            have hD9 : va_D A (WX h g ca iv lv (u2 (u2 fa 1 6 (fa 1 6)) 30 2 n6) (u2 (u2 la 30 0 n7) 30 1 n8)) := hD
            exact W.lret (v := (-100003)) hx hb hr (fun t ht9 hW => ⟨⟨(-100003), (iv, lv, (u2 (u2 fa 1 6 (fa 1 6)) 30 2 n6), (u2 (u2 la 30 0 n7) 30 1 n8)), rfl, ⟨(fa 1 6), n6, n7, n8, (hI.2 1 6), trivial, rfl⟩, by rw [ht9]; exact hP9, hD9⟩, hS.F ht9⟩) hS.2.2 dX11_span_58
        · exact absurd c4 (by decide)
      · skip
        refine lv_if_ne (tgt := 28) hx hb dX11_span_21 (by decide) (fun c34 => ?_) (fun c34 => ?_)
        · exact absurd rfl c34
        · skip
          refine lv_ldc2 hx hb hown (ht _ m_838) dX11_span_24 ?_
          have hP9 : va_P (dC, dI) classes (WX h g ca iv lv (u2 (u2 fa 1 6 (fa 1 6)) 30 2 (fa 30 2)) (u2 (u2 la 30 0 (la 30 0)) 30 1 (la 30 1))) s.heap := hP
          have hD9 : va_D A (WX h g ca iv lv (u2 (u2 fa 1 6 (fa 1 6)) 30 2 (fa 30 2)) (u2 (u2 la 30 0 (la 30 0)) 30 1 (la 30 1))) := hD
          exact W.lret (v := (-100002)) hx hb hr (fun t ht9 hW => ⟨⟨(-100002), (iv, lv, (u2 (u2 fa 1 6 (fa 1 6)) 30 2 (fa 30 2)), (u2 (u2 la 30 0 (la 30 0)) 30 1 (la 30 1))), rfl, ⟨(fa 1 6), (fa 30 2), (la 30 0), (la 30 1), (hI.2 1 6), trivial, rfl⟩, by rw [ht9]; exact hP9, hD9⟩, hS.F ht9⟩) hS.2.2 dX11_span_27
    · exact absurd c2 (by decide)
  · skip
    have i_0_7 : 0 ≤ (iv 0 7).toInt ∧ (iv 0 7).toInt ≤ 10 := hI.1 0 7
    have fr1 : ¬ (0 ≤ (a : Int32).toInt ∧ (a : Int32).toInt < ((iv 0 7) : Int32).toInt) := fr1
    refine lv_if_ne (tgt := 15) hx hb dX11_span_8 (by decide) (fun c35 => ?_) (fun c35 => ?_)
    · exact absurd rfl c35
    · skip
      refine lv_ldc2 hx hb hown (ht _ m_837) dX11_span_11 ?_
      have hP9 : va_P (dC, dI) classes (WX h g ca iv lv (u2 (u2 fa 1 6 (fa 1 6)) 30 2 (fa 30 2)) (u2 (u2 la 30 0 (la 30 0)) 30 1 (la 30 1))) s.heap := hP
      have hD9 : va_D A (WX h g ca iv lv (u2 (u2 fa 1 6 (fa 1 6)) 30 2 (fa 30 2)) (u2 (u2 la 30 0 (la 30 0)) 30 1 (la 30 1))) := hD
      exact W.lret (v := (-100001)) hx hb hr (fun t ht9 hW => ⟨⟨(-100001), (iv, lv, (u2 (u2 fa 1 6 (fa 1 6)) 30 2 (fa 30 2)), (u2 (u2 la 30 0 (la 30 0)) 30 1 (la 30 1))), rfl, ⟨(fa 1 6), (fa 30 2), (la 30 0), (la 30 1), (hI.2 1 6), trivial, rfl⟩, by rw [ht9]; exact hP9, hD9⟩, hS.F ht9⟩) hS.2.2 dX11_span_14
set_option maxHeartbeats 4000000 in
set_option maxRecDepth 100000 in
/-- X11_cause -/
theorem c_X11_cause (l : Launch) (dC : Nat → ClassId) (dI : Nat → Nat → Nat) (sz : Nat) (ak av : Nat → Nat) (h : Nat) (g : Nat → Nat → Nat) (ca : Nat → Nat → ClassId) (iv : Nat → Nat → Int32) (lv : Nat → Nat → Int64) (fa : Nat → Nat → Nat → Int32) (la : Nat → Nat → Nat → Int64) (hI : IX iv fa) (a : Int32) (b : Int32) : Met l yX11_cause (wc yX11_cause cX11_cause 3 (some .int)) ({ frames := 6, cells := 0, slots := 0, locals := 137 } : Room) (pWZ ak av (dC, dI) classes (WX h g ca iv lv fa la) (TX ca) sz [.ref h, .int a, .int b]) (va_Qi (fun r (u : SS) => ∃ (na_1_6 : Nat → Int32) (na_20_2 : Nat → Int32) (nb_20_0 : Nat → Int64) (nb_20_1 : Nat → Int64) (ni_2_3 : Int32) (ni_2_4 : Int32) (ni_2_5 : Int32), (∀ j, inb (bA 1 6 j) (na_1_6 j)) ∧ (True) ∧ u = ((u2 (u2 (u2 iv 2 3 ni_2_3) 2 4 ni_2_4) 2 5 ni_2_5), lv, (u2 (u2 fa 1 6 na_1_6) 20 2 na_20_2), (u2 (u2 la 20 0 nb_20_0) 20 1 nb_20_1))) (bX (dC, dI) h g ca (va_A (WX h g ca iv lv fa la) sz)) (va_A (WX h g ca iv lv fa la) sz)) 0 0 (va_A (WX h g ca iv lv fa la) sz) := by
  refine Met.ofW (cc := cX11_cause) (maxL := 3) (ret := (some .int)) (by decide) rfl ?_
  intro p e s m args below meth c s₁ B hml hv
  obtain ⟨rfl, hsz, hP, hK, hD0, hZ⟩ := hv
  have hx := B.exec
  have hb := B.bytes
  have hr := B.returns
  have ht := tb_tl (atoms_spec (ws := wc yX11_cause cX11_cause 3 (some .int)) B.pre)
  have hown : s.vm.findClass RX11 = some m.cls := findClass_of_methodNamed B.named
  have hlocks := B.notSynchronized
  subst hsz
  have hD := hD0.self (sz := s.heap.size)
  generalize hAe : va_A (WX h g ca iv lv fa la) s.heap.size = A at hD hZ ⊢
  have hA : ∀ q : Nat, s.heap.size ≤ q → A q := fun q h => by rw [← hAe]; exact Or.inr h
  have hS : va_S A s.heap s.heap [] := va_S.rf
  have hl := lv_entry [.ref h, .int a, .int b] (n := 3) (Nat.le_of_ble_eq_true rfl)
  rw [lg_entry_eq]
  generalize (lg_sl [.ref h, .int a, .int b] ++ List.replicate (3 - (lg_sl [.ref h, .int a, .int b]).length) Slot.unset).toArray = ls at hl ⊢
  have hl : lv_has ls 3 [(0, .ref h), (1, .int a), (2, .int b)] := hl
  refine lv_aload_n hx hb dX11_cause_0 rfl (lv_at hl 0 rfl) ?_
  refine gX_11_2 hx hb ht hown hK hP m_417 dX11_cause_1 ?_
  refine lv_iload_n hx hb dX11_cause_4 rfl (lv_at hl 1 rfl) ?_
  refine vp_callSi (W.runV (As := [.int a]) (rest := []) ⟨hx, hb, hml, hown, ht⟩ (c_X0_has l dC dI h g ca iv lv fa la hI a) (kV 1 ht m_472 m_473 m_474 m_80 m_475 rfl rfl hd_X0_has_v ⟨Nat.le_of_ble_eq_true rfl, Nat.le_of_ble_eq_true rfl⟩) (vR hP hK (rX_0 hK hP)) rfl rfl hl.1 rfl (lv_room (Nat.le_of_ble_eq_true rfl)) dX11_cause_5 ⟨Nat.le_of_ble_eq_true rfl, Nat.le_of_ble_eq_true rfl⟩) (fun r1 hr1 => ?_)
  rcases hr1 with ⟨rfl, fr1⟩ | ⟨rfl, fr1⟩
  · skip
    have i_0_7 : 0 ≤ (iv 0 7).toInt ∧ (iv 0 7).toInt ≤ 10 := hI.1 0 7
    have fr1 : (0 ≤ (a : Int32).toInt ∧ (a : Int32).toInt < ((iv 0 7) : Int32).toInt) := fr1
    refine lv_if_ne (tgt := 14) hx hb dX11_cause_8 (by decide) (fun c2 => ?_) (fun c2 => ?_)
    · skip
      refine lv_aload_n hx hb dX11_cause_14 rfl (lv_at hl 0 rfl) ?_
      refine gX_11_6 hx hb ht hown hK hP m_421 dX11_cause_15 ?_
      refine lv_iload_n hx hb dX11_cause_18 rfl (lv_at hl 1 rfl) ?_
      refine lv_aload_n hx hb dX11_cause_19 rfl (lv_at hl 0 rfl) ?_
      have i_11_10 : 0 ≤ (iv 11 10).toInt ∧ (iv 11 10).toInt ≤ 3000 := hI.1 11 10
      refine gX_11_10 hx hb ht hown hK hP m_425 (v := (iv 11 10)) rfl dX11_cause_20 ?_
      refine lv_aload_n hx hb dX11_cause_23 rfl (lv_at hl 0 rfl) ?_
      refine gX_11_3 hx hb ht hown hK hP m_418 dX11_cause_24 ?_
      refine lv_iconst (v := 2) hx hb dX11_cause_27 (by decide) ?_
      refine lv_aload_n hx hb dX11_cause_28 rfl (lv_at hl 0 rfl) ?_
      refine gX_11_10 hx hb ht hown hK hP m_425 (v := (iv 11 10)) rfl dX11_cause_29 ?_
      have hFc := free_all hD hS hA
      refine va_calli (va_runV (As := [.int 2, .int (iv 11 10)]) (rest := [.int (iv 11 10), .int a, .ref (g 11 6)]) ⟨hx, hb, hml, hown, ht⟩ (c_X1_holding l dC dI s.heap.size ak av h g ca iv lv fa la hI 2 (iv 11 10) ⟨by decide, by decide⟩) (kV 2 ht m_667 m_601 m_602 m_81 m_603 rfl rfl hd_X1_holding_v ⟨Nat.le_of_ble_eq_true rfl, Nat.le_of_ble_eq_true rfl⟩) (vWZ hP hK hD ((hZ.kept hS.2.1).narrow (free_all hD hS hA)) (rX_1 hK hP)) rfl rfl hl.1 rfl (lv_room (Nat.le_of_ble_eq_true rfl)) dX11_cause_32 ⟨Nat.le_of_ble_eq_true rfl, Nat.le_of_ble_eq_true rfl⟩) hS (fun q _ h => hFc q h) hFc (fun r3 u t H1 locs ht9 hvm hr3 hB hz1 hk1 hS => ?_)
      obtain ⟨n4, hn4, hr3, rfl⟩ := hr3
      obtain ⟨hP, hD⟩ := hB
      rw [ht9] at hP
      generalize H1 = H at hP hS ⊢
      have hP : va_P (dC, dI) classes (WX h g ca iv lv (u2 fa 1 6 n4) la) H := hP
      have hD : va_D A (WX h g ca iv lv (u2 fa 1 6 n4) la) := (show va_D _ (WX h g ca iv lv (u2 fa 1 6 n4) la) from hD).weaken (fun _ _ _ h => hFc _ h)
      have hFc := free_all hD hS hA
      refine va_callv (va_runV (As := [.int a, .int (iv 11 10), .int r3]) (rest := []) ⟨hx, hb, hml, hown, ht⟩ (c_X2_lookAt l dC dI H.size h g ca iv lv (u2 fa 1 6 n4) la (IX_a (c := 1) (k := 6) hI hn4) a (iv 11 10) r3) (kV 3 ht m_870 m_871 m_872 m_85 m_873 rfl rfl hd_X2_lookAt_v ⟨Nat.le_of_ble_eq_true rfl, Nat.le_of_ble_eq_true rfl⟩) (vW hP hK hD (rX_2 hK hP)) rfl rfl hl.1 rfl (lv_room (Nat.le_of_ble_eq_true rfl)) dX11_cause_35 ⟨Nat.le_of_ble_eq_true rfl, Nat.le_of_ble_eq_true rfl⟩) hS (fun q _ h => hFc q h) hFc (fun u t H1 locs ht9 hvm hr5 hB hz1 hk1 hS => ?_)
      obtain ⟨n6, n7, n8, rfl⟩ := hr5
      obtain ⟨hP, hD⟩ := hB
      rw [ht9] at hP
      generalize H1 = H at hP hS ⊢
      have hP : va_P (dC, dI) classes (WX h g ca (u2 (u2 (u2 iv 2 3 n6) 2 4 n7) 2 5 n8) lv (u2 fa 1 6 n4) la) H := hP
      have hD : va_D A (WX h g ca (u2 (u2 (u2 iv 2 3 n6) 2 4 n7) 2 5 n8) lv (u2 fa 1 6 n4) la) := (show va_D _ (WX h g ca (u2 (u2 (u2 iv 2 3 n6) 2 4 n7) 2 5 n8) lv (u2 fa 1 6 n4) la) from hD).weaken (fun _ _ _ h => hFc _ h)
      refine lv_aload_n hx hb dX11_cause_38 rfl (lv_at hl 0 rfl) ?_
      refine gX_11_6 hx hb ht hown hK hP m_421 dX11_cause_39 ?_
      have hFc := free_all hD hS hA
      refine va_calli (va_runV (As := []) (rest := []) ⟨hx, hb, hml, hown, ht⟩ (c_X2_isParted l dC dI H.size h g ca (u2 (u2 (u2 iv 2 3 n6) 2 4 n7) 2 5 n8) lv (u2 fa 1 6 n4) la (IX_a (c := 1) (k := 6) (IX_i (c := 2) (k := 5) (IX_i (c := 2) (k := 4) (IX_i (c := 2) (k := 3) hI (full_i _)) (full_i _)) (full_i _)) hn4)) (kV 0 ht m_874 m_875 m_876 m_85 m_877 rfl rfl hd_X2_isParted_v ⟨Nat.le_of_ble_eq_true rfl, Nat.le_of_ble_eq_true rfl⟩) (vW hP hK hD (rX_2 hK hP)) rfl rfl hl.1 rfl (lv_room (Nat.le_of_ble_eq_true rfl)) dX11_cause_42 ⟨Nat.le_of_ble_eq_true rfl, Nat.le_of_ble_eq_true rfl⟩) hS (fun q _ h => hFc q h) hFc (fun r9 u t H1 locs ht9 hvm hr9 hB hz1 hk1 hS => ?_)
      obtain ⟨n10, n11, n12, hr9, rfl⟩ := hr9
      have hn10 : ∀ j, inb (bA 20 2 j) (n10 j) := fun j => full_i _
      obtain ⟨hP, hD⟩ := hB
      rw [ht9] at hP
      generalize H1 = H at hP hS ⊢
      have hP : va_P (dC, dI) classes (WX h g ca (u2 (u2 (u2 iv 2 3 n6) 2 4 n7) 2 5 n8) lv (u2 (u2 fa 1 6 n4) 20 2 n10) (u2 (u2 la 20 0 n11) 20 1 n12)) H := hP
      have hD : va_D A (WX h g ca (u2 (u2 (u2 iv 2 3 n6) 2 4 n7) 2 5 n8) lv (u2 (u2 fa 1 6 n4) 20 2 n10) (u2 (u2 la 20 0 n11) 20 1 n12)) := (show va_D _ (WX h g ca (u2 (u2 (u2 iv 2 3 n6) 2 4 n7) 2 5 n8) lv (u2 (u2 fa 1 6 n4) 20 2 n10) (u2 (u2 la 20 0 n11) 20 1 n12)) from hD).weaken (fun _ _ _ h => hFc _ h)
      refine lv_if_eq (tgt := 59) hx hb dX11_cause_45 (by decide) (fun c13 => ?_) (fun c13 => ?_)
      · have fc13 := z_eq (rfl : (r9).toInt = _) (by decide : (0 : Int32).toInt = 0) c13
        refine lv_ldc hx hb hown (ht _ m_457) dX11_cause_59 ?_
        have hP9 : va_P (dC, dI) classes (WX h g ca (u2 (u2 (u2 iv 2 3 n6) 2 4 n7) 2 5 n8) lv (u2 (u2 fa 1 6 n4) 20 2 n10) (u2 (u2 la 20 0 n11) 20 1 n12)) H := hP
        have hD9 : va_D A (WX h g ca (u2 (u2 (u2 iv 2 3 n6) 2 4 n7) 2 5 n8) lv (u2 (u2 fa 1 6 n4) 20 2 n10) (u2 (u2 la 20 0 n11) 20 1 n12)) := hD
        exact W.iret (v := (-100003)) hx hb hr (fun t ht9 hW => ⟨⟨(-100003), ((u2 (u2 (u2 iv 2 3 n6) 2 4 n7) 2 5 n8), lv, (u2 (u2 fa 1 6 n4) 20 2 n10), (u2 (u2 la 20 0 n11) 20 1 n12)), rfl, ⟨n4, n10, n11, n12, n6, n7, n8, hn4, trivial, rfl⟩, by rw [ht9]; exact hP9, hD9⟩, hS.F ht9⟩) hS.2.2 dX11_cause_61
      · have fc13 := z_ne (rfl : (r9).toInt = _) (by decide : (0 : Int32).toInt = 0) c13
        refine lv_aload_n hx hb dX11_cause_48 rfl (lv_at hl 0 rfl) ?_
        refine gX_11_6 hx hb ht hown hK hP m_421 dX11_cause_49 ?_
        refine lv_iload_n hx hb dX11_cause_52 rfl (lv_at hl 2 rfl) ?_
        have hFc := free_all hD hS hA
        refine va_calli (va_runV (As := [.int b]) (rest := []) ⟨hx, hb, hml, hown, ht⟩ (c_X2_culprit l dC dI H.size ak av h g ca (u2 (u2 (u2 iv 2 3 n6) 2 4 n7) 2 5 n8) lv (u2 (u2 fa 1 6 n4) 20 2 n10) (u2 (u2 la 20 0 n11) 20 1 n12) (IX_a (c := 20) (k := 2) (IX_a (c := 1) (k := 6) (IX_i (c := 2) (k := 5) (IX_i (c := 2) (k := 4) (IX_i (c := 2) (k := 3) hI (full_i _)) (full_i _)) (full_i _)) hn4) hn10) b) (kV 1 ht m_900 m_901 m_902 m_85 m_903 rfl rfl hd_X2_culprit_v ⟨Nat.le_of_ble_eq_true rfl, Nat.le_of_ble_eq_true rfl⟩) (vWZ hP hK hD ((hZ.kept hS.2.1).narrow (free_all hD hS hA)) (rX_2 hK hP)) rfl rfl hl.1 rfl (lv_room (Nat.le_of_ble_eq_true rfl)) dX11_cause_53 ⟨Nat.le_of_ble_eq_true rfl, Nat.le_of_ble_eq_true rfl⟩) hS (fun q _ h => hFc q h) hFc (fun r14 u t H1 locs ht9 hvm hr14 hB hz1 hk1 hS => ?_)
        obtain ⟨n15, n16, n17, hr14, rfl⟩ := hr14
        have hn15 : ∀ j, inb (bA 20 2 j) (n15 j) := fun j => full_i _
        obtain ⟨hP, hD⟩ := hB
        rw [ht9] at hP
        generalize H1 = H at hP hS ⊢
        have hP : va_P (dC, dI) classes (WX h g ca (u2 (u2 (u2 iv 2 3 n6) 2 4 n7) 2 5 n8) lv (u2 (u2 fa 1 6 n4) 20 2 n15) (u2 (u2 la 20 0 n16) 20 1 n17)) H := hP
        have hD : va_D A (WX h g ca (u2 (u2 (u2 iv 2 3 n6) 2 4 n7) 2 5 n8) lv (u2 (u2 fa 1 6 n4) 20 2 n15) (u2 (u2 la 20 0 n16) 20 1 n17)) := (show va_D _ (WX h g ca (u2 (u2 (u2 iv 2 3 n6) 2 4 n7) 2 5 n8) lv (u2 (u2 fa 1 6 n4) 20 2 n15) (u2 (u2 la 20 0 n16) 20 1 n17)) from hD).weaken (fun _ _ _ h => hFc _ h)
        refine lv_goto (tgt := 61) hx hb dX11_cause_56 (by decide) ?_
        have hP9 : va_P (dC, dI) classes (WX h g ca (u2 (u2 (u2 iv 2 3 n6) 2 4 n7) 2 5 n8) lv (u2 (u2 fa 1 6 n4) 20 2 n15) (u2 (u2 la 20 0 n16) 20 1 n17)) H := hP
        have hD9 : va_D A (WX h g ca (u2 (u2 (u2 iv 2 3 n6) 2 4 n7) 2 5 n8) lv (u2 (u2 fa 1 6 n4) 20 2 n15) (u2 (u2 la 20 0 n16) 20 1 n17)) := hD
        exact W.iret (v := r14) hx hb hr (fun t ht9 hW => ⟨⟨r14, ((u2 (u2 (u2 iv 2 3 n6) 2 4 n7) 2 5 n8), lv, (u2 (u2 fa 1 6 n4) 20 2 n15), (u2 (u2 la 20 0 n16) 20 1 n17)), rfl, ⟨n4, n15, n16, n17, n6, n7, n8, hn4, trivial, rfl⟩, by rw [ht9]; exact hP9, hD9⟩, hS.F ht9⟩) hS.2.2 dX11_cause_61
    · exact absurd c2 (by decide)
  · skip
    have i_0_7 : 0 ≤ (iv 0 7).toInt ∧ (iv 0 7).toInt ≤ 10 := hI.1 0 7
    have fr1 : ¬ (0 ≤ (a : Int32).toInt ∧ (a : Int32).toInt < ((iv 0 7) : Int32).toInt) := fr1
    refine lv_if_ne (tgt := 14) hx hb dX11_cause_8 (by decide) (fun c18 => ?_) (fun c18 => ?_)
    · exact absurd rfl c18
    · skip
      refine lv_ldc hx hb hown (ht _ m_476) dX11_cause_11 ?_
      have hP9 : va_P (dC, dI) classes (WX h g ca (u2 (u2 (u2 iv 2 3 (iv 2 3)) 2 4 (iv 2 4)) 2 5 (iv 2 5)) lv (u2 (u2 fa 1 6 (fa 1 6)) 20 2 (fa 20 2)) (u2 (u2 la 20 0 (la 20 0)) 20 1 (la 20 1))) s.heap := hP
      have hD9 : va_D A (WX h g ca (u2 (u2 (u2 iv 2 3 (iv 2 3)) 2 4 (iv 2 4)) 2 5 (iv 2 5)) lv (u2 (u2 fa 1 6 (fa 1 6)) 20 2 (fa 20 2)) (u2 (u2 la 20 0 (la 20 0)) 20 1 (la 20 1))) := hD
      exact W.iret (v := (-100001)) hx hb hr (fun t ht9 hW => ⟨⟨(-100001), ((u2 (u2 (u2 iv 2 3 (iv 2 3)) 2 4 (iv 2 4)) 2 5 (iv 2 5)), lv, (u2 (u2 fa 1 6 (fa 1 6)) 20 2 (fa 20 2)), (u2 (u2 la 20 0 (la 20 0)) 20 1 (la 20 1))), rfl, ⟨(fa 1 6), (fa 20 2), (la 20 0), (la 20 1), (iv 2 3), (iv 2 4), (iv 2 5), (hI.2 1 6), trivial, rfl⟩, by rw [ht9]; exact hP9, hD9⟩, hS.F ht9⟩) hS.2.2 dX11_cause_13
set_option maxHeartbeats 4000000 in
set_option maxRecDepth 100000 in
/-- X11_odd -/
theorem c_X11_odd (l : Launch) (dC : Nat → ClassId) (dI : Nat → Nat → Nat) (sz : Nat) (ak av : Nat → Nat) (h : Nat) (g : Nat → Nat → Nat) (ca : Nat → Nat → ClassId) (iv : Nat → Nat → Int32) (lv : Nat → Nat → Int64) (fa : Nat → Nat → Nat → Int32) (la : Nat → Nat → Nat → Int64) (hI : IX iv fa) (a : Int32) (b : Int32) : Met l yX11_odd (wc yX11_odd cX11_odd 3 (some .int)) ({ frames := 4, cells := 0, slots := 0, locals := 93 } : Room) (pWZ ak av (dC, dI) classes (WX h g ca iv lv fa la) (TX ca) sz [.ref h, .int a, .int b]) (va_Qi (fun r (u : SS) => ∃ (na_1_6 : Nat → Int32) (na_2_2 : Nat → Int32) (na_20_2 : Nat → Int32) (nb_20_0 : Nat → Int64) (nb_20_1 : Nat → Int64) (ni_2_3 : Int32) (ni_2_4 : Int32) (ni_2_5 : Int32), (∀ j, inb (bA 1 6 j) (na_1_6 j)) ∧ (∀ j, inb (bA 2 2 j) (na_2_2 j)) ∧ (True) ∧ u = ((u2 (u2 (u2 iv 2 3 ni_2_3) 2 4 ni_2_4) 2 5 ni_2_5), lv, (u2 (u2 (u2 fa 1 6 na_1_6) 2 2 na_2_2) 20 2 na_20_2), (u2 (u2 la 20 0 nb_20_0) 20 1 nb_20_1))) (bX (dC, dI) h g ca (va_A (WX h g ca iv lv fa la) sz)) (va_A (WX h g ca iv lv fa la) sz)) 0 0 (va_A (WX h g ca iv lv fa la) sz) := by
  refine Met.ofW (cc := cX11_odd) (maxL := 3) (ret := (some .int)) (by decide) rfl ?_
  intro p e s m args below meth c s₁ B hml hv
  obtain ⟨rfl, hsz, hP, hK, hD0, hZ⟩ := hv
  have hx := B.exec
  have hb := B.bytes
  have hr := B.returns
  have ht := tb_tl (atoms_spec (ws := wc yX11_odd cX11_odd 3 (some .int)) B.pre)
  have hown : s.vm.findClass RX11 = some m.cls := findClass_of_methodNamed B.named
  have hlocks := B.notSynchronized
  subst hsz
  have hD := hD0.self (sz := s.heap.size)
  generalize hAe : va_A (WX h g ca iv lv fa la) s.heap.size = A at hD hZ ⊢
  have hA : ∀ q : Nat, s.heap.size ≤ q → A q := fun q h => by rw [← hAe]; exact Or.inr h
  have hS : va_S A s.heap s.heap [] := va_S.rf
  have hl := lv_entry [.ref h, .int a, .int b] (n := 3) (Nat.le_of_ble_eq_true rfl)
  rw [lg_entry_eq]
  generalize (lg_sl [.ref h, .int a, .int b] ++ List.replicate (3 - (lg_sl [.ref h, .int a, .int b]).length) Slot.unset).toArray = ls at hl ⊢
  have hl : lv_has ls 3 [(0, .ref h), (1, .int a), (2, .int b)] := hl
  refine lv_aload_n hx hb dX11_odd_0 rfl (lv_at hl 0 rfl) ?_
  refine gX_11_2 hx hb ht hown hK hP m_417 dX11_odd_1 ?_
  refine lv_iload_n hx hb dX11_odd_4 rfl (lv_at hl 1 rfl) ?_
  refine vp_callSi (W.runV (As := [.int a]) (rest := []) ⟨hx, hb, hml, hown, ht⟩ (c_X0_has l dC dI h g ca iv lv fa la hI a) (kV 1 ht m_472 m_473 m_474 m_80 m_475 rfl rfl hd_X0_has_v ⟨Nat.le_of_ble_eq_true rfl, Nat.le_of_ble_eq_true rfl⟩) (vR hP hK (rX_0 hK hP)) rfl rfl hl.1 rfl (lv_room (Nat.le_of_ble_eq_true rfl)) dX11_odd_5 ⟨Nat.le_of_ble_eq_true rfl, Nat.le_of_ble_eq_true rfl⟩) (fun r1 hr1 => ?_)
  rcases hr1 with ⟨rfl, fr1⟩ | ⟨rfl, fr1⟩
  · skip
    have i_0_7 : 0 ≤ (iv 0 7).toInt ∧ (iv 0 7).toInt ≤ 10 := hI.1 0 7
    have fr1 : (0 ≤ (a : Int32).toInt ∧ (a : Int32).toInt < ((iv 0 7) : Int32).toInt) := fr1
    refine lv_if_ne (tgt := 14) hx hb dX11_odd_8 (by decide) (fun c2 => ?_) (fun c2 => ?_)
    · skip
      refine lv_iload_n hx hb dX11_odd_14 rfl (lv_at hl 2 rfl) ?_
      refine lv_iconst (v := 0) hx hb dX11_odd_15 (by decide) ?_
      refine lv_iconst (v := 2) hx hb dX11_odd_16 (by decide) ?_
      refine vp_callSi (W.runS (As := [.int b, .int 0, .int 2]) (rest := []) ⟨hx, hb, hml, hown, ht⟩ (c_X11_within l dC dI b 0 2 (b.toInt) (0) (2) (rfl : (b).toInt = _) (by decide : (0 : Int32).toInt = 0) (by decide : (2 : Int32).toInt = 2)) (kS 3 ht m_453 m_454 m_77 m_455 rfl rfl hd_X11_within_v ⟨Nat.le_of_ble_eq_true rfl, Nat.le_of_ble_eq_true rfl⟩) (sR noP (hK.sub (tys' := []) [] rfl)) rfl rfl hl.1 rfl (lv_room (Nat.le_of_ble_eq_true rfl)) dX11_odd_17 ⟨Nat.le_of_ble_eq_true rfl, Nat.le_of_ble_eq_true rfl⟩) (fun r3 hr3 => ?_)
      rcases hr3 with ⟨rfl, fr3⟩ | ⟨rfl, fr3⟩
      · skip
        refine lv_if_ne (tgt := 26) hx hb dX11_odd_20 (by decide) (fun c4 => ?_) (fun c4 => ?_)
        · skip
          refine lv_aload_n hx hb dX11_odd_26 rfl (lv_at hl 0 rfl) ?_
          refine gX_11_6 hx hb ht hown hK hP m_421 dX11_odd_27 ?_
          refine lv_iload_n hx hb dX11_odd_30 rfl (lv_at hl 1 rfl) ?_
          refine lv_aload_n hx hb dX11_odd_31 rfl (lv_at hl 0 rfl) ?_
          have i_11_10 : 0 ≤ (iv 11 10).toInt ∧ (iv 11 10).toInt ≤ 3000 := hI.1 11 10
          refine gX_11_10 hx hb ht hown hK hP m_425 (v := (iv 11 10)) rfl dX11_odd_32 ?_
          refine lv_aload_n hx hb dX11_odd_35 rfl (lv_at hl 0 rfl) ?_
          refine gX_11_3 hx hb ht hown hK hP m_418 dX11_odd_36 ?_
          refine lv_iconst (v := 2) hx hb dX11_odd_39 (by decide) ?_
          refine lv_aload_n hx hb dX11_odd_40 rfl (lv_at hl 0 rfl) ?_
          refine gX_11_10 hx hb ht hown hK hP m_425 (v := (iv 11 10)) rfl dX11_odd_41 ?_
          have hFc := free_all hD hS hA
          refine va_calli (va_runV (As := [.int 2, .int (iv 11 10)]) (rest := [.int (iv 11 10), .int a, .ref (g 11 6)]) ⟨hx, hb, hml, hown, ht⟩ (c_X1_holding l dC dI s.heap.size ak av h g ca iv lv fa la hI 2 (iv 11 10) ⟨by decide, by decide⟩) (kV 2 ht m_667 m_601 m_602 m_81 m_603 rfl rfl hd_X1_holding_v ⟨Nat.le_of_ble_eq_true rfl, Nat.le_of_ble_eq_true rfl⟩) (vWZ hP hK hD ((hZ.kept hS.2.1).narrow (free_all hD hS hA)) (rX_1 hK hP)) rfl rfl hl.1 rfl (lv_room (Nat.le_of_ble_eq_true rfl)) dX11_odd_44 ⟨Nat.le_of_ble_eq_true rfl, Nat.le_of_ble_eq_true rfl⟩) hS (fun q _ h => hFc q h) hFc (fun r5 u t H1 locs ht9 hvm hr5 hB hz1 hk1 hS => ?_)
          obtain ⟨n6, hn6, hr5, rfl⟩ := hr5
          obtain ⟨hP, hD⟩ := hB
          rw [ht9] at hP
          generalize H1 = H at hP hS ⊢
          have hP : va_P (dC, dI) classes (WX h g ca iv lv (u2 fa 1 6 n6) la) H := hP
          have hD : va_D A (WX h g ca iv lv (u2 fa 1 6 n6) la) := (show va_D _ (WX h g ca iv lv (u2 fa 1 6 n6) la) from hD).weaken (fun _ _ _ h => hFc _ h)
          have hFc := free_all hD hS hA
          refine va_callv (va_runV (As := [.int a, .int (iv 11 10), .int r5]) (rest := []) ⟨hx, hb, hml, hown, ht⟩ (c_X2_lookAt l dC dI H.size h g ca iv lv (u2 fa 1 6 n6) la (IX_a (c := 1) (k := 6) hI hn6) a (iv 11 10) r5) (kV 3 ht m_870 m_871 m_872 m_85 m_873 rfl rfl hd_X2_lookAt_v ⟨Nat.le_of_ble_eq_true rfl, Nat.le_of_ble_eq_true rfl⟩) (vW hP hK hD (rX_2 hK hP)) rfl rfl hl.1 rfl (lv_room (Nat.le_of_ble_eq_true rfl)) dX11_odd_47 ⟨Nat.le_of_ble_eq_true rfl, Nat.le_of_ble_eq_true rfl⟩) hS (fun q _ h => hFc q h) hFc (fun u t H1 locs ht9 hvm hr7 hB hz1 hk1 hS => ?_)
          obtain ⟨n8, n9, n10, rfl⟩ := hr7
          obtain ⟨hP, hD⟩ := hB
          rw [ht9] at hP
          generalize H1 = H at hP hS ⊢
          have hP : va_P (dC, dI) classes (WX h g ca (u2 (u2 (u2 iv 2 3 n8) 2 4 n9) 2 5 n10) lv (u2 fa 1 6 n6) la) H := hP
          have hD : va_D A (WX h g ca (u2 (u2 (u2 iv 2 3 n8) 2 4 n9) 2 5 n10) lv (u2 fa 1 6 n6) la) := (show va_D _ (WX h g ca (u2 (u2 (u2 iv 2 3 n8) 2 4 n9) 2 5 n10) lv (u2 fa 1 6 n6) la) from hD).weaken (fun _ _ _ h => hFc _ h)
          refine lv_aload_n hx hb dX11_odd_50 rfl (lv_at hl 0 rfl) ?_
          refine gX_11_6 hx hb ht hown hK hP m_421 dX11_odd_51 ?_
          refine lv_iload_n hx hb dX11_odd_54 rfl (lv_at hl 2 rfl) ?_
          have hFc := free_all hD hS hA
          refine va_calli (va_runV (As := [.int b]) (rest := []) ⟨hx, hb, hml, hown, ht⟩ (c_X2_oddPairs l dC dI H.size h g ca (u2 (u2 (u2 iv 2 3 n8) 2 4 n9) 2 5 n10) lv (u2 fa 1 6 n6) la (IX_a (c := 1) (k := 6) (IX_i (c := 2) (k := 5) (IX_i (c := 2) (k := 4) (IX_i (c := 2) (k := 3) hI (full_i _)) (full_i _)) (full_i _)) hn6) b) (kV 1 ht m_917 m_918 m_919 m_85 m_920 rfl rfl hd_X2_oddPairs_v ⟨Nat.le_of_ble_eq_true rfl, Nat.le_of_ble_eq_true rfl⟩) (vW hP hK hD (rX_2 hK hP)) rfl rfl hl.1 rfl (lv_room (Nat.le_of_ble_eq_true rfl)) dX11_odd_55 ⟨Nat.le_of_ble_eq_true rfl, Nat.le_of_ble_eq_true rfl⟩) hS (fun q _ h => hFc q h) hFc (fun r11 u t H1 locs ht9 hvm hr11 hB hz1 hk1 hS => ?_)
          obtain ⟨n12, n13, n14, n15, hn12, hr11, rfl⟩ := hr11
          have hn13 : ∀ j, inb (bA 20 2 j) (n13 j) := fun j => full_i _
          obtain ⟨hP, hD⟩ := hB
          rw [ht9] at hP
          generalize H1 = H at hP hS ⊢
          have hP : va_P (dC, dI) classes (WX h g ca (u2 (u2 (u2 iv 2 3 n8) 2 4 n9) 2 5 n10) lv (u2 (u2 (u2 fa 1 6 n6) 2 2 n12) 20 2 n13) (u2 (u2 la 20 0 n14) 20 1 n15)) H := hP
          have hD : va_D A (WX h g ca (u2 (u2 (u2 iv 2 3 n8) 2 4 n9) 2 5 n10) lv (u2 (u2 (u2 fa 1 6 n6) 2 2 n12) 20 2 n13) (u2 (u2 la 20 0 n14) 20 1 n15)) := (show va_D _ (WX h g ca (u2 (u2 (u2 iv 2 3 n8) 2 4 n9) 2 5 n10) lv (u2 (u2 (u2 fa 1 6 n6) 2 2 n12) 20 2 n13) (u2 (u2 la 20 0 n14) 20 1 n15)) from hD).weaken (fun _ _ _ h => hFc _ h)
          have hP9 : va_P (dC, dI) classes (WX h g ca (u2 (u2 (u2 iv 2 3 n8) 2 4 n9) 2 5 n10) lv (u2 (u2 (u2 fa 1 6 n6) 2 2 n12) 20 2 n13) (u2 (u2 la 20 0 n14) 20 1 n15)) H := hP
          have hD9 : va_D A (WX h g ca (u2 (u2 (u2 iv 2 3 n8) 2 4 n9) 2 5 n10) lv (u2 (u2 (u2 fa 1 6 n6) 2 2 n12) 20 2 n13) (u2 (u2 la 20 0 n14) 20 1 n15)) := hD
          exact W.iret (v := r11) hx hb hr (fun t ht9 hW => ⟨⟨r11, ((u2 (u2 (u2 iv 2 3 n8) 2 4 n9) 2 5 n10), lv, (u2 (u2 (u2 fa 1 6 n6) 2 2 n12) 20 2 n13), (u2 (u2 la 20 0 n14) 20 1 n15)), rfl, ⟨n6, n12, n13, n14, n15, n8, n9, n10, hn6, hn12, trivial, rfl⟩, by rw [ht9]; exact hP9, hD9⟩, hS.F ht9⟩) hS.2.2 dX11_odd_58
        · exact absurd c4 (by decide)
      · skip
        refine lv_if_ne (tgt := 26) hx hb dX11_odd_20 (by decide) (fun c16 => ?_) (fun c16 => ?_)
        · exact absurd rfl c16
        · skip
          refine lv_ldc hx hb hown (ht _ m_456) dX11_odd_23 ?_
          have hP9 : va_P (dC, dI) classes (WX h g ca (u2 (u2 (u2 iv 2 3 (iv 2 3)) 2 4 (iv 2 4)) 2 5 (iv 2 5)) lv (u2 (u2 (u2 fa 1 6 (fa 1 6)) 2 2 (fa 2 2)) 20 2 (fa 20 2)) (u2 (u2 la 20 0 (la 20 0)) 20 1 (la 20 1))) s.heap := hP
          have hD9 : va_D A (WX h g ca (u2 (u2 (u2 iv 2 3 (iv 2 3)) 2 4 (iv 2 4)) 2 5 (iv 2 5)) lv (u2 (u2 (u2 fa 1 6 (fa 1 6)) 2 2 (fa 2 2)) 20 2 (fa 20 2)) (u2 (u2 la 20 0 (la 20 0)) 20 1 (la 20 1))) := hD
          exact W.iret (v := (-100002)) hx hb hr (fun t ht9 hW => ⟨⟨(-100002), ((u2 (u2 (u2 iv 2 3 (iv 2 3)) 2 4 (iv 2 4)) 2 5 (iv 2 5)), lv, (u2 (u2 (u2 fa 1 6 (fa 1 6)) 2 2 (fa 2 2)) 20 2 (fa 20 2)), (u2 (u2 la 20 0 (la 20 0)) 20 1 (la 20 1))), rfl, ⟨(fa 1 6), (fa 2 2), (fa 20 2), (la 20 0), (la 20 1), (iv 2 3), (iv 2 4), (iv 2 5), (hI.2 1 6), (hI.2 2 2), trivial, rfl⟩, by rw [ht9]; exact hP9, hD9⟩, hS.F ht9⟩) hS.2.2 dX11_odd_25
    · exact absurd c2 (by decide)
  · skip
    have i_0_7 : 0 ≤ (iv 0 7).toInt ∧ (iv 0 7).toInt ≤ 10 := hI.1 0 7
    have fr1 : ¬ (0 ≤ (a : Int32).toInt ∧ (a : Int32).toInt < ((iv 0 7) : Int32).toInt) := fr1
    refine lv_if_ne (tgt := 14) hx hb dX11_odd_8 (by decide) (fun c17 => ?_) (fun c17 => ?_)
    · exact absurd rfl c17
    · skip
      refine lv_ldc hx hb hown (ht _ m_476) dX11_odd_11 ?_
      have hP9 : va_P (dC, dI) classes (WX h g ca (u2 (u2 (u2 iv 2 3 (iv 2 3)) 2 4 (iv 2 4)) 2 5 (iv 2 5)) lv (u2 (u2 (u2 fa 1 6 (fa 1 6)) 2 2 (fa 2 2)) 20 2 (fa 20 2)) (u2 (u2 la 20 0 (la 20 0)) 20 1 (la 20 1))) s.heap := hP
      have hD9 : va_D A (WX h g ca (u2 (u2 (u2 iv 2 3 (iv 2 3)) 2 4 (iv 2 4)) 2 5 (iv 2 5)) lv (u2 (u2 (u2 fa 1 6 (fa 1 6)) 2 2 (fa 2 2)) 20 2 (fa 20 2)) (u2 (u2 la 20 0 (la 20 0)) 20 1 (la 20 1))) := hD
      exact W.iret (v := (-100001)) hx hb hr (fun t ht9 hW => ⟨⟨(-100001), ((u2 (u2 (u2 iv 2 3 (iv 2 3)) 2 4 (iv 2 4)) 2 5 (iv 2 5)), lv, (u2 (u2 (u2 fa 1 6 (fa 1 6)) 2 2 (fa 2 2)) 20 2 (fa 20 2)), (u2 (u2 la 20 0 (la 20 0)) 20 1 (la 20 1))), rfl, ⟨(fa 1 6), (fa 2 2), (fa 20 2), (la 20 0), (la 20 1), (iv 2 3), (iv 2 4), (iv 2 5), (hI.2 1 6), (hI.2 2 2), trivial, rfl⟩, by rw [ht9]; exact hP9, hD9⟩, hS.F ht9⟩) hS.2.2 dX11_odd_13
set_option maxHeartbeats 4000000 in
set_option maxRecDepth 100000 in
/-- X11_needed -/
theorem c_X11_needed (l : Launch) (dC : Nat → ClassId) (dI : Nat → Nat → Nat) (sz : Nat) (ak av : Nat → Nat) (h : Nat) (g : Nat → Nat → Nat) (ca : Nat → Nat → ClassId) (iv : Nat → Nat → Int32) (lv : Nat → Nat → Int64) (fa : Nat → Nat → Nat → Int32) (la : Nat → Nat → Nat → Int64) (hI : IX iv fa) (a : Int32) (b : Int32) : Met l yX11_needed (wc yX11_needed cX11_needed 3 (some .int)) ({ frames := 16, cells := 0, slots := 0, locals := 411 } : Room) (pWZ ak av (dC, dI) classes (WX h g ca iv lv fa la) (TX ca) sz [.ref h, .int a, .int b]) (va_Qi (fun r (u : SS) => ∃ (na_1_6 : Nat → Int32) (na_2_2 : Nat → Int32) (na_20_2 : Nat → Int32) (nb_20_0 : Nat → Int64) (nb_20_1 : Nat → Int64) (ni_2_3 : Int32) (ni_2_4 : Int32) (ni_2_5 : Int32) (ni_2_6 : Int32) (ni_2_7 : Int32), (∀ j, inb (bA 1 6 j) (na_1_6 j)) ∧ (∀ j, inb (bA 2 2 j) (na_2_2 j)) ∧ ((-100002) ≤ r.toInt ∧ r.toInt ≤ 12) ∧ u = ((u2 (u2 (u2 (u2 (u2 iv 2 3 ni_2_3) 2 4 ni_2_4) 2 5 ni_2_5) 2 6 ni_2_6) 2 7 ni_2_7), lv, (u2 (u2 (u2 fa 1 6 na_1_6) 2 2 na_2_2) 20 2 na_20_2), (u2 (u2 la 20 0 nb_20_0) 20 1 nb_20_1))) (bX (dC, dI) h g ca (va_A (WX h g ca iv lv fa la) sz)) (va_A (WX h g ca iv lv fa la) sz)) 0 0 (va_A (WX h g ca iv lv fa la) sz) := by
  refine Met.ofW (cc := cX11_needed) (maxL := 3) (ret := (some .int)) (by decide) rfl ?_
  intro p e s m args below meth c s₁ B hml hv
  obtain ⟨rfl, hsz, hP, hK, hD0, hZ⟩ := hv
  have hx := B.exec
  have hb := B.bytes
  have hr := B.returns
  have ht := tb_tl (atoms_spec (ws := wc yX11_needed cX11_needed 3 (some .int)) B.pre)
  have hown : s.vm.findClass RX11 = some m.cls := findClass_of_methodNamed B.named
  have hlocks := B.notSynchronized
  subst hsz
  have hD := hD0.self (sz := s.heap.size)
  generalize hAe : va_A (WX h g ca iv lv fa la) s.heap.size = A at hD hZ ⊢
  have hA : ∀ q : Nat, s.heap.size ≤ q → A q := fun q h => by rw [← hAe]; exact Or.inr h
  have hS : va_S A s.heap s.heap [] := va_S.rf
  have hl := lv_entry [.ref h, .int a, .int b] (n := 3) (Nat.le_of_ble_eq_true rfl)
  rw [lg_entry_eq]
  generalize (lg_sl [.ref h, .int a, .int b] ++ List.replicate (3 - (lg_sl [.ref h, .int a, .int b]).length) Slot.unset).toArray = ls at hl ⊢
  have hl : lv_has ls 3 [(0, .ref h), (1, .int a), (2, .int b)] := hl
  refine lv_aload_n hx hb dX11_needed_0 rfl (lv_at hl 0 rfl) ?_
  refine gX_11_2 hx hb ht hown hK hP m_417 dX11_needed_1 ?_
  refine lv_iload_n hx hb dX11_needed_4 rfl (lv_at hl 1 rfl) ?_
  refine vp_callSi (W.runV (As := [.int a]) (rest := []) ⟨hx, hb, hml, hown, ht⟩ (c_X0_has l dC dI h g ca iv lv fa la hI a) (kV 1 ht m_472 m_473 m_474 m_80 m_475 rfl rfl hd_X0_has_v ⟨Nat.le_of_ble_eq_true rfl, Nat.le_of_ble_eq_true rfl⟩) (vR hP hK (rX_0 hK hP)) rfl rfl hl.1 rfl (lv_room (Nat.le_of_ble_eq_true rfl)) dX11_needed_5 ⟨Nat.le_of_ble_eq_true rfl, Nat.le_of_ble_eq_true rfl⟩) (fun r1 hr1 => ?_)
  rcases hr1 with ⟨rfl, fr1⟩ | ⟨rfl, fr1⟩
  · skip
    have i_0_7 : 0 ≤ (iv 0 7).toInt ∧ (iv 0 7).toInt ≤ 10 := hI.1 0 7
    have fr1 : (0 ≤ (a : Int32).toInt ∧ (a : Int32).toInt < ((iv 0 7) : Int32).toInt) := fr1
    refine lv_if_ne (tgt := 14) hx hb dX11_needed_8 (by decide) (fun c2 => ?_) (fun c2 => ?_)
    · skip
      refine lv_iload_n hx hb dX11_needed_14 rfl (lv_at hl 2 rfl) ?_
      refine lv_iconst (v := 1) hx hb dX11_needed_15 (by decide) ?_
      refine lv_bipush (v := 100) hx hb dX11_needed_16 (by decide) ?_
      refine vp_callSi (W.runS (As := [.int b, .int 1, .int 100]) (rest := []) ⟨hx, hb, hml, hown, ht⟩ (c_X11_within l dC dI b 1 100 (b.toInt) (1) (100) (rfl : (b).toInt = _) (by decide : (1 : Int32).toInt = 1) (by decide : (100 : Int32).toInt = 100)) (kS 3 ht m_453 m_454 m_77 m_455 rfl rfl hd_X11_within_v ⟨Nat.le_of_ble_eq_true rfl, Nat.le_of_ble_eq_true rfl⟩) (sR noP (hK.sub (tys' := []) [] rfl)) rfl rfl hl.1 rfl (lv_room (Nat.le_of_ble_eq_true rfl)) dX11_needed_18 ⟨Nat.le_of_ble_eq_true rfl, Nat.le_of_ble_eq_true rfl⟩) (fun r3 hr3 => ?_)
      rcases hr3 with ⟨rfl, fr3⟩ | ⟨rfl, fr3⟩
      · skip
        refine lv_if_ne (tgt := 27) hx hb dX11_needed_21 (by decide) (fun c4 => ?_) (fun c4 => ?_)
        · skip
          refine lv_aload_n hx hb dX11_needed_27 rfl (lv_at hl 0 rfl) ?_
          refine gX_11_6 hx hb ht hown hK hP m_421 dX11_needed_28 ?_
          refine lv_iload_n hx hb dX11_needed_31 rfl (lv_at hl 1 rfl) ?_
          refine lv_aload_n hx hb dX11_needed_32 rfl (lv_at hl 0 rfl) ?_
          have i_11_10 : 0 ≤ (iv 11 10).toInt ∧ (iv 11 10).toInt ≤ 3000 := hI.1 11 10
          refine gX_11_10 hx hb ht hown hK hP m_425 (v := (iv 11 10)) rfl dX11_needed_33 ?_
          refine lv_aload_n hx hb dX11_needed_36 rfl (lv_at hl 0 rfl) ?_
          refine gX_11_3 hx hb ht hown hK hP m_418 dX11_needed_37 ?_
          refine lv_iconst (v := 2) hx hb dX11_needed_40 (by decide) ?_
          refine lv_aload_n hx hb dX11_needed_41 rfl (lv_at hl 0 rfl) ?_
          refine gX_11_10 hx hb ht hown hK hP m_425 (v := (iv 11 10)) rfl dX11_needed_42 ?_
          have hFc := free_all hD hS hA
          refine va_calli (va_runV (As := [.int 2, .int (iv 11 10)]) (rest := [.int (iv 11 10), .int a, .ref (g 11 6)]) ⟨hx, hb, hml, hown, ht⟩ (c_X1_holding l dC dI s.heap.size ak av h g ca iv lv fa la hI 2 (iv 11 10) ⟨by decide, by decide⟩) (kV 2 ht m_667 m_601 m_602 m_81 m_603 rfl rfl hd_X1_holding_v ⟨Nat.le_of_ble_eq_true rfl, Nat.le_of_ble_eq_true rfl⟩) (vWZ hP hK hD ((hZ.kept hS.2.1).narrow (free_all hD hS hA)) (rX_1 hK hP)) rfl rfl hl.1 rfl (lv_room (Nat.le_of_ble_eq_true rfl)) dX11_needed_45 ⟨Nat.le_of_ble_eq_true rfl, Nat.le_of_ble_eq_true rfl⟩) hS (fun q _ h => hFc q h) hFc (fun r5 u t H1 locs ht9 hvm hr5 hB hz1 hk1 hS => ?_)
          obtain ⟨n6, hn6, hr5, rfl⟩ := hr5
          obtain ⟨hP, hD⟩ := hB
          rw [ht9] at hP
          generalize H1 = H at hP hS ⊢
          have hP : va_P (dC, dI) classes (WX h g ca iv lv (u2 fa 1 6 n6) la) H := hP
          have hD : va_D A (WX h g ca iv lv (u2 fa 1 6 n6) la) := (show va_D _ (WX h g ca iv lv (u2 fa 1 6 n6) la) from hD).weaken (fun _ _ _ h => hFc _ h)
          have hFc := free_all hD hS hA
          refine va_callv (va_runV (As := [.int a, .int (iv 11 10), .int r5]) (rest := []) ⟨hx, hb, hml, hown, ht⟩ (c_X2_lookAt l dC dI H.size h g ca iv lv (u2 fa 1 6 n6) la (IX_a (c := 1) (k := 6) hI hn6) a (iv 11 10) r5) (kV 3 ht m_870 m_871 m_872 m_85 m_873 rfl rfl hd_X2_lookAt_v ⟨Nat.le_of_ble_eq_true rfl, Nat.le_of_ble_eq_true rfl⟩) (vW hP hK hD (rX_2 hK hP)) rfl rfl hl.1 rfl (lv_room (Nat.le_of_ble_eq_true rfl)) dX11_needed_48 ⟨Nat.le_of_ble_eq_true rfl, Nat.le_of_ble_eq_true rfl⟩) hS (fun q _ h => hFc q h) hFc (fun u t H1 locs ht9 hvm hr7 hB hz1 hk1 hS => ?_)
          obtain ⟨n8, n9, n10, rfl⟩ := hr7
          obtain ⟨hP, hD⟩ := hB
          rw [ht9] at hP
          generalize H1 = H at hP hS ⊢
          have hP : va_P (dC, dI) classes (WX h g ca (u2 (u2 (u2 iv 2 3 n8) 2 4 n9) 2 5 n10) lv (u2 fa 1 6 n6) la) H := hP
          have hD : va_D A (WX h g ca (u2 (u2 (u2 iv 2 3 n8) 2 4 n9) 2 5 n10) lv (u2 fa 1 6 n6) la) := (show va_D _ (WX h g ca (u2 (u2 (u2 iv 2 3 n8) 2 4 n9) 2 5 n10) lv (u2 fa 1 6 n6) la) from hD).weaken (fun _ _ _ h => hFc _ h)
          refine lv_aload_n hx hb dX11_needed_51 rfl (lv_at hl 0 rfl) ?_
          refine gX_11_6 hx hb ht hown hK hP m_421 dX11_needed_52 ?_
          refine lv_iload_n hx hb dX11_needed_55 rfl (lv_at hl 2 rfl) ?_
          have hFc := free_all hD hS hA
          refine va_calli (va_runV (As := [.int b]) (rest := []) ⟨hx, hb, hml, hown, ht⟩ (c_X2_fewest l dC dI H.size h g ca (u2 (u2 (u2 iv 2 3 n8) 2 4 n9) 2 5 n10) lv (u2 fa 1 6 n6) la (IX_a (c := 1) (k := 6) (IX_i (c := 2) (k := 5) (IX_i (c := 2) (k := 4) (IX_i (c := 2) (k := 3) hI (full_i _)) (full_i _)) (full_i _)) hn6) b) (kV 1 ht m_929 m_930 m_931 m_85 m_932 rfl rfl hd_X2_fewest_v ⟨Nat.le_of_ble_eq_true rfl, Nat.le_of_ble_eq_true rfl⟩) (vW hP hK hD (rX_2 hK hP)) rfl rfl hl.1 rfl (lv_room (Nat.le_of_ble_eq_true rfl)) dX11_needed_56 ⟨Nat.le_of_ble_eq_true rfl, Nat.le_of_ble_eq_true rfl⟩) hS (fun q _ h => hFc q h) hFc (fun r11 u t H1 locs ht9 hvm hr11 hB hz1 hk1 hS => ?_)
          obtain ⟨n12, n13, n14, n15, n16, n17, hn12, hr11, rfl⟩ := hr11
          have hn13 : ∀ j, inb (bA 20 2 j) (n13 j) := fun j => full_i _
          obtain ⟨hP, hD⟩ := hB
          rw [ht9] at hP
          generalize H1 = H at hP hS ⊢
          have hP : va_P (dC, dI) classes (WX h g ca (u2 (u2 (u2 (u2 (u2 iv 2 3 n8) 2 4 n9) 2 5 n10) 2 6 n16) 2 7 n17) lv (u2 (u2 (u2 fa 1 6 n6) 2 2 n12) 20 2 n13) (u2 (u2 la 20 0 n14) 20 1 n15)) H := hP
          have hD : va_D A (WX h g ca (u2 (u2 (u2 (u2 (u2 iv 2 3 n8) 2 4 n9) 2 5 n10) 2 6 n16) 2 7 n17) lv (u2 (u2 (u2 fa 1 6 n6) 2 2 n12) 20 2 n13) (u2 (u2 la 20 0 n14) 20 1 n15)) := (show va_D _ (WX h g ca (u2 (u2 (u2 (u2 (u2 iv 2 3 n8) 2 4 n9) 2 5 n10) 2 6 n16) 2 7 n17) lv (u2 (u2 (u2 fa 1 6 n6) 2 2 n12) 20 2 n13) (u2 (u2 la 20 0 n14) 20 1 n15)) from hD).weaken (fun _ _ _ h => hFc _ h)
          have hP9 : va_P (dC, dI) classes (WX h g ca (u2 (u2 (u2 (u2 (u2 iv 2 3 n8) 2 4 n9) 2 5 n10) 2 6 n16) 2 7 n17) lv (u2 (u2 (u2 fa 1 6 n6) 2 2 n12) 20 2 n13) (u2 (u2 la 20 0 n14) 20 1 n15)) H := hP
          have hD9 : va_D A (WX h g ca (u2 (u2 (u2 (u2 (u2 iv 2 3 n8) 2 4 n9) 2 5 n10) 2 6 n16) 2 7 n17) lv (u2 (u2 (u2 fa 1 6 n6) 2 2 n12) 20 2 n13) (u2 (u2 la 20 0 n14) 20 1 n15)) := hD
          exact W.iret (v := r11) hx hb hr (fun t ht9 hW => ⟨⟨r11, ((u2 (u2 (u2 (u2 (u2 iv 2 3 n8) 2 4 n9) 2 5 n10) 2 6 n16) 2 7 n17), lv, (u2 (u2 (u2 fa 1 6 n6) 2 2 n12) 20 2 n13), (u2 (u2 la 20 0 n14) 20 1 n15)), rfl, ⟨n6, n12, n13, n14, n15, n8, n9, n10, n16, n17, hn6, hn12, ⟨by omega, by omega⟩, rfl⟩, by rw [ht9]; exact hP9, hD9⟩, hS.F ht9⟩) hS.2.2 dX11_needed_59
        · exact absurd c4 (by decide)
      · skip
        refine lv_if_ne (tgt := 27) hx hb dX11_needed_21 (by decide) (fun c18 => ?_) (fun c18 => ?_)
        · exact absurd rfl c18
        · skip
          refine lv_ldc hx hb hown (ht _ m_456) dX11_needed_24 ?_
          have hP9 : va_P (dC, dI) classes (WX h g ca (u2 (u2 (u2 (u2 (u2 iv 2 3 (iv 2 3)) 2 4 (iv 2 4)) 2 5 (iv 2 5)) 2 6 (iv 2 6)) 2 7 (iv 2 7)) lv (u2 (u2 (u2 fa 1 6 (fa 1 6)) 2 2 (fa 2 2)) 20 2 (fa 20 2)) (u2 (u2 la 20 0 (la 20 0)) 20 1 (la 20 1))) s.heap := hP
          have hD9 : va_D A (WX h g ca (u2 (u2 (u2 (u2 (u2 iv 2 3 (iv 2 3)) 2 4 (iv 2 4)) 2 5 (iv 2 5)) 2 6 (iv 2 6)) 2 7 (iv 2 7)) lv (u2 (u2 (u2 fa 1 6 (fa 1 6)) 2 2 (fa 2 2)) 20 2 (fa 20 2)) (u2 (u2 la 20 0 (la 20 0)) 20 1 (la 20 1))) := hD
          exact W.iret (v := (-100002)) hx hb hr (fun t ht9 hW => ⟨⟨(-100002), ((u2 (u2 (u2 (u2 (u2 iv 2 3 (iv 2 3)) 2 4 (iv 2 4)) 2 5 (iv 2 5)) 2 6 (iv 2 6)) 2 7 (iv 2 7)), lv, (u2 (u2 (u2 fa 1 6 (fa 1 6)) 2 2 (fa 2 2)) 20 2 (fa 20 2)), (u2 (u2 la 20 0 (la 20 0)) 20 1 (la 20 1))), rfl, ⟨(fa 1 6), (fa 2 2), (fa 20 2), (la 20 0), (la 20 1), (iv 2 3), (iv 2 4), (iv 2 5), (iv 2 6), (iv 2 7), (hI.2 1 6), (hI.2 2 2), ⟨by decide, by decide⟩, rfl⟩, by rw [ht9]; exact hP9, hD9⟩, hS.F ht9⟩) hS.2.2 dX11_needed_26
    · exact absurd c2 (by decide)
  · skip
    have i_0_7 : 0 ≤ (iv 0 7).toInt ∧ (iv 0 7).toInt ≤ 10 := hI.1 0 7
    have fr1 : ¬ (0 ≤ (a : Int32).toInt ∧ (a : Int32).toInt < ((iv 0 7) : Int32).toInt) := fr1
    refine lv_if_ne (tgt := 14) hx hb dX11_needed_8 (by decide) (fun c19 => ?_) (fun c19 => ?_)
    · exact absurd rfl c19
    · skip
      refine lv_ldc hx hb hown (ht _ m_476) dX11_needed_11 ?_
      have hP9 : va_P (dC, dI) classes (WX h g ca (u2 (u2 (u2 (u2 (u2 iv 2 3 (iv 2 3)) 2 4 (iv 2 4)) 2 5 (iv 2 5)) 2 6 (iv 2 6)) 2 7 (iv 2 7)) lv (u2 (u2 (u2 fa 1 6 (fa 1 6)) 2 2 (fa 2 2)) 20 2 (fa 20 2)) (u2 (u2 la 20 0 (la 20 0)) 20 1 (la 20 1))) s.heap := hP
      have hD9 : va_D A (WX h g ca (u2 (u2 (u2 (u2 (u2 iv 2 3 (iv 2 3)) 2 4 (iv 2 4)) 2 5 (iv 2 5)) 2 6 (iv 2 6)) 2 7 (iv 2 7)) lv (u2 (u2 (u2 fa 1 6 (fa 1 6)) 2 2 (fa 2 2)) 20 2 (fa 20 2)) (u2 (u2 la 20 0 (la 20 0)) 20 1 (la 20 1))) := hD
      exact W.iret (v := (-100001)) hx hb hr (fun t ht9 hW => ⟨⟨(-100001), ((u2 (u2 (u2 (u2 (u2 iv 2 3 (iv 2 3)) 2 4 (iv 2 4)) 2 5 (iv 2 5)) 2 6 (iv 2 6)) 2 7 (iv 2 7)), lv, (u2 (u2 (u2 fa 1 6 (fa 1 6)) 2 2 (fa 2 2)) 20 2 (fa 20 2)), (u2 (u2 la 20 0 (la 20 0)) 20 1 (la 20 1))), rfl, ⟨(fa 1 6), (fa 2 2), (fa 20 2), (la 20 0), (la 20 1), (iv 2 3), (iv 2 4), (iv 2 5), (iv 2 6), (iv 2 7), (hI.2 1 6), (hI.2 2 2), ⟨by decide, by decide⟩, rfl⟩, by rw [ht9]; exact hP9, hD9⟩, hS.F ht9⟩) hS.2.2 dX11_needed_13
set_option maxHeartbeats 4000000 in
set_option maxRecDepth 100000 in
/-- X11_loss -/
theorem c_X11_loss (l : Launch) (dC : Nat → ClassId) (dI : Nat → Nat → Nat) (sz : Nat) (h : Nat) (g : Nat → Nat → Nat) (ca : Nat → Nat → ClassId) (iv : Nat → Nat → Int32) (lv : Nat → Nat → Int64) (fa : Nat → Nat → Nat → Int32) (la : Nat → Nat → Nat → Int64) (hI : IX iv fa) (a : Int32) : Met l yX11_loss (wc yX11_loss cX11_loss 4 (some .int)) ({ frames := 3, cells := 0, slots := 0, locals := 67 } : Room) (pW (dC, dI) classes (WX h g ca iv lv fa la) (TX ca) sz [.ref h, .int a]) (va_Qi (fun r (u : SS) => ∃ (na_30_2 : Nat → Int32) (nb_30_0 : Nat → Int64) (nb_30_1 : Nat → Int64), (True) ∧ u = (iv, lv, (u2 fa 30 2 na_30_2), (u2 (u2 la 30 0 nb_30_0) 30 1 nb_30_1))) (bX (dC, dI) h g ca (va_A (WX h g ca iv lv fa la) sz)) (va_A (WX h g ca iv lv fa la) sz)) 0 0 (va_A (WX h g ca iv lv fa la) sz) := by
  refine Met.ofW (cc := cX11_loss) (maxL := 4) (ret := (some .int)) (by decide) rfl ?_
  intro p e s m args below meth c s₁ B hml hv
  obtain ⟨rfl, hsz, hP, hK, hD0⟩ := hv
  have hx := B.exec
  have hb := B.bytes
  have hr := B.returns
  have ht := tb_tl (atoms_spec (ws := wc yX11_loss cX11_loss 4 (some .int)) B.pre)
  have hown : s.vm.findClass RX11 = some m.cls := findClass_of_methodNamed B.named
  have hlocks := B.notSynchronized
  subst hsz
  have hD := hD0.self (sz := s.heap.size)
  generalize hAe : va_A (WX h g ca iv lv fa la) s.heap.size = A at hD ⊢
  have hA : ∀ q : Nat, s.heap.size ≤ q → A q := fun q h => by rw [← hAe]; exact Or.inr h
  have hS : va_S A s.heap s.heap [] := va_S.rf
  have hl := lv_entry [.ref h, .int a] (n := 4) (Nat.le_of_ble_eq_true rfl)
  rw [lg_entry_eq]
  generalize (lg_sl [.ref h, .int a] ++ List.replicate (4 - (lg_sl [.ref h, .int a]).length) Slot.unset).toArray = ls at hl ⊢
  have hl : lv_has ls 4 [(0, .ref h), (1, .int a)] := hl
  refine lv_aload_n hx hb dX11_loss_0 rfl (lv_at hl 0 rfl) ?_
  refine gX_11_5 hx hb ht hown hK hP m_420 dX11_loss_1 ?_
  refine lv_iload_n hx hb dX11_loss_4 rfl (lv_at hl 1 rfl) ?_
  refine lv_aload_n hx hb dX11_loss_5 rfl (lv_at hl 0 rfl) ?_
  have i_11_10 : 0 ≤ (iv 11 10).toInt ∧ (iv 11 10).toInt ≤ 3000 := hI.1 11 10
  refine gX_11_10 hx hb ht hown hK hP m_425 (v := (iv 11 10)) rfl dX11_loss_6 ?_
  have hFc := free_all hD hS hA
  refine va_callv (va_runV (As := [.int a, .int (iv 11 10)]) (rest := []) ⟨hx, hb, hml, hown, ht⟩ (c_X3_gather l dC dI s.heap.size h g ca iv lv fa la hI a (iv 11 10)) (kV 2 ht m_564 m_565 m_566 m_83 m_567 rfl rfl hd_X3_gather_v ⟨Nat.le_of_ble_eq_true rfl, Nat.le_of_ble_eq_true rfl⟩) (vW hP hK hD (rX_3 hK hP)) rfl rfl hl.1 rfl (lv_room (Nat.le_of_ble_eq_true rfl)) dX11_loss_9 ⟨Nat.le_of_ble_eq_true rfl, Nat.le_of_ble_eq_true rfl⟩) hS (fun q _ h => hFc q h) hFc (fun u t H1 locs ht9 hvm hr1 hB hz1 hk1 hS => ?_)
  obtain ⟨n2, n3, n4, rfl⟩ := hr1
  have hn2 : ∀ j, inb (bA 30 2 j) (n2 j) := fun j => full_i _
  obtain ⟨hP, hD⟩ := hB
  rw [ht9] at hP
  generalize H1 = H at hP hS ⊢
  have hP : va_P (dC, dI) classes (WX h g ca iv lv (u2 fa 30 2 n2) (u2 (u2 la 30 0 n3) 30 1 n4)) H := hP
  have hD : va_D A (WX h g ca iv lv (u2 fa 30 2 n2) (u2 (u2 la 30 0 n3) 30 1 n4)) := (show va_D _ (WX h g ca iv lv (u2 fa 30 2 n2) (u2 (u2 la 30 0 n3) 30 1 n4)) from hD).weaken (fun _ _ _ h => hFc _ h)
  refine lv_aload_n hx hb dX11_loss_12 rfl (lv_at hl 0 rfl) ?_
  refine gX_11_5 hx hb ht hown hK hP m_420 dX11_loss_13 ?_
  refine gX_3_2 hx hb ht hown hK hP m_282 dX11_loss_16 ?_
  refine gX_30_0 hx hb ht hown hK hP m_263 dX11_loss_19 ?_
  refine lv_iconst (v := 0) hx hb dX11_loss_22 (by decide) ?_
  refine lX_30_0 hx hb hK hP (f := n3) rfl (vp_in_iff.mpr (by decide)) dX11_loss_23 ?_
  refine lv_topl (fun w5 ew5 => ?_)
  refine lv_lstore_n (lv' := [(2, .long w5), (0, .ref h), (1, .int a)]) hx hb dX11_loss_24 rfl hl (by decide) rfl (fun ls hl => ?_)
  refine lv_lload_n hx hb dX11_loss_25 rfl (lv_at hl 0 rfl) ?_
  refine lv_lconst (v := 0) hx hb dX11_loss_26 (by decide) ?_
  refine W.lcmp hx hb dX11_loss_27 ?_
  refine lv_topi (fun v6 ev6 => ?_)
  refine lv_if_ne (tgt := 35) hx hb dX11_loss_28 (by decide) (fun c7 => ?_) (fun c7 => ?_)
  · have fc7 := zc_ne ev6 (rfl : (w5).toInt = _) (by decide : (0 : Int64).toInt = 0) c7
    refine lv_ldc2 hx hb hown (ht _ m_848) dX11_loss_35 ?_
    refine lv_lload_n hx hb dX11_loss_38 rfl (lv_at hl 0 rfl) ?_
    refine lv_aload_n hx hb dX11_loss_39 rfl (lv_at hl 1 rfl) ?_
    refine gX_11_5 hx hb ht hown hK hP m_420 dX11_loss_40 ?_
    refine gX_3_2 hx hb ht hown hK hP m_282 dX11_loss_43 ?_
    refine gX_30_1 hx hb ht hown hK hP m_266 dX11_loss_46 ?_
    refine lv_iconst (v := 0) hx hb dX11_loss_49 (by decide) ?_
    refine lX_30_1 hx hb hK hP (f := n4) rfl (vp_in_iff.mpr (by decide)) dX11_loss_50 ?_
    refine lv_topl (fun w8 ew8 => ?_)
    refine lv_lsub hx hb dX11_loss_51 ?_
    refine lv_topl (fun w9 ew9 => ?_)
    refine lv_lmul hx hb dX11_loss_52 ?_
    refine lv_topl (fun w10 ew10 => ?_)
    refine lv_lload_n hx hb dX11_loss_53 rfl (lv_at hl 0 rfl) ?_
    refine lv_ldiv hx hb dX11_loss_54 (l_nz (rfl : (w5 : Int64).toInt = _) (by omega)) ?_
    refine lv_topl (fun w11 ew11 => ?_)
    obtain ⟨v12, ev12⟩ : ∃ y : Int32, w11.toInt32 = y := ⟨_, rfl⟩
    refine lv_l2i (v := v12) hx hb dX11_loss_55 ev12 ?_
    have hP9 : va_P (dC, dI) classes (WX h g ca iv lv (u2 fa 30 2 n2) (u2 (u2 la 30 0 n3) 30 1 n4)) H := hP
    have hD9 : va_D A (WX h g ca iv lv (u2 fa 30 2 n2) (u2 (u2 la 30 0 n3) 30 1 n4)) := hD
    exact W.iret (v := v12) hx hb hr (fun t ht9 hW => ⟨⟨v12, (iv, lv, (u2 fa 30 2 n2), (u2 (u2 la 30 0 n3) 30 1 n4)), rfl, ⟨n2, n3, n4, trivial, rfl⟩, by rw [ht9]; exact hP9, hD9⟩, hS.F ht9⟩) hS.2.2 dX11_loss_56
  · have fc7 := zc_eq ev6 (rfl : (w5).toInt = _) (by decide : (0 : Int64).toInt = 0) c7
    refine lv_iconst (v := 0) hx hb dX11_loss_31 (by decide) ?_
    refine lv_goto (tgt := 56) hx hb dX11_loss_32 (by decide) ?_
    have hP9 : va_P (dC, dI) classes (WX h g ca iv lv (u2 fa 30 2 n2) (u2 (u2 la 30 0 n3) 30 1 n4)) H := hP
    have hD9 : va_D A (WX h g ca iv lv (u2 fa 30 2 n2) (u2 (u2 la 30 0 n3) 30 1 n4)) := hD
    exact W.iret (v := 0) hx hb hr (fun t ht9 hW => ⟨⟨0, (iv, lv, (u2 fa 30 2 n2), (u2 (u2 la 30 0 n3) 30 1 n4)), rfl, ⟨n2, n3, n4, trivial, rfl⟩, by rw [ht9]; exact hP9, hD9⟩, hS.F ht9⟩) hS.2.2 dX11_loss_56
set_option maxHeartbeats 4000000 in
set_option maxRecDepth 100000 in
/-- X11_count -/
theorem c_X11_count (l : Launch) (dC : Nat → ClassId) (dI : Nat → Nat → Nat) (sz : Nat) (ak av : Nat → Nat) (h : Nat) (g : Nat → Nat → Nat) (ca : Nat → Nat → ClassId) (iv : Nat → Nat → Int32) (lv : Nat → Nat → Int64) (fa : Nat → Nat → Nat → Int32) (la : Nat → Nat → Nat → Int64) (hI : IX iv fa) (a : Int32) : Met l yX11_count (wc yX11_count cX11_count 2 (some .int)) ({ frames := 6, cells := 0, slots := 0, locals := 140 } : Room) (pWZ ak av (dC, dI) classes (WX h g ca iv lv fa la) (TX ca) sz [.ref h, .int a]) (va_Qi (fun r (u : SS) => ∃ (na_1_6 : Nat → Int32) (na_30_2 : Nat → Int32) (nb_30_0 : Nat → Int64) (nb_30_1 : Nat → Int64) (ni_3_3 : Int32) (ni_3_4 : Int32), (∀ j, inb (bA 1 6 j) (na_1_6 j)) ∧ inb (bI 3 3) ni_3_3 ∧ inb (bI 3 4) ni_3_4 ∧ (True) ∧ u = ((u2 (u2 iv 3 3 ni_3_3) 3 4 ni_3_4), lv, (u2 (u2 fa 1 6 na_1_6) 30 2 na_30_2), (u2 (u2 la 30 0 nb_30_0) 30 1 nb_30_1))) (bX (dC, dI) h g ca (va_A (WX h g ca iv lv fa la) sz)) (va_A (WX h g ca iv lv fa la) sz)) 0 0 (va_A (WX h g ca iv lv fa la) sz) := by
  refine Met.ofW (cc := cX11_count) (maxL := 2) (ret := (some .int)) (by decide) rfl ?_
  intro p e s m args below meth c s₁ B hml hv
  obtain ⟨rfl, hsz, hP, hK, hD0, hZ⟩ := hv
  have hx := B.exec
  have hb := B.bytes
  have hr := B.returns
  have ht := tb_tl (atoms_spec (ws := wc yX11_count cX11_count 2 (some .int)) B.pre)
  have hown : s.vm.findClass RX11 = some m.cls := findClass_of_methodNamed B.named
  have hlocks := B.notSynchronized
  subst hsz
  have hD := hD0.self (sz := s.heap.size)
  generalize hAe : va_A (WX h g ca iv lv fa la) s.heap.size = A at hD hZ ⊢
  have hA : ∀ q : Nat, s.heap.size ≤ q → A q := fun q h => by rw [← hAe]; exact Or.inr h
  have hS : va_S A s.heap s.heap [] := va_S.rf
  have hl := lv_entry [.ref h, .int a] (n := 2) (Nat.le_of_ble_eq_true rfl)
  rw [lg_entry_eq]
  generalize (lg_sl [.ref h, .int a] ++ List.replicate (2 - (lg_sl [.ref h, .int a]).length) Slot.unset).toArray = ls at hl ⊢
  have hl : lv_has ls 2 [(0, .ref h), (1, .int a)] := hl
  refine lv_iload_n hx hb dX11_count_0 rfl (lv_at hl 1 rfl) ?_
  rcases sw_0_10 a with h1 | rfl | rfl | rfl | rfl | rfl | rfl | rfl | rfl | rfl | rfl | rfl
  · refine lv_tableOut (tgt := 138) hx hb dX11_count_1 h1 (by decide) ?_
    refine lv_ldc hx hb hown (ht _ m_456) dX11_count_138 ?_
    have hP9 : va_P (dC, dI) classes (WX h g ca (u2 (u2 iv 3 3 (iv 3 3)) 3 4 (iv 3 4)) lv (u2 (u2 fa 1 6 (fa 1 6)) 30 2 (fa 30 2)) (u2 (u2 la 30 0 (la 30 0)) 30 1 (la 30 1))) s.heap := hP
    have hD9 : va_D A (WX h g ca (u2 (u2 iv 3 3 (iv 3 3)) 3 4 (iv 3 4)) lv (u2 (u2 fa 1 6 (fa 1 6)) 30 2 (fa 30 2)) (u2 (u2 la 30 0 (la 30 0)) 30 1 (la 30 1))) := hD
    exact W.iret (v := (-100002)) hx hb hr (fun t ht9 hW => ⟨⟨(-100002), ((u2 (u2 iv 3 3 (iv 3 3)) 3 4 (iv 3 4)), lv, (u2 (u2 fa 1 6 (fa 1 6)) 30 2 (fa 30 2)), (u2 (u2 la 30 0 (la 30 0)) 30 1 (la 30 1))), rfl, ⟨(fa 1 6), (fa 30 2), (la 30 0), (la 30 1), (iv 3 3), (iv 3 4), (hI.2 1 6), (hI.1 3 3), (hI.1 3 4), trivial, rfl⟩, by rw [ht9]; exact hP9, hD9⟩, hS.F ht9⟩) hS.2.2 dX11_count_140
  · refine lv_tableIn (tgt := 60) (off := 59) hx hb dX11_count_1 (by decide) (by decide) rfl (by decide) ?_
    refine lv_aload_n hx hb dX11_count_60 rfl (lv_at hl 0 rfl) ?_
    have i_11_10 : 0 ≤ (iv 11 10).toInt ∧ (iv 11 10).toInt ≤ 3000 := hI.1 11 10
    refine gX_11_10 hx hb ht hown hK hP m_425 (v := (iv 11 10)) rfl dX11_count_61 ?_
    have hP9 : va_P (dC, dI) classes (WX h g ca (u2 (u2 iv 3 3 (iv 3 3)) 3 4 (iv 3 4)) lv (u2 (u2 fa 1 6 (fa 1 6)) 30 2 (fa 30 2)) (u2 (u2 la 30 0 (la 30 0)) 30 1 (la 30 1))) s.heap := hP
    have hD9 : va_D A (WX h g ca (u2 (u2 iv 3 3 (iv 3 3)) 3 4 (iv 3 4)) lv (u2 (u2 fa 1 6 (fa 1 6)) 30 2 (fa 30 2)) (u2 (u2 la 30 0 (la 30 0)) 30 1 (la 30 1))) := hD
    exact W.iret (v := (iv 11 10)) hx hb hr (fun t ht9 hW => ⟨⟨(iv 11 10), ((u2 (u2 iv 3 3 (iv 3 3)) 3 4 (iv 3 4)), lv, (u2 (u2 fa 1 6 (fa 1 6)) 30 2 (fa 30 2)), (u2 (u2 la 30 0 (la 30 0)) 30 1 (la 30 1))), rfl, ⟨(fa 1 6), (fa 30 2), (la 30 0), (la 30 1), (iv 3 3), (iv 3 4), (hI.2 1 6), (hI.1 3 3), (hI.1 3 4), trivial, rfl⟩, by rw [ht9]; exact hP9, hD9⟩, hS.F ht9⟩) hS.2.2 dX11_count_64
  · refine lv_tableIn (tgt := 65) (off := 64) hx hb dX11_count_1 (by decide) (by decide) rfl (by decide) ?_
    refine lv_aload_n hx hb dX11_count_65 rfl (lv_at hl 0 rfl) ?_
    refine gX_11_2 hx hb ht hown hK hP m_417 dX11_count_66 ?_
    have i_0_7 : 0 ≤ (iv 0 7).toInt ∧ (iv 0 7).toInt ≤ 10 := hI.1 0 7
    refine gX_0_7 hx hb ht hown hK hP m_165 (v := (iv 0 7)) rfl dX11_count_69 ?_
    have hP9 : va_P (dC, dI) classes (WX h g ca (u2 (u2 iv 3 3 (iv 3 3)) 3 4 (iv 3 4)) lv (u2 (u2 fa 1 6 (fa 1 6)) 30 2 (fa 30 2)) (u2 (u2 la 30 0 (la 30 0)) 30 1 (la 30 1))) s.heap := hP
    have hD9 : va_D A (WX h g ca (u2 (u2 iv 3 3 (iv 3 3)) 3 4 (iv 3 4)) lv (u2 (u2 fa 1 6 (fa 1 6)) 30 2 (fa 30 2)) (u2 (u2 la 30 0 (la 30 0)) 30 1 (la 30 1))) := hD
    exact W.iret (v := (iv 0 7)) hx hb hr (fun t ht9 hW => ⟨⟨(iv 0 7), ((u2 (u2 iv 3 3 (iv 3 3)) 3 4 (iv 3 4)), lv, (u2 (u2 fa 1 6 (fa 1 6)) 30 2 (fa 30 2)), (u2 (u2 la 30 0 (la 30 0)) 30 1 (la 30 1))), rfl, ⟨(fa 1 6), (fa 30 2), (la 30 0), (la 30 1), (iv 3 3), (iv 3 4), (hI.2 1 6), (hI.1 3 3), (hI.1 3 4), trivial, rfl⟩, by rw [ht9]; exact hP9, hD9⟩, hS.F ht9⟩) hS.2.2 dX11_count_72
  · refine lv_tableIn (tgt := 73) (off := 72) hx hb dX11_count_1 (by decide) (by decide) rfl (by decide) ?_
    refine lv_aload_n hx hb dX11_count_73 rfl (lv_at hl 0 rfl) ?_
    refine gX_11_0 hx hb ht hown hK hP m_415 dX11_count_74 ?_
    have i_10_1 : 0 ≤ (iv 10 1).toInt ∧ (iv 10 1).toInt ≤ 60 := hI.1 10 1
    refine gX_10_1 hx hb ht hown hK hP m_114 (v := (iv 10 1)) rfl dX11_count_77 ?_
    have hP9 : va_P (dC, dI) classes (WX h g ca (u2 (u2 iv 3 3 (iv 3 3)) 3 4 (iv 3 4)) lv (u2 (u2 fa 1 6 (fa 1 6)) 30 2 (fa 30 2)) (u2 (u2 la 30 0 (la 30 0)) 30 1 (la 30 1))) s.heap := hP
    have hD9 : va_D A (WX h g ca (u2 (u2 iv 3 3 (iv 3 3)) 3 4 (iv 3 4)) lv (u2 (u2 fa 1 6 (fa 1 6)) 30 2 (fa 30 2)) (u2 (u2 la 30 0 (la 30 0)) 30 1 (la 30 1))) := hD
    exact W.iret (v := (iv 10 1)) hx hb hr (fun t ht9 hW => ⟨⟨(iv 10 1), ((u2 (u2 iv 3 3 (iv 3 3)) 3 4 (iv 3 4)), lv, (u2 (u2 fa 1 6 (fa 1 6)) 30 2 (fa 30 2)), (u2 (u2 la 30 0 (la 30 0)) 30 1 (la 30 1))), rfl, ⟨(fa 1 6), (fa 30 2), (la 30 0), (la 30 1), (iv 3 3), (iv 3 4), (hI.2 1 6), (hI.1 3 3), (hI.1 3 4), trivial, rfl⟩, by rw [ht9]; exact hP9, hD9⟩, hS.F ht9⟩) hS.2.2 dX11_count_80
  · refine lv_tableIn (tgt := 81) (off := 80) hx hb dX11_count_1 (by decide) (by decide) rfl (by decide) ?_
    refine lv_aload_n hx hb dX11_count_81 rfl (lv_at hl 0 rfl) ?_
    refine gX_11_0 hx hb ht hown hK hP m_415 dX11_count_82 ?_
    refine gX_10_2 hx hb ht hown hK hP m_117 (v := (iv 10 2)) rfl dX11_count_85 ?_
    have hP9 : va_P (dC, dI) classes (WX h g ca (u2 (u2 iv 3 3 (iv 3 3)) 3 4 (iv 3 4)) lv (u2 (u2 fa 1 6 (fa 1 6)) 30 2 (fa 30 2)) (u2 (u2 la 30 0 (la 30 0)) 30 1 (la 30 1))) s.heap := hP
    have hD9 : va_D A (WX h g ca (u2 (u2 iv 3 3 (iv 3 3)) 3 4 (iv 3 4)) lv (u2 (u2 fa 1 6 (fa 1 6)) 30 2 (fa 30 2)) (u2 (u2 la 30 0 (la 30 0)) 30 1 (la 30 1))) := hD
    exact W.iret (v := (iv 10 2)) hx hb hr (fun t ht9 hW => ⟨⟨(iv 10 2), ((u2 (u2 iv 3 3 (iv 3 3)) 3 4 (iv 3 4)), lv, (u2 (u2 fa 1 6 (fa 1 6)) 30 2 (fa 30 2)), (u2 (u2 la 30 0 (la 30 0)) 30 1 (la 30 1))), rfl, ⟨(fa 1 6), (fa 30 2), (la 30 0), (la 30 1), (iv 3 3), (iv 3 4), (hI.2 1 6), (hI.1 3 3), (hI.1 3 4), trivial, rfl⟩, by rw [ht9]; exact hP9, hD9⟩, hS.F ht9⟩) hS.2.2 dX11_count_88
  · refine lv_tableIn (tgt := 89) (off := 88) hx hb dX11_count_1 (by decide) (by decide) rfl (by decide) ?_
    refine lv_aload_n hx hb dX11_count_89 rfl (lv_at hl 0 rfl) ?_
    refine gX_11_1 hx hb ht hown hK hP m_416 dX11_count_90 ?_
    have i_9_3 : 0 ≤ (iv 9 3).toInt ∧ (iv 9 3).toInt ≤ 30 := hI.1 9 3
    refine gX_9_3 hx hb ht hown hK hP m_136 (v := (iv 9 3)) rfl dX11_count_93 ?_
    have hP9 : va_P (dC, dI) classes (WX h g ca (u2 (u2 iv 3 3 (iv 3 3)) 3 4 (iv 3 4)) lv (u2 (u2 fa 1 6 (fa 1 6)) 30 2 (fa 30 2)) (u2 (u2 la 30 0 (la 30 0)) 30 1 (la 30 1))) s.heap := hP
    have hD9 : va_D A (WX h g ca (u2 (u2 iv 3 3 (iv 3 3)) 3 4 (iv 3 4)) lv (u2 (u2 fa 1 6 (fa 1 6)) 30 2 (fa 30 2)) (u2 (u2 la 30 0 (la 30 0)) 30 1 (la 30 1))) := hD
    exact W.iret (v := (iv 9 3)) hx hb hr (fun t ht9 hW => ⟨⟨(iv 9 3), ((u2 (u2 iv 3 3 (iv 3 3)) 3 4 (iv 3 4)), lv, (u2 (u2 fa 1 6 (fa 1 6)) 30 2 (fa 30 2)), (u2 (u2 la 30 0 (la 30 0)) 30 1 (la 30 1))), rfl, ⟨(fa 1 6), (fa 30 2), (la 30 0), (la 30 1), (iv 3 3), (iv 3 4), (hI.2 1 6), (hI.1 3 3), (hI.1 3 4), trivial, rfl⟩, by rw [ht9]; exact hP9, hD9⟩, hS.F ht9⟩) hS.2.2 dX11_count_96
  · refine lv_tableIn (tgt := 97) (off := 96) hx hb dX11_count_1 (by decide) (by decide) rfl (by decide) ?_
    refine lv_aload_n hx hb dX11_count_97 rfl (lv_at hl 0 rfl) ?_
    refine gX_11_3 hx hb ht hown hK hP m_418 dX11_count_98 ?_
    have i_1_7 : 0 ≤ (iv 1 7).toInt ∧ (iv 1 7).toInt ≤ 8 := hI.1 1 7
    refine gX_1_7 hx hb ht hown hK hP m_198 (v := (iv 1 7)) rfl dX11_count_101 ?_
    have hP9 : va_P (dC, dI) classes (WX h g ca (u2 (u2 iv 3 3 (iv 3 3)) 3 4 (iv 3 4)) lv (u2 (u2 fa 1 6 (fa 1 6)) 30 2 (fa 30 2)) (u2 (u2 la 30 0 (la 30 0)) 30 1 (la 30 1))) s.heap := hP
    have hD9 : va_D A (WX h g ca (u2 (u2 iv 3 3 (iv 3 3)) 3 4 (iv 3 4)) lv (u2 (u2 fa 1 6 (fa 1 6)) 30 2 (fa 30 2)) (u2 (u2 la 30 0 (la 30 0)) 30 1 (la 30 1))) := hD
    exact W.iret (v := (iv 1 7)) hx hb hr (fun t ht9 hW => ⟨⟨(iv 1 7), ((u2 (u2 iv 3 3 (iv 3 3)) 3 4 (iv 3 4)), lv, (u2 (u2 fa 1 6 (fa 1 6)) 30 2 (fa 30 2)), (u2 (u2 la 30 0 (la 30 0)) 30 1 (la 30 1))), rfl, ⟨(fa 1 6), (fa 30 2), (la 30 0), (la 30 1), (iv 3 3), (iv 3 4), (hI.2 1 6), (hI.1 3 3), (hI.1 3 4), trivial, rfl⟩, by rw [ht9]; exact hP9, hD9⟩, hS.F ht9⟩) hS.2.2 dX11_count_104
  · refine lv_tableIn (tgt := 105) (off := 104) hx hb dX11_count_1 (by decide) (by decide) rfl (by decide) ?_
    refine lv_aload_n hx hb dX11_count_105 rfl (lv_at hl 0 rfl) ?_
    refine gX_11_9 hx hb ht hown hK hP m_424 dX11_count_106 ?_
    have i_6_7 : 0 ≤ (iv 6 7).toInt ∧ (iv 6 7).toInt ≤ 40 := hI.1 6 7
    refine gX_6_7 hx hb ht hown hK hP m_397 (v := (iv 6 7)) rfl dX11_count_109 ?_
    have hP9 : va_P (dC, dI) classes (WX h g ca (u2 (u2 iv 3 3 (iv 3 3)) 3 4 (iv 3 4)) lv (u2 (u2 fa 1 6 (fa 1 6)) 30 2 (fa 30 2)) (u2 (u2 la 30 0 (la 30 0)) 30 1 (la 30 1))) s.heap := hP
    have hD9 : va_D A (WX h g ca (u2 (u2 iv 3 3 (iv 3 3)) 3 4 (iv 3 4)) lv (u2 (u2 fa 1 6 (fa 1 6)) 30 2 (fa 30 2)) (u2 (u2 la 30 0 (la 30 0)) 30 1 (la 30 1))) := hD
    exact W.iret (v := (iv 6 7)) hx hb hr (fun t ht9 hW => ⟨⟨(iv 6 7), ((u2 (u2 iv 3 3 (iv 3 3)) 3 4 (iv 3 4)), lv, (u2 (u2 fa 1 6 (fa 1 6)) 30 2 (fa 30 2)), (u2 (u2 la 30 0 (la 30 0)) 30 1 (la 30 1))), rfl, ⟨(fa 1 6), (fa 30 2), (la 30 0), (la 30 1), (iv 3 3), (iv 3 4), (hI.2 1 6), (hI.1 3 3), (hI.1 3 4), trivial, rfl⟩, by rw [ht9]; exact hP9, hD9⟩, hS.F ht9⟩) hS.2.2 dX11_count_112
  · refine lv_tableIn (tgt := 113) (off := 112) hx hb dX11_count_1 (by decide) (by decide) rfl (by decide) ?_
    refine lv_aload_n hx hb dX11_count_113 rfl (lv_at hl 0 rfl) ?_
    refine lv_iconst (v := 1) hx hb dX11_count_114 (by decide) ?_
    have hFc := free_all hD hS hA
    refine va_calli (va_runV (As := [.int 1]) (rest := []) ⟨hx, hb, hml, hown, ht⟩ (c_X11_balesIn l dC dI s.heap.size ak av h g ca iv lv fa la hI 1) (kV 1 ht m_591 m_593 m_4 m_77 m_594 rfl rfl hd_X11_balesIn_v ⟨Nat.le_of_ble_eq_true rfl, Nat.le_of_ble_eq_true rfl⟩) (vWZ hP hK hD ((hZ.kept hS.2.1).narrow (free_all hD hS hA)) (rX_11 hK hP)) rfl rfl hl.1 rfl (lv_room (Nat.le_of_ble_eq_true rfl)) dX11_count_115 ⟨Nat.le_of_ble_eq_true rfl, Nat.le_of_ble_eq_true rfl⟩) hS (fun q _ h => hFc q h) hFc (fun r2 u t H1 locs ht9 hvm hr2 hB hz1 hk1 hS => ?_)
    obtain ⟨n3, n4, n5, n6, n7, n8, hn3, hn7, hn8, hr2, rfl⟩ := hr2
    have hn4 : ∀ j, inb (bA 30 2 j) (n4 j) := fun j => full_i _
    have hn7 : 0 ≤ n7.toInt ∧ n7.toInt ≤ 2 := hn7
    have hn8 : 0 ≤ n8.toInt ∧ n8.toInt ≤ 2 := hn8
    obtain ⟨hP, hD⟩ := hB
    rw [ht9] at hP
    generalize H1 = H at hP hS ⊢
    have hP : va_P (dC, dI) classes (WX h g ca (u2 (u2 iv 3 3 n7) 3 4 n8) lv (u2 (u2 fa 1 6 n3) 30 2 n4) (u2 (u2 la 30 0 n5) 30 1 n6)) H := hP
    have hD : va_D A (WX h g ca (u2 (u2 iv 3 3 n7) 3 4 n8) lv (u2 (u2 fa 1 6 n3) 30 2 n4) (u2 (u2 la 30 0 n5) 30 1 n6)) := (show va_D _ (WX h g ca (u2 (u2 iv 3 3 n7) 3 4 n8) lv (u2 (u2 fa 1 6 n3) 30 2 n4) (u2 (u2 la 30 0 n5) 30 1 n6)) from hD).weaken (fun _ _ _ h => hFc _ h)
    have hP9 : va_P (dC, dI) classes (WX h g ca (u2 (u2 iv 3 3 n7) 3 4 n8) lv (u2 (u2 fa 1 6 n3) 30 2 n4) (u2 (u2 la 30 0 n5) 30 1 n6)) H := hP
    have hD9 : va_D A (WX h g ca (u2 (u2 iv 3 3 n7) 3 4 n8) lv (u2 (u2 fa 1 6 n3) 30 2 n4) (u2 (u2 la 30 0 n5) 30 1 n6)) := hD
    exact W.iret (v := r2) hx hb hr (fun t ht9 hW => ⟨⟨r2, ((u2 (u2 iv 3 3 n7) 3 4 n8), lv, (u2 (u2 fa 1 6 n3) 30 2 n4), (u2 (u2 la 30 0 n5) 30 1 n6)), rfl, ⟨n3, n4, n5, n6, n7, n8, hn3, (show inb (0, 2) n7 from ⟨by omega, by omega⟩), (show inb (0, 2) n8 from ⟨by omega, by omega⟩), trivial, rfl⟩, by rw [ht9]; exact hP9, hD9⟩, hS.F ht9⟩) hS.2.2 dX11_count_118
  · refine lv_tableIn (tgt := 119) (off := 118) hx hb dX11_count_1 (by decide) (by decide) rfl (by decide) ?_
    refine lv_aload_n hx hb dX11_count_119 rfl (lv_at hl 0 rfl) ?_
    refine lv_iconst (v := 2) hx hb dX11_count_120 (by decide) ?_
    have hFc := free_all hD hS hA
    refine va_calli (va_runV (As := [.int 2]) (rest := []) ⟨hx, hb, hml, hown, ht⟩ (c_X11_balesIn l dC dI s.heap.size ak av h g ca iv lv fa la hI 2) (kV 1 ht m_591 m_593 m_4 m_77 m_594 rfl rfl hd_X11_balesIn_v ⟨Nat.le_of_ble_eq_true rfl, Nat.le_of_ble_eq_true rfl⟩) (vWZ hP hK hD ((hZ.kept hS.2.1).narrow (free_all hD hS hA)) (rX_11 hK hP)) rfl rfl hl.1 rfl (lv_room (Nat.le_of_ble_eq_true rfl)) dX11_count_121 ⟨Nat.le_of_ble_eq_true rfl, Nat.le_of_ble_eq_true rfl⟩) hS (fun q _ h => hFc q h) hFc (fun r9 u t H1 locs ht9 hvm hr9 hB hz1 hk1 hS => ?_)
    obtain ⟨n10, n11, n12, n13, n14, n15, hn10, hn14, hn15, hr9, rfl⟩ := hr9
    have hn11 : ∀ j, inb (bA 30 2 j) (n11 j) := fun j => full_i _
    have hn14 : 0 ≤ n14.toInt ∧ n14.toInt ≤ 2 := hn14
    have hn15 : 0 ≤ n15.toInt ∧ n15.toInt ≤ 2 := hn15
    obtain ⟨hP, hD⟩ := hB
    rw [ht9] at hP
    generalize H1 = H at hP hS ⊢
    have hP : va_P (dC, dI) classes (WX h g ca (u2 (u2 iv 3 3 n14) 3 4 n15) lv (u2 (u2 fa 1 6 n10) 30 2 n11) (u2 (u2 la 30 0 n12) 30 1 n13)) H := hP
    have hD : va_D A (WX h g ca (u2 (u2 iv 3 3 n14) 3 4 n15) lv (u2 (u2 fa 1 6 n10) 30 2 n11) (u2 (u2 la 30 0 n12) 30 1 n13)) := (show va_D _ (WX h g ca (u2 (u2 iv 3 3 n14) 3 4 n15) lv (u2 (u2 fa 1 6 n10) 30 2 n11) (u2 (u2 la 30 0 n12) 30 1 n13)) from hD).weaken (fun _ _ _ h => hFc _ h)
    have hP9 : va_P (dC, dI) classes (WX h g ca (u2 (u2 iv 3 3 n14) 3 4 n15) lv (u2 (u2 fa 1 6 n10) 30 2 n11) (u2 (u2 la 30 0 n12) 30 1 n13)) H := hP
    have hD9 : va_D A (WX h g ca (u2 (u2 iv 3 3 n14) 3 4 n15) lv (u2 (u2 fa 1 6 n10) 30 2 n11) (u2 (u2 la 30 0 n12) 30 1 n13)) := hD
    exact W.iret (v := r9) hx hb hr (fun t ht9 hW => ⟨⟨r9, ((u2 (u2 iv 3 3 n14) 3 4 n15), lv, (u2 (u2 fa 1 6 n10) 30 2 n11), (u2 (u2 la 30 0 n12) 30 1 n13)), rfl, ⟨n10, n11, n12, n13, n14, n15, hn10, (show inb (0, 2) n14 from ⟨by omega, by omega⟩), (show inb (0, 2) n15 from ⟨by omega, by omega⟩), trivial, rfl⟩, by rw [ht9]; exact hP9, hD9⟩, hS.F ht9⟩) hS.2.2 dX11_count_124
  · refine lv_tableIn (tgt := 125) (off := 124) hx hb dX11_count_1 (by decide) (by decide) rfl (by decide) ?_
    refine lv_aload_n hx hb dX11_count_125 rfl (lv_at hl 0 rfl) ?_
    refine gX_11_4 hx hb ht hown hK hP m_419 dX11_count_126 ?_
    have i_8_2 : 0 ≤ (iv 8 2).toInt ∧ (iv 8 2).toInt ≤ 200 := hI.1 8 2
    refine gX_8_2 hx hb ht hown hK hP m_231 (v := (iv 8 2)) rfl dX11_count_129 ?_
    have hP9 : va_P (dC, dI) classes (WX h g ca (u2 (u2 iv 3 3 (iv 3 3)) 3 4 (iv 3 4)) lv (u2 (u2 fa 1 6 (fa 1 6)) 30 2 (fa 30 2)) (u2 (u2 la 30 0 (la 30 0)) 30 1 (la 30 1))) s.heap := hP
    have hD9 : va_D A (WX h g ca (u2 (u2 iv 3 3 (iv 3 3)) 3 4 (iv 3 4)) lv (u2 (u2 fa 1 6 (fa 1 6)) 30 2 (fa 30 2)) (u2 (u2 la 30 0 (la 30 0)) 30 1 (la 30 1))) := hD
    exact W.iret (v := (iv 8 2)) hx hb hr (fun t ht9 hW => ⟨⟨(iv 8 2), ((u2 (u2 iv 3 3 (iv 3 3)) 3 4 (iv 3 4)), lv, (u2 (u2 fa 1 6 (fa 1 6)) 30 2 (fa 30 2)), (u2 (u2 la 30 0 (la 30 0)) 30 1 (la 30 1))), rfl, ⟨(fa 1 6), (fa 30 2), (la 30 0), (la 30 1), (iv 3 3), (iv 3 4), (hI.2 1 6), (hI.1 3 3), (hI.1 3 4), trivial, rfl⟩, by rw [ht9]; exact hP9, hD9⟩, hS.F ht9⟩) hS.2.2 dX11_count_132
  · refine lv_tableIn (tgt := 133) (off := 132) hx hb dX11_count_1 (by decide) (by decide) rfl (by decide) ?_
    refine lv_aload_n hx hb dX11_count_133 rfl (lv_at hl 0 rfl) ?_
    have hFc := free_all hD hS hA
    refine va_calli (va_runV (As := []) (rest := []) ⟨hx, hb, hml, hown, ht⟩ (c_X11_fees l dC dI s.heap.size ak av h g ca iv lv fa la hI) (kV 0 ht m_659 m_661 m_15 m_77 m_662 rfl rfl hd_X11_fees_v ⟨Nat.le_of_ble_eq_true rfl, Nat.le_of_ble_eq_true rfl⟩) (vWZ hP hK hD ((hZ.kept hS.2.1).narrow (free_all hD hS hA)) (rX_11 hK hP)) rfl rfl hl.1 rfl (lv_room (Nat.le_of_ble_eq_true rfl)) dX11_count_134 ⟨Nat.le_of_ble_eq_true rfl, Nat.le_of_ble_eq_true rfl⟩) hS (fun q _ h => hFc q h) hFc (fun r16 u t H1 locs ht9 hvm hr16 hB hz1 hk1 hS => ?_)
    obtain ⟨n17, hn17, hr16, rfl⟩ := hr16
    obtain ⟨hP, hD⟩ := hB
    rw [ht9] at hP
    generalize H1 = H at hP hS ⊢
    have hP : va_P (dC, dI) classes (WX h g ca iv lv (u2 fa 1 6 n17) la) H := hP
    have hD : va_D A (WX h g ca iv lv (u2 fa 1 6 n17) la) := (show va_D _ (WX h g ca iv lv (u2 fa 1 6 n17) la) from hD).weaken (fun _ _ _ h => hFc _ h)
    have hP9 : va_P (dC, dI) classes (WX h g ca (u2 (u2 iv 3 3 (iv 3 3)) 3 4 (iv 3 4)) lv (u2 (u2 fa 1 6 n17) 30 2 (fa 30 2)) (u2 (u2 la 30 0 (la 30 0)) 30 1 (la 30 1))) H := hP
    have hD9 : va_D A (WX h g ca (u2 (u2 iv 3 3 (iv 3 3)) 3 4 (iv 3 4)) lv (u2 (u2 fa 1 6 n17) 30 2 (fa 30 2)) (u2 (u2 la 30 0 (la 30 0)) 30 1 (la 30 1))) := hD
    exact W.iret (v := r16) hx hb hr (fun t ht9 hW => ⟨⟨r16, ((u2 (u2 iv 3 3 (iv 3 3)) 3 4 (iv 3 4)), lv, (u2 (u2 fa 1 6 n17) 30 2 (fa 30 2)), (u2 (u2 la 30 0 (la 30 0)) 30 1 (la 30 1))), rfl, ⟨n17, (fa 30 2), (la 30 0), (la 30 1), (iv 3 3), (iv 3 4), hn17, (hI.1 3 3), (hI.1 3 4), trivial, rfl⟩, by rw [ht9]; exact hP9, hD9⟩, hS.F ht9⟩) hS.2.2 dX11_count_137
set_option maxHeartbeats 4000000 in
set_option maxRecDepth 100000 in
/-- X11_ratio -/
theorem c_X11_ratio (l : Launch) (dC : Nat → ClassId) (dI : Nat → Nat → Nat) (sz : Nat) (h : Nat) (g : Nat → Nat → Nat) (ca : Nat → Nat → ClassId) (iv : Nat → Nat → Int32) (lv : Nat → Nat → Int64) (fa : Nat → Nat → Nat → Int32) (la : Nat → Nat → Nat → Int64) (hI : IX iv fa) (a : Int32) (b : Int32) (d : Int32) : Met l yX11_ratio (wc yX11_ratio cX11_ratio 4 (some .int)) ({ frames := 3, cells := 0, slots := 0, locals := 67 } : Room) (pW (dC, dI) classes (WX h g ca iv lv fa la) (TX ca) sz [.ref h, .int a, .int b, .int d]) (va_Qi (fun r (u : SS) => ∃ (na_30_2 : Nat → Int32) (nb_30_0 : Nat → Int64) (nb_30_1 : Nat → Int64), (True) ∧ u = (iv, lv, (u2 fa 30 2 na_30_2), (u2 (u2 la 30 0 nb_30_0) 30 1 nb_30_1))) (bX (dC, dI) h g ca (va_A (WX h g ca iv lv fa la) sz)) (va_A (WX h g ca iv lv fa la) sz)) 0 0 (va_A (WX h g ca iv lv fa la) sz) := by
  refine Met.ofW (cc := cX11_ratio) (maxL := 4) (ret := (some .int)) (by decide) rfl ?_
  intro p e s m args below meth c s₁ B hml hv
  obtain ⟨rfl, hsz, hP, hK, hD0⟩ := hv
  have hx := B.exec
  have hb := B.bytes
  have hr := B.returns
  have ht := tb_tl (atoms_spec (ws := wc yX11_ratio cX11_ratio 4 (some .int)) B.pre)
  have hown : s.vm.findClass RX11 = some m.cls := findClass_of_methodNamed B.named
  have hlocks := B.notSynchronized
  subst hsz
  have hD := hD0.self (sz := s.heap.size)
  generalize hAe : va_A (WX h g ca iv lv fa la) s.heap.size = A at hD ⊢
  have hA : ∀ q : Nat, s.heap.size ≤ q → A q := fun q h => by rw [← hAe]; exact Or.inr h
  have hS : va_S A s.heap s.heap [] := va_S.rf
  have hl := lv_entry [.ref h, .int a, .int b, .int d] (n := 4) (Nat.le_of_ble_eq_true rfl)
  rw [lg_entry_eq]
  generalize (lg_sl [.ref h, .int a, .int b, .int d] ++ List.replicate (4 - (lg_sl [.ref h, .int a, .int b, .int d]).length) Slot.unset).toArray = ls at hl ⊢
  have hl : lv_has ls 4 [(0, .ref h), (1, .int a), (2, .int b), (3, .int d)] := hl
  refine lv_aload_n hx hb dX11_ratio_0 rfl (lv_at hl 0 rfl) ?_
  refine gX_11_2 hx hb ht hown hK hP m_417 dX11_ratio_1 ?_
  refine lv_iload_n hx hb dX11_ratio_4 rfl (lv_at hl 1 rfl) ?_
  refine vp_callSi (W.runV (As := [.int a]) (rest := []) ⟨hx, hb, hml, hown, ht⟩ (c_X0_has l dC dI h g ca iv lv fa la hI a) (kV 1 ht m_472 m_473 m_474 m_80 m_475 rfl rfl hd_X0_has_v ⟨Nat.le_of_ble_eq_true rfl, Nat.le_of_ble_eq_true rfl⟩) (vR hP hK (rX_0 hK hP)) rfl rfl hl.1 rfl (lv_room (Nat.le_of_ble_eq_true rfl)) dX11_ratio_5 ⟨Nat.le_of_ble_eq_true rfl, Nat.le_of_ble_eq_true rfl⟩) (fun r1 hr1 => ?_)
  rcases hr1 with ⟨rfl, fr1⟩ | ⟨rfl, fr1⟩
  · skip
    have i_0_7 : 0 ≤ (iv 0 7).toInt ∧ (iv 0 7).toInt ≤ 10 := hI.1 0 7
    have fr1 : (0 ≤ (a : Int32).toInt ∧ (a : Int32).toInt < ((iv 0 7) : Int32).toInt) := fr1
    refine lv_if_ne (tgt := 14) hx hb dX11_ratio_8 (by decide) (fun c2 => ?_) (fun c2 => ?_)
    · skip
      refine lv_iload_n hx hb dX11_ratio_14 rfl (lv_at hl 2 rfl) ?_
      refine lv_iconst (v := 0) hx hb dX11_ratio_15 (by decide) ?_
      refine lv_iconst (v := 2) hx hb dX11_ratio_16 (by decide) ?_
      refine vp_callSi (W.runS (As := [.int b, .int 0, .int 2]) (rest := []) ⟨hx, hb, hml, hown, ht⟩ (c_X11_within l dC dI b 0 2 (b.toInt) (0) (2) (rfl : (b).toInt = _) (by decide : (0 : Int32).toInt = 0) (by decide : (2 : Int32).toInt = 2)) (kS 3 ht m_453 m_454 m_77 m_455 rfl rfl hd_X11_within_v ⟨Nat.le_of_ble_eq_true rfl, Nat.le_of_ble_eq_true rfl⟩) (sR noP (hK.sub (tys' := []) [] rfl)) rfl rfl hl.1 rfl (lv_room (Nat.le_of_ble_eq_true rfl)) dX11_ratio_17 ⟨Nat.le_of_ble_eq_true rfl, Nat.le_of_ble_eq_true rfl⟩) (fun r3 hr3 => ?_)
      rcases hr3 with ⟨rfl, fr3⟩ | ⟨rfl, fr3⟩
      · skip
        refine lv_if_eq (tgt := 32) hx hb dX11_ratio_20 (by decide) (fun c4 => ?_) (fun c4 => ?_)
        · exact absurd c4 (by decide)
        · skip
          refine lv_iload_n hx hb dX11_ratio_23 rfl (lv_at hl 3 rfl) ?_
          refine lv_iconst (v := 0) hx hb dX11_ratio_24 (by decide) ?_
          refine lv_iconst (v := 2) hx hb dX11_ratio_25 (by decide) ?_
          refine vp_callSi (W.runS (As := [.int d, .int 0, .int 2]) (rest := []) ⟨hx, hb, hml, hown, ht⟩ (c_X11_within l dC dI d 0 2 (d.toInt) (0) (2) (rfl : (d).toInt = _) (by decide : (0 : Int32).toInt = 0) (by decide : (2 : Int32).toInt = 2)) (kS 3 ht m_453 m_454 m_77 m_455 rfl rfl hd_X11_within_v ⟨Nat.le_of_ble_eq_true rfl, Nat.le_of_ble_eq_true rfl⟩) (sR noP (hK.sub (tys' := []) [] rfl)) rfl rfl hl.1 rfl (lv_room (Nat.le_of_ble_eq_true rfl)) dX11_ratio_26 ⟨Nat.le_of_ble_eq_true rfl, Nat.le_of_ble_eq_true rfl⟩) (fun r5 hr5 => ?_)
          rcases hr5 with ⟨rfl, fr5⟩ | ⟨rfl, fr5⟩
          · skip
            refine lv_if_ne (tgt := 35) hx hb dX11_ratio_29 (by decide) (fun c6 => ?_) (fun c6 => ?_)
            · skip
              refine lv_aload_n hx hb dX11_ratio_35 rfl (lv_at hl 0 rfl) ?_
              refine gX_11_5 hx hb ht hown hK hP m_420 dX11_ratio_36 ?_
              refine lv_iload_n hx hb dX11_ratio_39 rfl (lv_at hl 1 rfl) ?_
              refine lv_aload_n hx hb dX11_ratio_40 rfl (lv_at hl 0 rfl) ?_
              have i_11_10 : 0 ≤ (iv 11 10).toInt ∧ (iv 11 10).toInt ≤ 3000 := hI.1 11 10
              refine gX_11_10 hx hb ht hown hK hP m_425 (v := (iv 11 10)) rfl dX11_ratio_41 ?_
              have hFc := free_all hD hS hA
              refine va_callv (va_runV (As := [.int a, .int (iv 11 10)]) (rest := []) ⟨hx, hb, hml, hown, ht⟩ (c_X3_gather l dC dI s.heap.size h g ca iv lv fa la hI a (iv 11 10)) (kV 2 ht m_564 m_565 m_566 m_83 m_567 rfl rfl hd_X3_gather_v ⟨Nat.le_of_ble_eq_true rfl, Nat.le_of_ble_eq_true rfl⟩) (vW hP hK hD (rX_3 hK hP)) rfl rfl hl.1 rfl (lv_room (Nat.le_of_ble_eq_true rfl)) dX11_ratio_44 ⟨Nat.le_of_ble_eq_true rfl, Nat.le_of_ble_eq_true rfl⟩) hS (fun q _ h => hFc q h) hFc (fun u t H1 locs ht9 hvm hr7 hB hz1 hk1 hS => ?_)
              obtain ⟨n8, n9, n10, rfl⟩ := hr7
              have hn8 : ∀ j, inb (bA 30 2 j) (n8 j) := fun j => full_i _
              obtain ⟨hP, hD⟩ := hB
              rw [ht9] at hP
              generalize H1 = H at hP hS ⊢
              have hP : va_P (dC, dI) classes (WX h g ca iv lv (u2 fa 30 2 n8) (u2 (u2 la 30 0 n9) 30 1 n10)) H := hP
              have hD : va_D A (WX h g ca iv lv (u2 fa 30 2 n8) (u2 (u2 la 30 0 n9) 30 1 n10)) := (show va_D _ (WX h g ca iv lv (u2 fa 30 2 n8) (u2 (u2 la 30 0 n9) 30 1 n10)) from hD).weaken (fun _ _ _ h => hFc _ h)
              refine lv_iload_n hx hb dX11_ratio_47 rfl (lv_at hl 3 rfl) ?_
              refine lv_iconst (v := 2) hx hb dX11_ratio_48 (by decide) ?_
              refine lv_icmp_ne (tgt := 65) hx hb dX11_ratio_49 (by decide) (fun c11 => ?_) (fun c11 => ?_)
              · have fc11 := z_ne (rfl : (d).toInt = _) (by decide : (2 : Int32).toInt = 2) c11
                refine lv_aload_n hx hb dX11_ratio_65 rfl (lv_at hl 0 rfl) ?_
                refine gX_11_5 hx hb ht hown hK hP m_420 dX11_ratio_66 ?_
                refine gX_3_2 hx hb ht hown hK hP m_282 dX11_ratio_69 ?_
                refine gX_30_2 hx hb ht hown hK hP m_270 dX11_ratio_72 ?_
                refine lv_iload_n hx hb dX11_ratio_75 rfl (lv_at hl 2 rfl) ?_
                refine lX_30_2 hx hb hK hP (f := n8) rfl (vp_in_iff.mpr ⟨by omega, by omega⟩) dX11_ratio_76 ?_
                refine lv_topi (fun v12 ev12 => ?_)
                refine lv_if_ne (tgt := 83) hx hb dX11_ratio_77 (by decide) (fun c13 => ?_) (fun c13 => ?_)
                · have fc13 := z_ne (rfl : (v12).toInt = _) (by decide : (0 : Int32).toInt = 0) c13
                  refine lv_aload_n hx hb dX11_ratio_83 rfl (lv_at hl 0 rfl) ?_
                  refine gX_11_5 hx hb ht hown hK hP m_420 dX11_ratio_84 ?_
                  refine gX_3_2 hx hb ht hown hK hP m_282 dX11_ratio_87 ?_
                  refine gX_30_1 hx hb ht hown hK hP m_266 dX11_ratio_90 ?_
                  refine lv_iload_n hx hb dX11_ratio_93 rfl (lv_at hl 2 rfl) ?_
                  refine lX_30_1 hx hb hK hP (f := n10) rfl (vp_in_iff.mpr ⟨by omega, by omega⟩) dX11_ratio_94 ?_
                  refine lv_topl (fun w14 ew14 => ?_)
                  refine lv_aload_n hx hb dX11_ratio_95 rfl (lv_at hl 0 rfl) ?_
                  refine gX_11_5 hx hb ht hown hK hP m_420 dX11_ratio_96 ?_
                  refine gX_3_2 hx hb ht hown hK hP m_282 dX11_ratio_99 ?_
                  refine gX_30_0 hx hb ht hown hK hP m_263 dX11_ratio_102 ?_
                  refine lv_iload_n hx hb dX11_ratio_105 rfl (lv_at hl 2 rfl) ?_
                  refine lX_30_0 hx hb hK hP (f := n9) rfl (vp_in_iff.mpr ⟨by omega, by omega⟩) dX11_ratio_106 ?_
                  refine lv_topl (fun w15 ew15 => ?_)
                  refine lv_iload_n hx hb dX11_ratio_107 rfl (lv_at hl 3 rfl) ?_
                  refine vp_callSl (W.runS (As := [.long w14, .long w15, .int d]) (rest := []) ⟨hx, hb, hml, hown, ht⟩ (c_X11_inLeastTerms l dC dI w14 w15 d) (kS 3 ht m_581 m_582 m_77 m_583 rfl rfl hd_X11_inLeastTerms_v ⟨Nat.le_of_ble_eq_true rfl, Nat.le_of_ble_eq_true rfl⟩) (sR noP (hK.sub (tys' := []) [] rfl)) rfl rfl hl.1 rfl (lv_room (Nat.le_of_ble_eq_true rfl)) dX11_ratio_108 ⟨Nat.le_of_ble_eq_true rfl, Nat.le_of_ble_eq_true rfl⟩) (fun r16 hr16 => ?_)
                  obtain ⟨v17, ev17⟩ : ∃ y : Int32, r16.toInt32 = y := ⟨_, rfl⟩
                  refine lv_l2i (v := v17) hx hb dX11_ratio_111 ev17 ?_
                  have hP9 : va_P (dC, dI) classes (WX h g ca iv lv (u2 fa 30 2 n8) (u2 (u2 la 30 0 n9) 30 1 n10)) H := hP
                  have hD9 : va_D A (WX h g ca iv lv (u2 fa 30 2 n8) (u2 (u2 la 30 0 n9) 30 1 n10)) := hD
                  exact W.iret (v := v17) hx hb hr (fun t ht9 hW => ⟨⟨v17, (iv, lv, (u2 fa 30 2 n8), (u2 (u2 la 30 0 n9) 30 1 n10)), rfl, ⟨n8, n9, n10, trivial, rfl⟩, by rw [ht9]; exact hP9, hD9⟩, hS.F ht9⟩) hS.2.2 dX11_ratio_112
                · have fc13 := z_eq (rfl : (v12).toInt = _) (by decide : (0 : Int32).toInt = 0) c13
                  refine lv_ldc hx hb hown (ht _ m_457) dX11_ratio_80 ?_
                  have hP9 : va_P (dC, dI) classes (WX h g ca iv lv (u2 fa 30 2 n8) (u2 (u2 la 30 0 n9) 30 1 n10)) H := hP
                  have hD9 : va_D A (WX h g ca iv lv (u2 fa 30 2 n8) (u2 (u2 la 30 0 n9) 30 1 n10)) := hD
                  exact W.iret (v := (-100003)) hx hb hr (fun t ht9 hW => ⟨⟨(-100003), (iv, lv, (u2 fa 30 2 n8), (u2 (u2 la 30 0 n9) 30 1 n10)), rfl, ⟨n8, n9, n10, trivial, rfl⟩, by rw [ht9]; exact hP9, hD9⟩, hS.F ht9⟩) hS.2.2 dX11_ratio_82
              · have fc11 := z_eq (rfl : (d).toInt = _) (by decide : (2 : Int32).toInt = 2) c11
                refine lv_aload_n hx hb dX11_ratio_52 rfl (lv_at hl 0 rfl) ?_
                refine gX_11_5 hx hb ht hown hK hP m_420 dX11_ratio_53 ?_
                refine gX_3_2 hx hb ht hown hK hP m_282 dX11_ratio_56 ?_
                refine gX_30_2 hx hb ht hown hK hP m_270 dX11_ratio_59 ?_
                refine lv_iload_n hx hb dX11_ratio_62 rfl (lv_at hl 2 rfl) ?_
                refine lX_30_2 hx hb hK hP (f := n8) rfl (vp_in_iff.mpr ⟨by omega, by omega⟩) dX11_ratio_63 ?_
                refine lv_topi (fun v18 ev18 => ?_)
                have hP9 : va_P (dC, dI) classes (WX h g ca iv lv (u2 fa 30 2 n8) (u2 (u2 la 30 0 n9) 30 1 n10)) H := hP
                have hD9 : va_D A (WX h g ca iv lv (u2 fa 30 2 n8) (u2 (u2 la 30 0 n9) 30 1 n10)) := hD
                exact W.iret (v := v18) hx hb hr (fun t ht9 hW => ⟨⟨v18, (iv, lv, (u2 fa 30 2 n8), (u2 (u2 la 30 0 n9) 30 1 n10)), rfl, ⟨n8, n9, n10, trivial, rfl⟩, by rw [ht9]; exact hP9, hD9⟩, hS.F ht9⟩) hS.2.2 dX11_ratio_64
            · exact absurd c6 (by decide)
          · skip
            refine lv_if_ne (tgt := 35) hx hb dX11_ratio_29 (by decide) (fun c19 => ?_) (fun c19 => ?_)
            · exact absurd rfl c19
            · skip
              refine lv_ldc hx hb hown (ht _ m_456) dX11_ratio_32 ?_
              have hP9 : va_P (dC, dI) classes (WX h g ca iv lv (u2 fa 30 2 (fa 30 2)) (u2 (u2 la 30 0 (la 30 0)) 30 1 (la 30 1))) s.heap := hP
              have hD9 : va_D A (WX h g ca iv lv (u2 fa 30 2 (fa 30 2)) (u2 (u2 la 30 0 (la 30 0)) 30 1 (la 30 1))) := hD
              exact W.iret (v := (-100002)) hx hb hr (fun t ht9 hW => ⟨⟨(-100002), (iv, lv, (u2 fa 30 2 (fa 30 2)), (u2 (u2 la 30 0 (la 30 0)) 30 1 (la 30 1))), rfl, ⟨(fa 30 2), (la 30 0), (la 30 1), trivial, rfl⟩, by rw [ht9]; exact hP9, hD9⟩, hS.F ht9⟩) hS.2.2 dX11_ratio_34
      · skip
        refine lv_if_eq (tgt := 32) hx hb dX11_ratio_20 (by decide) (fun c20 => ?_) (fun c20 => ?_)
        · skip
          refine lv_ldc hx hb hown (ht _ m_456) dX11_ratio_32 ?_
          have hP9 : va_P (dC, dI) classes (WX h g ca iv lv (u2 fa 30 2 (fa 30 2)) (u2 (u2 la 30 0 (la 30 0)) 30 1 (la 30 1))) s.heap := hP
          have hD9 : va_D A (WX h g ca iv lv (u2 fa 30 2 (fa 30 2)) (u2 (u2 la 30 0 (la 30 0)) 30 1 (la 30 1))) := hD
          exact W.iret (v := (-100002)) hx hb hr (fun t ht9 hW => ⟨⟨(-100002), (iv, lv, (u2 fa 30 2 (fa 30 2)), (u2 (u2 la 30 0 (la 30 0)) 30 1 (la 30 1))), rfl, ⟨(fa 30 2), (la 30 0), (la 30 1), trivial, rfl⟩, by rw [ht9]; exact hP9, hD9⟩, hS.F ht9⟩) hS.2.2 dX11_ratio_34
        · exact absurd rfl c20
    · exact absurd c2 (by decide)
  · skip
    have i_0_7 : 0 ≤ (iv 0 7).toInt ∧ (iv 0 7).toInt ≤ 10 := hI.1 0 7
    have fr1 : ¬ (0 ≤ (a : Int32).toInt ∧ (a : Int32).toInt < ((iv 0 7) : Int32).toInt) := fr1
    refine lv_if_ne (tgt := 14) hx hb dX11_ratio_8 (by decide) (fun c21 => ?_) (fun c21 => ?_)
    · exact absurd rfl c21
    · skip
      refine lv_ldc hx hb hown (ht _ m_476) dX11_ratio_11 ?_
      have hP9 : va_P (dC, dI) classes (WX h g ca iv lv (u2 fa 30 2 (fa 30 2)) (u2 (u2 la 30 0 (la 30 0)) 30 1 (la 30 1))) s.heap := hP
      have hD9 : va_D A (WX h g ca iv lv (u2 fa 30 2 (fa 30 2)) (u2 (u2 la 30 0 (la 30 0)) 30 1 (la 30 1))) := hD
      exact W.iret (v := (-100001)) hx hb hr (fun t ht9 hW => ⟨⟨(-100001), (iv, lv, (u2 fa 30 2 (fa 30 2)), (u2 (u2 la 30 0 (la 30 0)) 30 1 (la 30 1))), rfl, ⟨(fa 30 2), (la 30 0), (la 30 1), trivial, rfl⟩, by rw [ht9]; exact hP9, hD9⟩, hS.F ht9⟩) hS.2.2 dX11_ratio_13
set_option maxHeartbeats 4000000 in
set_option maxRecDepth 100000 in
/-- X11_size -/
theorem c_X11_size (l : Launch) (dC : Nat → ClassId) (dI : Nat → Nat → Nat) (sz : Nat) (h : Nat) (g : Nat → Nat → Nat) (ca : Nat → Nat → ClassId) (iv : Nat → Nat → Int32) (lv : Nat → Nat → Int64) (fa : Nat → Nat → Nat → Int32) (la : Nat → Nat → Nat → Int64) (hI : IX iv fa) (a : Int32) (b : Int32) : Met l yX11_size (wc yX11_size cX11_size 7 (some .int)) ({ frames := 2, cells := 0, slots := 0, locals := 54 } : Room) (pW (dC, dI) classes (WX h g ca iv lv fa la) (TX ca) sz [.ref h, .int a, .int b]) (va_Qi (fun r (u : SS) => (True) ∧ u = (iv, lv, fa, la)) (bX (dC, dI) h g ca (va_A (WX h g ca iv lv fa la) sz)) (va_A (WX h g ca iv lv fa la) sz)) 0 0 (va_A (WX h g ca iv lv fa la) sz) := by
  refine Met.ofW (cc := cX11_size) (maxL := 7) (ret := (some .int)) (by decide) rfl ?_
  intro p e s m args below meth c s₁ B hml hv
  obtain ⟨rfl, hsz, hP, hK, hD0⟩ := hv
  have hx := B.exec
  have hb := B.bytes
  have hr := B.returns
  have ht := tb_tl (atoms_spec (ws := wc yX11_size cX11_size 7 (some .int)) B.pre)
  have hown : s.vm.findClass RX11 = some m.cls := findClass_of_methodNamed B.named
  have hlocks := B.notSynchronized
  subst hsz
  have hD := hD0.self (sz := s.heap.size)
  generalize hAe : va_A (WX h g ca iv lv fa la) s.heap.size = A at hD ⊢
  have hA : ∀ q : Nat, s.heap.size ≤ q → A q := fun q h => by rw [← hAe]; exact Or.inr h
  have hS : va_S A s.heap s.heap [] := va_S.rf
  have hl := lv_entry [.ref h, .int a, .int b] (n := 7) (Nat.le_of_ble_eq_true rfl)
  rw [lg_entry_eq]
  generalize (lg_sl [.ref h, .int a, .int b] ++ List.replicate (7 - (lg_sl [.ref h, .int a, .int b]).length) Slot.unset).toArray = ls at hl ⊢
  have hl : lv_has ls 7 [(0, .ref h), (1, .int a), (2, .int b)] := hl
  refine lv_aload_n hx hb dX11_size_0 rfl (lv_at hl 0 rfl) ?_
  refine gX_11_2 hx hb ht hown hK hP m_417 dX11_size_1 ?_
  refine lv_iload_n hx hb dX11_size_4 rfl (lv_at hl 1 rfl) ?_
  refine vp_callSi (W.runV (As := [.int a]) (rest := []) ⟨hx, hb, hml, hown, ht⟩ (c_X0_has l dC dI h g ca iv lv fa la hI a) (kV 1 ht m_472 m_473 m_474 m_80 m_475 rfl rfl hd_X0_has_v ⟨Nat.le_of_ble_eq_true rfl, Nat.le_of_ble_eq_true rfl⟩) (vR hP hK (rX_0 hK hP)) rfl rfl hl.1 rfl (lv_room (Nat.le_of_ble_eq_true rfl)) dX11_size_5 ⟨Nat.le_of_ble_eq_true rfl, Nat.le_of_ble_eq_true rfl⟩) (fun r1 hr1 => ?_)
  rcases hr1 with ⟨rfl, fr1⟩ | ⟨rfl, fr1⟩
  · skip
    have i_0_7 : 0 ≤ (iv 0 7).toInt ∧ (iv 0 7).toInt ≤ 10 := hI.1 0 7
    have fr1 : (0 ≤ (a : Int32).toInt ∧ (a : Int32).toInt < ((iv 0 7) : Int32).toInt) := fr1
    refine lv_if_ne (tgt := 14) hx hb dX11_size_8 (by decide) (fun c2 => ?_) (fun c2 => ?_)
    · skip
      refine lv_iload_n hx hb dX11_size_14 rfl (lv_at hl 2 rfl) ?_
      refine lv_iconst (v := 0) hx hb dX11_size_15 (by decide) ?_
      refine lv_iconst (v := 3) hx hb dX11_size_16 (by decide) ?_
      refine vp_callSi (W.runS (As := [.int b, .int 0, .int 3]) (rest := []) ⟨hx, hb, hml, hown, ht⟩ (c_X11_within l dC dI b 0 3 (b.toInt) (0) (3) (rfl : (b).toInt = _) (by decide : (0 : Int32).toInt = 0) (by decide : (3 : Int32).toInt = 3)) (kS 3 ht m_453 m_454 m_77 m_455 rfl rfl hd_X11_within_v ⟨Nat.le_of_ble_eq_true rfl, Nat.le_of_ble_eq_true rfl⟩) (sR noP (hK.sub (tys' := []) [] rfl)) rfl rfl hl.1 rfl (lv_room (Nat.le_of_ble_eq_true rfl)) dX11_size_17 ⟨Nat.le_of_ble_eq_true rfl, Nat.le_of_ble_eq_true rfl⟩) (fun r3 hr3 => ?_)
      rcases hr3 with ⟨rfl, fr3⟩ | ⟨rfl, fr3⟩
      · skip
        refine lv_if_ne (tgt := 26) hx hb dX11_size_20 (by decide) (fun c4 => ?_) (fun c4 => ?_)
        · skip
          refine lv_aload_n hx hb dX11_size_26 rfl (lv_at hl 0 rfl) ?_
          refine gX_11_2 hx hb ht hown hK hP m_417 dX11_size_27 ?_
          refine gX_0_1 hx hb ht hown hK hP m_155 dX11_size_30 ?_
          refine lv_iload_n hx hb dX11_size_33 rfl (lv_at hl 1 rfl) ?_
          refine lX_0_1 hx hb hK hP (f := (fa 0 1)) rfl (vp_in_iff.mpr ⟨by omega, by omega⟩) dX11_size_34 ?_
          refine lv_topi (fun v5 ev5 => ?_)
          have tv5 : 0 ≤ v5.toInt ∧ v5.toInt ≤ 12 := by rw [ev5]; exact hI.2 0 1 _
          refine lv_if_ne (tgt := 40) hx hb dX11_size_35 (by decide) (fun c6 => ?_) (fun c6 => ?_)
          · have fc6 := z_ne (rfl : (v5).toInt = _) (by decide : (0 : Int32).toInt = 0) c6
            refine lv_aload_n hx hb dX11_size_40 rfl (lv_at hl 0 rfl) ?_
            refine gX_11_2 hx hb ht hown hK hP m_417 dX11_size_41 ?_
            refine gX_0_1 hx hb ht hown hK hP m_155 dX11_size_44 ?_
            refine lv_iload_n hx hb dX11_size_47 rfl (lv_at hl 1 rfl) ?_
            refine lX_0_1 hx hb hK hP (f := (fa 0 1)) rfl (vp_in_iff.mpr ⟨by omega, by omega⟩) dX11_size_48 ?_
            refine lv_topi (fun v7 ev7 => ?_)
            obtain rfl : v5 = v7 := ev5.trans ev7.symm
            refine lv_i2l (v := (v5.toInt64)) hx hb dX11_size_49 rfl ?_
            refine lv_lstore_n (lv' := [(3, .long (v5.toInt64)), (0, .ref h), (1, .int a), (2, .int b)]) hx hb dX11_size_50 rfl hl (by decide) rfl (fun ls hl => ?_)
            refine lv_aload_n hx hb dX11_size_51 rfl (lv_at hl 1 rfl) ?_
            refine gX_11_2 hx hb ht hown hK hP m_417 dX11_size_52 ?_
            refine lv_iload_n hx hb dX11_size_55 rfl (lv_at hl 2 rfl) ?_
            refine vp_callSi (W.runV (As := [.int a]) (rest := []) ⟨hx, hb, hml, hown, ht⟩ (c_X0_allSizes l dC dI h g ca iv lv fa la hI a ⟨by omega, by omega⟩) (kV 1 ht m_953 m_954 m_955 m_80 m_956 rfl rfl hd_X0_allSizes_v ⟨Nat.le_of_ble_eq_true rfl, Nat.le_of_ble_eq_true rfl⟩) (vR hP hK (rX_0 hK hP)) rfl rfl hl.1 rfl (lv_room (Nat.le_of_ble_eq_true rfl)) dX11_size_56 ⟨Nat.le_of_ble_eq_true rfl, Nat.le_of_ble_eq_true rfl⟩) (fun r8 hr8 => ?_)
            refine lv_i2l (v := (r8.toInt64)) hx hb dX11_size_59 rfl ?_
            refine lv_lstore (lv' := [(5, .long (r8.toInt64)), (3, .long (v5.toInt64)), (0, .ref h), (1, .int a), (2, .int b)]) hx hb dX11_size_60 hl (by decide) rfl (fun ls hl => ?_)
            refine lv_iload_n hx hb dX11_size_62 rfl (lv_at hl 4 rfl) ?_
            refine lv_iconst (v := 2) hx hb dX11_size_63 (by decide) ?_
            refine lv_icmp_ge (tgt := 76) hx hb dX11_size_64 (by decide) (fun c9 => ?_) (fun c9 => ?_)
            · have fc9 := z_le (by decide : (2 : Int32).toInt = 2) (rfl : (b).toInt = _) c9
              refine lv_lload_n hx hb dX11_size_76 rfl (lv_at hl 1 rfl) ?_
              refine lv_aload_n hx hb dX11_size_77 rfl (lv_at hl 2 rfl) ?_
              refine gX_11_2 hx hb ht hown hK hP m_417 dX11_size_78 ?_
              refine lv_iload_n hx hb dX11_size_81 rfl (lv_at hl 3 rfl) ?_
              refine vp_callSl (W.runV (As := [.int a]) (rest := [.long (v5.toInt64)]) ⟨hx, hb, hml, hown, ht⟩ (c_X0_allSquares l dC dI h g ca iv lv fa la hI a ⟨by omega, by omega⟩) (kV 1 ht m_957 m_958 m_959 m_80 m_960 rfl rfl hd_X0_allSquares_v ⟨Nat.le_of_ble_eq_true rfl, Nat.le_of_ble_eq_true rfl⟩) (vR hP hK (rX_0 hK hP)) rfl rfl hl.1 rfl (lv_room (Nat.le_of_ble_eq_true rfl)) dX11_size_82 ⟨Nat.le_of_ble_eq_true rfl, Nat.le_of_ble_eq_true rfl⟩) (fun r10 hr10 => ?_)
              refine lv_lmul hx hb dX11_size_85 ?_
              refine lv_topl (fun w11 ew11 => ?_)
              refine lv_lload hx hb dX11_size_86 (lv_at hl 0 rfl) ?_
              refine lv_lload hx hb dX11_size_88 (lv_at hl 0 rfl) ?_
              refine lv_lmul hx hb dX11_size_90 ?_
              refine lv_topl (fun w12 ew12 => ?_)
              refine lv_lsub hx hb dX11_size_91 ?_
              refine lv_topl (fun w13 ew13 => ?_)
              refine lv_lload_n hx hb dX11_size_92 rfl (lv_at hl 1 rfl) ?_
              refine lv_lload_n hx hb dX11_size_93 rfl (lv_at hl 1 rfl) ?_
              refine lv_lmul hx hb dX11_size_94 ?_
              refine lv_topl (fun w14 ew14 => ?_)
              refine lv_iload_n hx hb dX11_size_95 rfl (lv_at hl 4 rfl) ?_
              refine lv_iconst (v := 2) hx hb dX11_size_96 (by decide) ?_
              refine lv_irem hx hb dX11_size_97 (by decide) ?_
              refine lv_topi (fun v15 ev15 => ?_)
              have tv15 := z_remp ev15 (rfl : (b).toInt = _) (by decide : (2 : Int32).toInt = 2) (by omega) (by omega)
              refine vp_callSl (W.runS (As := [.long w13, .long w14, .int v15]) (rest := []) ⟨hx, hb, hml, hown, ht⟩ (c_X11_inLeastTerms l dC dI w13 w14 v15) (kS 3 ht m_581 m_582 m_77 m_583 rfl rfl hd_X11_inLeastTerms_v ⟨Nat.le_of_ble_eq_true rfl, Nat.le_of_ble_eq_true rfl⟩) (sR noP (hK.sub (tys' := []) [] rfl)) rfl rfl hl.1 rfl (lv_room (Nat.le_of_ble_eq_true rfl)) dX11_size_98 ⟨Nat.le_of_ble_eq_true rfl, Nat.le_of_ble_eq_true rfl⟩) (fun r16 hr16 => ?_)
              obtain ⟨v17, ev17⟩ : ∃ y : Int32, r16.toInt32 = y := ⟨_, rfl⟩
              refine lv_l2i (v := v17) hx hb dX11_size_101 ev17 ?_
              have hP9 : va_P (dC, dI) classes (WX h g ca iv lv fa la) s.heap := hP
              have hD9 : va_D A (WX h g ca iv lv fa la) := hD
              exact W.iret (v := v17) hx hb hr (fun t ht9 hW => ⟨⟨v17, (iv, lv, fa, la), rfl, ⟨trivial, rfl⟩, by rw [ht9]; exact hP9, hD9⟩, hS.F ht9⟩) hS.2.2 dX11_size_102
            · have fc9 := z_nle (by decide : (2 : Int32).toInt = 2) (rfl : (b).toInt = _) c9
              refine lv_lload hx hb dX11_size_67 (lv_at hl 0 rfl) ?_
              refine lv_lload_n hx hb dX11_size_69 rfl (lv_at hl 1 rfl) ?_
              refine lv_iload_n hx hb dX11_size_70 rfl (lv_at hl 4 rfl) ?_
              refine vp_callSl (W.runS (As := [.long (r8.toInt64), .long (v5.toInt64), .int b]) (rest := []) ⟨hx, hb, hml, hown, ht⟩ (c_X11_inLeastTerms l dC dI (r8.toInt64) (v5.toInt64) b) (kS 3 ht m_581 m_582 m_77 m_583 rfl rfl hd_X11_inLeastTerms_v ⟨Nat.le_of_ble_eq_true rfl, Nat.le_of_ble_eq_true rfl⟩) (sR noP (hK.sub (tys' := []) [] rfl)) rfl rfl hl.1 rfl (lv_room (Nat.le_of_ble_eq_true rfl)) dX11_size_71 ⟨Nat.le_of_ble_eq_true rfl, Nat.le_of_ble_eq_true rfl⟩) (fun r18 hr18 => ?_)
              obtain ⟨v19, ev19⟩ : ∃ y : Int32, r18.toInt32 = y := ⟨_, rfl⟩
              refine lv_l2i (v := v19) hx hb dX11_size_74 ev19 ?_
              have hP9 : va_P (dC, dI) classes (WX h g ca iv lv fa la) s.heap := hP
              have hD9 : va_D A (WX h g ca iv lv fa la) := hD
              exact W.iret (v := v19) hx hb hr (fun t ht9 hW => ⟨⟨v19, (iv, lv, fa, la), rfl, ⟨trivial, rfl⟩, by rw [ht9]; exact hP9, hD9⟩, hS.F ht9⟩) hS.2.2 dX11_size_75
          · have fc6 := z_eq (rfl : (v5).toInt = _) (by decide : (0 : Int32).toInt = 0) c6
            refine lv_iconst (v := (-1)) hx hb dX11_size_38 (by decide) ?_
            have hP9 : va_P (dC, dI) classes (WX h g ca iv lv fa la) s.heap := hP
            have hD9 : va_D A (WX h g ca iv lv fa la) := hD
            exact W.iret (v := (-1)) hx hb hr (fun t ht9 hW => ⟨⟨(-1), (iv, lv, fa, la), rfl, ⟨trivial, rfl⟩, by rw [ht9]; exact hP9, hD9⟩, hS.F ht9⟩) hS.2.2 dX11_size_39
        · exact absurd c4 (by decide)
      · skip
        refine lv_if_ne (tgt := 26) hx hb dX11_size_20 (by decide) (fun c20 => ?_) (fun c20 => ?_)
        · exact absurd rfl c20
        · skip
          refine lv_ldc hx hb hown (ht _ m_456) dX11_size_23 ?_
          have hP9 : va_P (dC, dI) classes (WX h g ca iv lv fa la) s.heap := hP
          have hD9 : va_D A (WX h g ca iv lv fa la) := hD
          exact W.iret (v := (-100002)) hx hb hr (fun t ht9 hW => ⟨⟨(-100002), (iv, lv, fa, la), rfl, ⟨trivial, rfl⟩, by rw [ht9]; exact hP9, hD9⟩, hS.F ht9⟩) hS.2.2 dX11_size_25
    · exact absurd c2 (by decide)
  · skip
    have i_0_7 : 0 ≤ (iv 0 7).toInt ∧ (iv 0 7).toInt ≤ 10 := hI.1 0 7
    have fr1 : ¬ (0 ≤ (a : Int32).toInt ∧ (a : Int32).toInt < ((iv 0 7) : Int32).toInt) := fr1
    refine lv_if_ne (tgt := 14) hx hb dX11_size_8 (by decide) (fun c21 => ?_) (fun c21 => ?_)
    · exact absurd rfl c21
    · skip
      refine lv_ldc hx hb hown (ht _ m_476) dX11_size_11 ?_
      have hP9 : va_P (dC, dI) classes (WX h g ca iv lv fa la) s.heap := hP
      have hD9 : va_D A (WX h g ca iv lv fa la) := hD
      exact W.iret (v := (-100001)) hx hb hr (fun t ht9 hW => ⟨⟨(-100001), (iv, lv, fa, la), rfl, ⟨trivial, rfl⟩, by rw [ht9]; exact hP9, hD9⟩, hS.F ht9⟩) hS.2.2 dX11_size_13
set_option maxHeartbeats 4000000 in
set_option maxRecDepth 100000 in
/-- X11_cheat -/
theorem c_X11_cheat (l : Launch) (dC : Nat → ClassId) (dI : Nat → Nat → Nat) (sz : Nat) (h : Nat) (g : Nat → Nat → Nat) (ca : Nat → Nat → ClassId) (iv : Nat → Nat → Int32) (lv : Nat → Nat → Int64) (fa : Nat → Nat → Nat → Int32) (la : Nat → Nat → Nat → Int64) (hI : IX iv fa) (a : Int32) (b : Int32) (d : Int32) (k : Int32) : Met l yX11_cheat (wc yX11_cheat cX11_cheat 6 (some .int)) ({ frames := 4, cells := 0, slots := 0, locals := 90 } : Room) (pW (dC, dI) classes (WX h g ca iv lv fa la) (TX ca) sz [.ref h, .int a, .int b, .int d, .int k]) (va_Qi (fun r (u : SS) => ∃ (na_30_2 : Nat → Int32) (nb_30_0 : Nat → Int64) (nb_30_1 : Nat → Int64), ((-100002) ≤ r.toInt ∧ r.toInt ≤ 7) ∧ u = (iv, lv, (u2 fa 30 2 na_30_2), (u2 (u2 la 30 0 nb_30_0) 30 1 nb_30_1))) (bX (dC, dI) h g ca (va_A (WX h g ca iv lv fa la) sz)) (va_A (WX h g ca iv lv fa la) sz)) 0 0 (va_A (WX h g ca iv lv fa la) sz) := by
  refine Met.ofW (cc := cX11_cheat) (maxL := 6) (ret := (some .int)) (by decide) rfl ?_
  intro p e s m args below meth c s₁ B hml hv
  obtain ⟨rfl, hsz, hP, hK, hD0⟩ := hv
  have hx := B.exec
  have hb := B.bytes
  have hr := B.returns
  have ht := tb_tl (atoms_spec (ws := wc yX11_cheat cX11_cheat 6 (some .int)) B.pre)
  have hown : s.vm.findClass RX11 = some m.cls := findClass_of_methodNamed B.named
  have hlocks := B.notSynchronized
  subst hsz
  have hD := hD0.self (sz := s.heap.size)
  generalize hAe : va_A (WX h g ca iv lv fa la) s.heap.size = A at hD ⊢
  have hA : ∀ q : Nat, s.heap.size ≤ q → A q := fun q h => by rw [← hAe]; exact Or.inr h
  have hS : va_S A s.heap s.heap [] := va_S.rf
  have hl := lv_entry [.ref h, .int a, .int b, .int d, .int k] (n := 6) (Nat.le_of_ble_eq_true rfl)
  rw [lg_entry_eq]
  generalize (lg_sl [.ref h, .int a, .int b, .int d, .int k] ++ List.replicate (6 - (lg_sl [.ref h, .int a, .int b, .int d, .int k]).length) Slot.unset).toArray = ls at hl ⊢
  have hl : lv_has ls 6 [(0, .ref h), (1, .int a), (2, .int b), (3, .int d), (4, .int k)] := hl
  refine lv_aload_n hx hb dX11_cheat_0 rfl (lv_at hl 0 rfl) ?_
  refine gX_11_2 hx hb ht hown hK hP m_417 dX11_cheat_1 ?_
  refine lv_iload_n hx hb dX11_cheat_4 rfl (lv_at hl 1 rfl) ?_
  refine vp_callSi (W.runV (As := [.int a]) (rest := []) ⟨hx, hb, hml, hown, ht⟩ (c_X0_has l dC dI h g ca iv lv fa la hI a) (kV 1 ht m_472 m_473 m_474 m_80 m_475 rfl rfl hd_X0_has_v ⟨Nat.le_of_ble_eq_true rfl, Nat.le_of_ble_eq_true rfl⟩) (vR hP hK (rX_0 hK hP)) rfl rfl hl.1 rfl (lv_room (Nat.le_of_ble_eq_true rfl)) dX11_cheat_5 ⟨Nat.le_of_ble_eq_true rfl, Nat.le_of_ble_eq_true rfl⟩) (fun r1 hr1 => ?_)
  rcases hr1 with ⟨rfl, fr1⟩ | ⟨rfl, fr1⟩
  · skip
    have i_0_7 : 0 ≤ (iv 0 7).toInt ∧ (iv 0 7).toInt ≤ 10 := hI.1 0 7
    have fr1 : (0 ≤ (a : Int32).toInt ∧ (a : Int32).toInt < ((iv 0 7) : Int32).toInt) := fr1
    refine lv_if_ne (tgt := 14) hx hb dX11_cheat_8 (by decide) (fun c2 => ?_) (fun c2 => ?_)
    · skip
      refine lv_iload_n hx hb dX11_cheat_14 rfl (lv_at hl 2 rfl) ?_
      refine lv_iconst (v := 0) hx hb dX11_cheat_15 (by decide) ?_
      refine lv_sipush (v := 999) hx hb dX11_cheat_16 (by decide) ?_
      refine vp_callSi (W.runS (As := [.int b, .int 0, .int 999]) (rest := []) ⟨hx, hb, hml, hown, ht⟩ (c_X11_within l dC dI b 0 999 (b.toInt) (0) (999) (rfl : (b).toInt = _) (by decide : (0 : Int32).toInt = 0) (by decide : (999 : Int32).toInt = 999)) (kS 3 ht m_453 m_454 m_77 m_455 rfl rfl hd_X11_within_v ⟨Nat.le_of_ble_eq_true rfl, Nat.le_of_ble_eq_true rfl⟩) (sR noP (hK.sub (tys' := []) [] rfl)) rfl rfl hl.1 rfl (lv_room (Nat.le_of_ble_eq_true rfl)) dX11_cheat_19 ⟨Nat.le_of_ble_eq_true rfl, Nat.le_of_ble_eq_true rfl⟩) (fun r3 hr3 => ?_)
      rcases hr3 with ⟨rfl, fr3⟩ | ⟨rfl, fr3⟩
      · skip
        refine lv_if_eq (tgt := 48) hx hb dX11_cheat_22 (by decide) (fun c4 => ?_) (fun c4 => ?_)
        · exact absurd c4 (by decide)
        · skip
          refine lv_iload_n hx hb dX11_cheat_25 rfl (lv_at hl 3 rfl) ?_
          refine lv_iconst (v := 0) hx hb dX11_cheat_26 (by decide) ?_
          refine lv_sipush (v := 999) hx hb dX11_cheat_27 (by decide) ?_
          refine vp_callSi (W.runS (As := [.int d, .int 0, .int 999]) (rest := []) ⟨hx, hb, hml, hown, ht⟩ (c_X11_within l dC dI d 0 999 (d.toInt) (0) (999) (rfl : (d).toInt = _) (by decide : (0 : Int32).toInt = 0) (by decide : (999 : Int32).toInt = 999)) (kS 3 ht m_453 m_454 m_77 m_455 rfl rfl hd_X11_within_v ⟨Nat.le_of_ble_eq_true rfl, Nat.le_of_ble_eq_true rfl⟩) (sR noP (hK.sub (tys' := []) [] rfl)) rfl rfl hl.1 rfl (lv_room (Nat.le_of_ble_eq_true rfl)) dX11_cheat_30 ⟨Nat.le_of_ble_eq_true rfl, Nat.le_of_ble_eq_true rfl⟩) (fun r5 hr5 => ?_)
          rcases hr5 with ⟨rfl, fr5⟩ | ⟨rfl, fr5⟩
          · skip
            refine lv_if_eq (tgt := 48) hx hb dX11_cheat_33 (by decide) (fun c6 => ?_) (fun c6 => ?_)
            · exact absurd c6 (by decide)
            · skip
              refine lv_iload hx hb dX11_cheat_36 (lv_at hl 4 rfl) ?_
              refine lv_iconst (v := 0) hx hb dX11_cheat_38 (by decide) ?_
              refine lv_sipush (v := 999) hx hb dX11_cheat_39 (by decide) ?_
              refine vp_callSi (W.runS (As := [.int k, .int 0, .int 999]) (rest := []) ⟨hx, hb, hml, hown, ht⟩ (c_X11_within l dC dI k 0 999 (k.toInt) (0) (999) (rfl : (k).toInt = _) (by decide : (0 : Int32).toInt = 0) (by decide : (999 : Int32).toInt = 999)) (kS 3 ht m_453 m_454 m_77 m_455 rfl rfl hd_X11_within_v ⟨Nat.le_of_ble_eq_true rfl, Nat.le_of_ble_eq_true rfl⟩) (sR noP (hK.sub (tys' := []) [] rfl)) rfl rfl hl.1 rfl (lv_room (Nat.le_of_ble_eq_true rfl)) dX11_cheat_42 ⟨Nat.le_of_ble_eq_true rfl, Nat.le_of_ble_eq_true rfl⟩) (fun r7 hr7 => ?_)
              rcases hr7 with ⟨rfl, fr7⟩ | ⟨rfl, fr7⟩
              · skip
                refine lv_if_ne (tgt := 51) hx hb dX11_cheat_45 (by decide) (fun c8 => ?_) (fun c8 => ?_)
                · skip
                  refine lv_aload_n hx hb dX11_cheat_51 rfl (lv_at hl 0 rfl) ?_
                  refine gX_11_2 hx hb ht hown hK hP m_417 dX11_cheat_52 ?_
                  refine gX_0_3 hx hb ht hown hK hP m_159 dX11_cheat_55 ?_
                  refine lv_iload_n hx hb dX11_cheat_58 rfl (lv_at hl 1 rfl) ?_
                  refine lX_0_3 hx hb hK hP (f := (fa 0 3)) rfl (vp_in_iff.mpr ⟨by omega, by omega⟩) dX11_cheat_59 ?_
                  refine lv_topi (fun v9 ev9 => ?_)
                  refine lv_iload_n hx hb dX11_cheat_60 rfl (lv_at hl 2 rfl) ?_
                  refine lv_icmp_le (tgt := 68) hx hb dX11_cheat_61 (by decide) (fun c10 => ?_) (fun c10 => ?_)
                  · have fc10 := z_le (rfl : (v9).toInt = _) (rfl : (b).toInt = _) c10
                    refine lv_iconst (v := 0) hx hb dX11_cheat_68 (by decide) ?_
                    refine lv_istore (lv' := [(5, .int 0), (0, .ref h), (1, .int a), (2, .int b), (3, .int d), (4, .int k)]) hx hb dX11_cheat_69 hl (by decide) rfl (fun ls hl => ?_)
                    refine lv_aload_n hx hb dX11_cheat_71 rfl (lv_at hl 1 rfl) ?_
                    refine gX_11_2 hx hb ht hown hK hP m_417 dX11_cheat_72 ?_
                    refine gX_0_4 hx hb ht hown hK hP m_161 dX11_cheat_75 ?_
                    refine lv_iload_n hx hb dX11_cheat_78 rfl (lv_at hl 2 rfl) ?_
                    refine lX_0_4 hx hb hK hP (f := (fa 0 4)) rfl (vp_in_iff.mpr ⟨by omega, by omega⟩) dX11_cheat_79 ?_
                    refine lv_topi (fun v11 ev11 => ?_)
                    refine lv_iload_n hx hb dX11_cheat_80 rfl (lv_at hl 4 rfl) ?_
                    refine lv_icmp_le (tgt := 87) hx hb dX11_cheat_81 (by decide) (fun c12 => ?_) (fun c12 => ?_)
                    · have fc12 := z_le (rfl : (v11).toInt = _) (rfl : (d).toInt = _) c12
                      refine lv_aload_n hx hb dX11_cheat_87 rfl (lv_at hl 1 rfl) ?_
                      refine gX_11_2 hx hb ht hown hK hP m_417 dX11_cheat_88 ?_
                      refine gX_0_3 hx hb ht hown hK hP m_159 dX11_cheat_91 ?_
                      refine lv_iload_n hx hb dX11_cheat_94 rfl (lv_at hl 2 rfl) ?_
                      refine lX_0_3 hx hb hK hP (f := (fa 0 3)) rfl (vp_in_iff.mpr ⟨by omega, by omega⟩) dX11_cheat_95 ?_
                      refine lv_topi (fun v13 ev13 => ?_)
                      obtain rfl : v9 = v13 := ev9.trans ev13.symm
                      refine lv_aload_n hx hb dX11_cheat_96 rfl (lv_at hl 1 rfl) ?_
                      refine gX_11_2 hx hb ht hown hK hP m_417 dX11_cheat_97 ?_
                      refine gX_0_4 hx hb ht hown hK hP m_161 dX11_cheat_100 ?_
                      refine lv_iload_n hx hb dX11_cheat_103 rfl (lv_at hl 2 rfl) ?_
                      refine lX_0_4 hx hb hK hP (f := (fa 0 4)) rfl (vp_in_iff.mpr ⟨by omega, by omega⟩) dX11_cheat_104 ?_
                      refine lv_topi (fun v14 ev14 => ?_)
                      obtain rfl : v11 = v14 := ev11.trans ev14.symm
                      refine lv_iadd hx hb dX11_cheat_105 ?_
                      refine lv_topi (fun v15 ev15 => ?_)
                      refine lv_aload_n hx hb dX11_cheat_106 rfl (lv_at hl 1 rfl) ?_
                      refine lv_iload_n hx hb dX11_cheat_107 rfl (lv_at hl 2 rfl) ?_
                      have hFc := free_all hD hS hA
                      refine va_calli (va_runV (As := [.int a]) (rest := [.int v15]) ⟨hx, hb, hml, hown, ht⟩ (c_X11_loss l dC dI s.heap.size h g ca iv lv fa la hI a) (kV 1 ht m_997 m_999 m_40 m_77 m_1000 rfl rfl hd_X11_loss_v ⟨Nat.le_of_ble_eq_true rfl, Nat.le_of_ble_eq_true rfl⟩) (vW hP hK hD (rX_11 hK hP)) rfl rfl hl.1 rfl (lv_room (Nat.le_of_ble_eq_true rfl)) dX11_cheat_108 ⟨Nat.le_of_ble_eq_true rfl, Nat.le_of_ble_eq_true rfl⟩) hS (fun q _ h => hFc q h) hFc (fun r16 u t H1 locs ht9 hvm hr16 hB hz1 hk1 hS => ?_)
                      obtain ⟨n17, n18, n19, hr16, rfl⟩ := hr16
                      have hn17 : ∀ j, inb (bA 30 2 j) (n17 j) := fun j => full_i _
                      obtain ⟨hP, hD⟩ := hB
                      rw [ht9] at hP
                      generalize H1 = H at hP hS ⊢
                      have hP : va_P (dC, dI) classes (WX h g ca iv lv (u2 fa 30 2 n17) (u2 (u2 la 30 0 n18) 30 1 n19)) H := hP
                      have hD : va_D A (WX h g ca iv lv (u2 fa 30 2 n17) (u2 (u2 la 30 0 n18) 30 1 n19)) := (show va_D _ (WX h g ca iv lv (u2 fa 30 2 n17) (u2 (u2 la 30 0 n18) 30 1 n19)) from hD).weaken (fun _ _ _ h => hFc _ h)
                      refine lv_iadd hx hb dX11_cheat_111 ?_
                      refine lv_topi (fun v20 ev20 => ?_)
                      refine lv_iload hx hb dX11_cheat_112 (lv_at hl 5 rfl) ?_
                      refine lv_icmp_le (tgt := 120) hx hb dX11_cheat_114 (by decide) (fun c21 => ?_) (fun c21 => ?_)
                      · have fc21 := z_le (rfl : (v20).toInt = _) (rfl : (k).toInt = _) c21
                        refine lv_iload hx hb dX11_cheat_120 (lv_at hl 0 rfl) ?_
                        have hP9 : va_P (dC, dI) classes (WX h g ca iv lv (u2 fa 30 2 n17) (u2 (u2 la 30 0 n18) 30 1 n19)) H := hP
                        have hD9 : va_D A (WX h g ca iv lv (u2 fa 30 2 n17) (u2 (u2 la 30 0 n18) 30 1 n19)) := hD
                        exact W.iret (v := 0) hx hb hr (fun t ht9 hW => ⟨⟨0, (iv, lv, (u2 fa 30 2 n17), (u2 (u2 la 30 0 n18) 30 1 n19)), rfl, ⟨n17, n18, n19, ⟨by decide, by decide⟩, rfl⟩, by rw [ht9]; exact hP9, hD9⟩, hS.F ht9⟩) hS.2.2 dX11_cheat_122
                      · have fc21 := z_nle (rfl : (v20).toInt = _) (rfl : (k).toInt = _) c21
                        refine lv_iinc (v := 4) (lv' := [(5, .int 4), (0, .ref h), (1, .int a), (2, .int b), (3, .int d), (4, .int k)]) hx hb dX11_cheat_117 hl (k := 0) rfl (by decide) (by decide) rfl (fun ls hl => ?_)
                        refine lv_iload hx hb dX11_cheat_120 (lv_at hl 0 rfl) ?_
                        have hP9 : va_P (dC, dI) classes (WX h g ca iv lv (u2 fa 30 2 n17) (u2 (u2 la 30 0 n18) 30 1 n19)) H := hP
                        have hD9 : va_D A (WX h g ca iv lv (u2 fa 30 2 n17) (u2 (u2 la 30 0 n18) 30 1 n19)) := hD
                        exact W.iret (v := 4) hx hb hr (fun t ht9 hW => ⟨⟨4, (iv, lv, (u2 fa 30 2 n17), (u2 (u2 la 30 0 n18) 30 1 n19)), rfl, ⟨n17, n18, n19, ⟨by decide, by decide⟩, rfl⟩, by rw [ht9]; exact hP9, hD9⟩, hS.F ht9⟩) hS.2.2 dX11_cheat_122
                    · have fc12 := z_nle (rfl : (v11).toInt = _) (rfl : (d).toInt = _) c12
                      refine lv_iinc (v := 2) (lv' := [(5, .int 2), (0, .ref h), (1, .int a), (2, .int b), (3, .int d), (4, .int k)]) hx hb dX11_cheat_84 hl (k := 0) rfl (by decide) (by decide) rfl (fun ls hl => ?_)
                      refine lv_aload_n hx hb dX11_cheat_87 rfl (lv_at hl 1 rfl) ?_
                      refine gX_11_2 hx hb ht hown hK hP m_417 dX11_cheat_88 ?_
                      refine gX_0_3 hx hb ht hown hK hP m_159 dX11_cheat_91 ?_
                      refine lv_iload_n hx hb dX11_cheat_94 rfl (lv_at hl 2 rfl) ?_
                      refine lX_0_3 hx hb hK hP (f := (fa 0 3)) rfl (vp_in_iff.mpr ⟨by omega, by omega⟩) dX11_cheat_95 ?_
                      refine lv_topi (fun v22 ev22 => ?_)
                      obtain rfl : v9 = v22 := ev9.trans ev22.symm
                      refine lv_aload_n hx hb dX11_cheat_96 rfl (lv_at hl 1 rfl) ?_
                      refine gX_11_2 hx hb ht hown hK hP m_417 dX11_cheat_97 ?_
                      refine gX_0_4 hx hb ht hown hK hP m_161 dX11_cheat_100 ?_
                      refine lv_iload_n hx hb dX11_cheat_103 rfl (lv_at hl 2 rfl) ?_
                      refine lX_0_4 hx hb hK hP (f := (fa 0 4)) rfl (vp_in_iff.mpr ⟨by omega, by omega⟩) dX11_cheat_104 ?_
                      refine lv_topi (fun v23 ev23 => ?_)
                      obtain rfl : v11 = v23 := ev11.trans ev23.symm
                      refine lv_iadd hx hb dX11_cheat_105 ?_
                      refine lv_topi (fun v24 ev24 => ?_)
                      refine lv_aload_n hx hb dX11_cheat_106 rfl (lv_at hl 1 rfl) ?_
                      refine lv_iload_n hx hb dX11_cheat_107 rfl (lv_at hl 2 rfl) ?_
                      have hFc := free_all hD hS hA
                      refine va_calli (va_runV (As := [.int a]) (rest := [.int v24]) ⟨hx, hb, hml, hown, ht⟩ (c_X11_loss l dC dI s.heap.size h g ca iv lv fa la hI a) (kV 1 ht m_997 m_999 m_40 m_77 m_1000 rfl rfl hd_X11_loss_v ⟨Nat.le_of_ble_eq_true rfl, Nat.le_of_ble_eq_true rfl⟩) (vW hP hK hD (rX_11 hK hP)) rfl rfl hl.1 rfl (lv_room (Nat.le_of_ble_eq_true rfl)) dX11_cheat_108 ⟨Nat.le_of_ble_eq_true rfl, Nat.le_of_ble_eq_true rfl⟩) hS (fun q _ h => hFc q h) hFc (fun r25 u t H1 locs ht9 hvm hr25 hB hz1 hk1 hS => ?_)
                      obtain ⟨n26, n27, n28, hr25, rfl⟩ := hr25
                      have hn26 : ∀ j, inb (bA 30 2 j) (n26 j) := fun j => full_i _
                      obtain ⟨hP, hD⟩ := hB
                      rw [ht9] at hP
                      generalize H1 = H at hP hS ⊢
                      have hP : va_P (dC, dI) classes (WX h g ca iv lv (u2 fa 30 2 n26) (u2 (u2 la 30 0 n27) 30 1 n28)) H := hP
                      have hD : va_D A (WX h g ca iv lv (u2 fa 30 2 n26) (u2 (u2 la 30 0 n27) 30 1 n28)) := (show va_D _ (WX h g ca iv lv (u2 fa 30 2 n26) (u2 (u2 la 30 0 n27) 30 1 n28)) from hD).weaken (fun _ _ _ h => hFc _ h)
                      refine lv_iadd hx hb dX11_cheat_111 ?_
                      refine lv_topi (fun v29 ev29 => ?_)
                      refine lv_iload hx hb dX11_cheat_112 (lv_at hl 5 rfl) ?_
                      refine lv_icmp_le (tgt := 120) hx hb dX11_cheat_114 (by decide) (fun c30 => ?_) (fun c30 => ?_)
                      · have fc30 := z_le (rfl : (v29).toInt = _) (rfl : (k).toInt = _) c30
                        refine lv_iload hx hb dX11_cheat_120 (lv_at hl 0 rfl) ?_
                        have hP9 : va_P (dC, dI) classes (WX h g ca iv lv (u2 fa 30 2 n26) (u2 (u2 la 30 0 n27) 30 1 n28)) H := hP
                        have hD9 : va_D A (WX h g ca iv lv (u2 fa 30 2 n26) (u2 (u2 la 30 0 n27) 30 1 n28)) := hD
                        exact W.iret (v := 2) hx hb hr (fun t ht9 hW => ⟨⟨2, (iv, lv, (u2 fa 30 2 n26), (u2 (u2 la 30 0 n27) 30 1 n28)), rfl, ⟨n26, n27, n28, ⟨by decide, by decide⟩, rfl⟩, by rw [ht9]; exact hP9, hD9⟩, hS.F ht9⟩) hS.2.2 dX11_cheat_122
                      · have fc30 := z_nle (rfl : (v29).toInt = _) (rfl : (k).toInt = _) c30
                        refine lv_iinc (v := 6) (lv' := [(5, .int 6), (0, .ref h), (1, .int a), (2, .int b), (3, .int d), (4, .int k)]) hx hb dX11_cheat_117 hl (k := 0) rfl (by decide) (by decide) rfl (fun ls hl => ?_)
                        refine lv_iload hx hb dX11_cheat_120 (lv_at hl 0 rfl) ?_
                        have hP9 : va_P (dC, dI) classes (WX h g ca iv lv (u2 fa 30 2 n26) (u2 (u2 la 30 0 n27) 30 1 n28)) H := hP
                        have hD9 : va_D A (WX h g ca iv lv (u2 fa 30 2 n26) (u2 (u2 la 30 0 n27) 30 1 n28)) := hD
                        exact W.iret (v := 6) hx hb hr (fun t ht9 hW => ⟨⟨6, (iv, lv, (u2 fa 30 2 n26), (u2 (u2 la 30 0 n27) 30 1 n28)), rfl, ⟨n26, n27, n28, ⟨by decide, by decide⟩, rfl⟩, by rw [ht9]; exact hP9, hD9⟩, hS.F ht9⟩) hS.2.2 dX11_cheat_122
                  · have fc10 := z_nle (rfl : (v9).toInt = _) (rfl : (b).toInt = _) c10
                    refine lv_iconst (v := 1) hx hb dX11_cheat_64 (by decide) ?_
                    refine lv_goto (tgt := 69) hx hb dX11_cheat_65 (by decide) ?_
                    refine lv_istore (lv' := [(5, .int 1), (0, .ref h), (1, .int a), (2, .int b), (3, .int d), (4, .int k)]) hx hb dX11_cheat_69 hl (by decide) rfl (fun ls hl => ?_)
                    refine lv_aload_n hx hb dX11_cheat_71 rfl (lv_at hl 1 rfl) ?_
                    refine gX_11_2 hx hb ht hown hK hP m_417 dX11_cheat_72 ?_
                    refine gX_0_4 hx hb ht hown hK hP m_161 dX11_cheat_75 ?_
                    refine lv_iload_n hx hb dX11_cheat_78 rfl (lv_at hl 2 rfl) ?_
                    refine lX_0_4 hx hb hK hP (f := (fa 0 4)) rfl (vp_in_iff.mpr ⟨by omega, by omega⟩) dX11_cheat_79 ?_
                    refine lv_topi (fun v31 ev31 => ?_)
                    refine lv_iload_n hx hb dX11_cheat_80 rfl (lv_at hl 4 rfl) ?_
                    refine lv_icmp_le (tgt := 87) hx hb dX11_cheat_81 (by decide) (fun c32 => ?_) (fun c32 => ?_)
                    · have fc32 := z_le (rfl : (v31).toInt = _) (rfl : (d).toInt = _) c32
                      refine lv_aload_n hx hb dX11_cheat_87 rfl (lv_at hl 1 rfl) ?_
                      refine gX_11_2 hx hb ht hown hK hP m_417 dX11_cheat_88 ?_
                      refine gX_0_3 hx hb ht hown hK hP m_159 dX11_cheat_91 ?_
                      refine lv_iload_n hx hb dX11_cheat_94 rfl (lv_at hl 2 rfl) ?_
                      refine lX_0_3 hx hb hK hP (f := (fa 0 3)) rfl (vp_in_iff.mpr ⟨by omega, by omega⟩) dX11_cheat_95 ?_
                      refine lv_topi (fun v33 ev33 => ?_)
                      obtain rfl : v9 = v33 := ev9.trans ev33.symm
                      refine lv_aload_n hx hb dX11_cheat_96 rfl (lv_at hl 1 rfl) ?_
                      refine gX_11_2 hx hb ht hown hK hP m_417 dX11_cheat_97 ?_
                      refine gX_0_4 hx hb ht hown hK hP m_161 dX11_cheat_100 ?_
                      refine lv_iload_n hx hb dX11_cheat_103 rfl (lv_at hl 2 rfl) ?_
                      refine lX_0_4 hx hb hK hP (f := (fa 0 4)) rfl (vp_in_iff.mpr ⟨by omega, by omega⟩) dX11_cheat_104 ?_
                      refine lv_topi (fun v34 ev34 => ?_)
                      obtain rfl : v31 = v34 := ev31.trans ev34.symm
                      refine lv_iadd hx hb dX11_cheat_105 ?_
                      refine lv_topi (fun v35 ev35 => ?_)
                      refine lv_aload_n hx hb dX11_cheat_106 rfl (lv_at hl 1 rfl) ?_
                      refine lv_iload_n hx hb dX11_cheat_107 rfl (lv_at hl 2 rfl) ?_
                      have hFc := free_all hD hS hA
                      refine va_calli (va_runV (As := [.int a]) (rest := [.int v35]) ⟨hx, hb, hml, hown, ht⟩ (c_X11_loss l dC dI s.heap.size h g ca iv lv fa la hI a) (kV 1 ht m_997 m_999 m_40 m_77 m_1000 rfl rfl hd_X11_loss_v ⟨Nat.le_of_ble_eq_true rfl, Nat.le_of_ble_eq_true rfl⟩) (vW hP hK hD (rX_11 hK hP)) rfl rfl hl.1 rfl (lv_room (Nat.le_of_ble_eq_true rfl)) dX11_cheat_108 ⟨Nat.le_of_ble_eq_true rfl, Nat.le_of_ble_eq_true rfl⟩) hS (fun q _ h => hFc q h) hFc (fun r36 u t H1 locs ht9 hvm hr36 hB hz1 hk1 hS => ?_)
                      obtain ⟨n37, n38, n39, hr36, rfl⟩ := hr36
                      have hn37 : ∀ j, inb (bA 30 2 j) (n37 j) := fun j => full_i _
                      obtain ⟨hP, hD⟩ := hB
                      rw [ht9] at hP
                      generalize H1 = H at hP hS ⊢
                      have hP : va_P (dC, dI) classes (WX h g ca iv lv (u2 fa 30 2 n37) (u2 (u2 la 30 0 n38) 30 1 n39)) H := hP
                      have hD : va_D A (WX h g ca iv lv (u2 fa 30 2 n37) (u2 (u2 la 30 0 n38) 30 1 n39)) := (show va_D _ (WX h g ca iv lv (u2 fa 30 2 n37) (u2 (u2 la 30 0 n38) 30 1 n39)) from hD).weaken (fun _ _ _ h => hFc _ h)
                      refine lv_iadd hx hb dX11_cheat_111 ?_
                      refine lv_topi (fun v40 ev40 => ?_)
                      refine lv_iload hx hb dX11_cheat_112 (lv_at hl 5 rfl) ?_
                      refine lv_icmp_le (tgt := 120) hx hb dX11_cheat_114 (by decide) (fun c41 => ?_) (fun c41 => ?_)
                      · have fc41 := z_le (rfl : (v40).toInt = _) (rfl : (k).toInt = _) c41
                        refine lv_iload hx hb dX11_cheat_120 (lv_at hl 0 rfl) ?_
                        have hP9 : va_P (dC, dI) classes (WX h g ca iv lv (u2 fa 30 2 n37) (u2 (u2 la 30 0 n38) 30 1 n39)) H := hP
                        have hD9 : va_D A (WX h g ca iv lv (u2 fa 30 2 n37) (u2 (u2 la 30 0 n38) 30 1 n39)) := hD
                        exact W.iret (v := 1) hx hb hr (fun t ht9 hW => ⟨⟨1, (iv, lv, (u2 fa 30 2 n37), (u2 (u2 la 30 0 n38) 30 1 n39)), rfl, ⟨n37, n38, n39, ⟨by decide, by decide⟩, rfl⟩, by rw [ht9]; exact hP9, hD9⟩, hS.F ht9⟩) hS.2.2 dX11_cheat_122
                      · have fc41 := z_nle (rfl : (v40).toInt = _) (rfl : (k).toInt = _) c41
                        refine lv_iinc (v := 5) (lv' := [(5, .int 5), (0, .ref h), (1, .int a), (2, .int b), (3, .int d), (4, .int k)]) hx hb dX11_cheat_117 hl (k := 0) rfl (by decide) (by decide) rfl (fun ls hl => ?_)
                        refine lv_iload hx hb dX11_cheat_120 (lv_at hl 0 rfl) ?_
                        have hP9 : va_P (dC, dI) classes (WX h g ca iv lv (u2 fa 30 2 n37) (u2 (u2 la 30 0 n38) 30 1 n39)) H := hP
                        have hD9 : va_D A (WX h g ca iv lv (u2 fa 30 2 n37) (u2 (u2 la 30 0 n38) 30 1 n39)) := hD
                        exact W.iret (v := 5) hx hb hr (fun t ht9 hW => ⟨⟨5, (iv, lv, (u2 fa 30 2 n37), (u2 (u2 la 30 0 n38) 30 1 n39)), rfl, ⟨n37, n38, n39, ⟨by decide, by decide⟩, rfl⟩, by rw [ht9]; exact hP9, hD9⟩, hS.F ht9⟩) hS.2.2 dX11_cheat_122
                    · have fc32 := z_nle (rfl : (v31).toInt = _) (rfl : (d).toInt = _) c32
                      refine lv_iinc (v := 3) (lv' := [(5, .int 3), (0, .ref h), (1, .int a), (2, .int b), (3, .int d), (4, .int k)]) hx hb dX11_cheat_84 hl (k := 0) rfl (by decide) (by decide) rfl (fun ls hl => ?_)
                      refine lv_aload_n hx hb dX11_cheat_87 rfl (lv_at hl 1 rfl) ?_
                      refine gX_11_2 hx hb ht hown hK hP m_417 dX11_cheat_88 ?_
                      refine gX_0_3 hx hb ht hown hK hP m_159 dX11_cheat_91 ?_
                      refine lv_iload_n hx hb dX11_cheat_94 rfl (lv_at hl 2 rfl) ?_
                      refine lX_0_3 hx hb hK hP (f := (fa 0 3)) rfl (vp_in_iff.mpr ⟨by omega, by omega⟩) dX11_cheat_95 ?_
                      refine lv_topi (fun v42 ev42 => ?_)
                      obtain rfl : v9 = v42 := ev9.trans ev42.symm
                      refine lv_aload_n hx hb dX11_cheat_96 rfl (lv_at hl 1 rfl) ?_
                      refine gX_11_2 hx hb ht hown hK hP m_417 dX11_cheat_97 ?_
                      refine gX_0_4 hx hb ht hown hK hP m_161 dX11_cheat_100 ?_
                      refine lv_iload_n hx hb dX11_cheat_103 rfl (lv_at hl 2 rfl) ?_
                      refine lX_0_4 hx hb hK hP (f := (fa 0 4)) rfl (vp_in_iff.mpr ⟨by omega, by omega⟩) dX11_cheat_104 ?_
                      refine lv_topi (fun v43 ev43 => ?_)
                      obtain rfl : v31 = v43 := ev31.trans ev43.symm
                      refine lv_iadd hx hb dX11_cheat_105 ?_
                      refine lv_topi (fun v44 ev44 => ?_)
                      refine lv_aload_n hx hb dX11_cheat_106 rfl (lv_at hl 1 rfl) ?_
                      refine lv_iload_n hx hb dX11_cheat_107 rfl (lv_at hl 2 rfl) ?_
                      have hFc := free_all hD hS hA
                      refine va_calli (va_runV (As := [.int a]) (rest := [.int v44]) ⟨hx, hb, hml, hown, ht⟩ (c_X11_loss l dC dI s.heap.size h g ca iv lv fa la hI a) (kV 1 ht m_997 m_999 m_40 m_77 m_1000 rfl rfl hd_X11_loss_v ⟨Nat.le_of_ble_eq_true rfl, Nat.le_of_ble_eq_true rfl⟩) (vW hP hK hD (rX_11 hK hP)) rfl rfl hl.1 rfl (lv_room (Nat.le_of_ble_eq_true rfl)) dX11_cheat_108 ⟨Nat.le_of_ble_eq_true rfl, Nat.le_of_ble_eq_true rfl⟩) hS (fun q _ h => hFc q h) hFc (fun r45 u t H1 locs ht9 hvm hr45 hB hz1 hk1 hS => ?_)
                      obtain ⟨n46, n47, n48, hr45, rfl⟩ := hr45
                      have hn46 : ∀ j, inb (bA 30 2 j) (n46 j) := fun j => full_i _
                      obtain ⟨hP, hD⟩ := hB
                      rw [ht9] at hP
                      generalize H1 = H at hP hS ⊢
                      have hP : va_P (dC, dI) classes (WX h g ca iv lv (u2 fa 30 2 n46) (u2 (u2 la 30 0 n47) 30 1 n48)) H := hP
                      have hD : va_D A (WX h g ca iv lv (u2 fa 30 2 n46) (u2 (u2 la 30 0 n47) 30 1 n48)) := (show va_D _ (WX h g ca iv lv (u2 fa 30 2 n46) (u2 (u2 la 30 0 n47) 30 1 n48)) from hD).weaken (fun _ _ _ h => hFc _ h)
                      refine lv_iadd hx hb dX11_cheat_111 ?_
                      refine lv_topi (fun v49 ev49 => ?_)
                      refine lv_iload hx hb dX11_cheat_112 (lv_at hl 5 rfl) ?_
                      refine lv_icmp_le (tgt := 120) hx hb dX11_cheat_114 (by decide) (fun c50 => ?_) (fun c50 => ?_)
                      · have fc50 := z_le (rfl : (v49).toInt = _) (rfl : (k).toInt = _) c50
                        refine lv_iload hx hb dX11_cheat_120 (lv_at hl 0 rfl) ?_
                        have hP9 : va_P (dC, dI) classes (WX h g ca iv lv (u2 fa 30 2 n46) (u2 (u2 la 30 0 n47) 30 1 n48)) H := hP
                        have hD9 : va_D A (WX h g ca iv lv (u2 fa 30 2 n46) (u2 (u2 la 30 0 n47) 30 1 n48)) := hD
                        exact W.iret (v := 3) hx hb hr (fun t ht9 hW => ⟨⟨3, (iv, lv, (u2 fa 30 2 n46), (u2 (u2 la 30 0 n47) 30 1 n48)), rfl, ⟨n46, n47, n48, ⟨by decide, by decide⟩, rfl⟩, by rw [ht9]; exact hP9, hD9⟩, hS.F ht9⟩) hS.2.2 dX11_cheat_122
                      · have fc50 := z_nle (rfl : (v49).toInt = _) (rfl : (k).toInt = _) c50
                        refine lv_iinc (v := 7) (lv' := [(5, .int 7), (0, .ref h), (1, .int a), (2, .int b), (3, .int d), (4, .int k)]) hx hb dX11_cheat_117 hl (k := 0) rfl (by decide) (by decide) rfl (fun ls hl => ?_)
                        refine lv_iload hx hb dX11_cheat_120 (lv_at hl 0 rfl) ?_
                        have hP9 : va_P (dC, dI) classes (WX h g ca iv lv (u2 fa 30 2 n46) (u2 (u2 la 30 0 n47) 30 1 n48)) H := hP
                        have hD9 : va_D A (WX h g ca iv lv (u2 fa 30 2 n46) (u2 (u2 la 30 0 n47) 30 1 n48)) := hD
                        exact W.iret (v := 7) hx hb hr (fun t ht9 hW => ⟨⟨7, (iv, lv, (u2 fa 30 2 n46), (u2 (u2 la 30 0 n47) 30 1 n48)), rfl, ⟨n46, n47, n48, ⟨by decide, by decide⟩, rfl⟩, by rw [ht9]; exact hP9, hD9⟩, hS.F ht9⟩) hS.2.2 dX11_cheat_122
                · exact absurd c8 (by decide)
              · skip
                refine lv_if_ne (tgt := 51) hx hb dX11_cheat_45 (by decide) (fun c51 => ?_) (fun c51 => ?_)
                · exact absurd rfl c51
                · skip
                  refine lv_ldc hx hb hown (ht _ m_456) dX11_cheat_48 ?_
                  have hP9 : va_P (dC, dI) classes (WX h g ca iv lv (u2 fa 30 2 (fa 30 2)) (u2 (u2 la 30 0 (la 30 0)) 30 1 (la 30 1))) s.heap := hP
                  have hD9 : va_D A (WX h g ca iv lv (u2 fa 30 2 (fa 30 2)) (u2 (u2 la 30 0 (la 30 0)) 30 1 (la 30 1))) := hD
                  exact W.iret (v := (-100002)) hx hb hr (fun t ht9 hW => ⟨⟨(-100002), (iv, lv, (u2 fa 30 2 (fa 30 2)), (u2 (u2 la 30 0 (la 30 0)) 30 1 (la 30 1))), rfl, ⟨(fa 30 2), (la 30 0), (la 30 1), ⟨by decide, by decide⟩, rfl⟩, by rw [ht9]; exact hP9, hD9⟩, hS.F ht9⟩) hS.2.2 dX11_cheat_50
          · skip
            refine lv_if_eq (tgt := 48) hx hb dX11_cheat_33 (by decide) (fun c52 => ?_) (fun c52 => ?_)
            · skip
              refine lv_ldc hx hb hown (ht _ m_456) dX11_cheat_48 ?_
              have hP9 : va_P (dC, dI) classes (WX h g ca iv lv (u2 fa 30 2 (fa 30 2)) (u2 (u2 la 30 0 (la 30 0)) 30 1 (la 30 1))) s.heap := hP
              have hD9 : va_D A (WX h g ca iv lv (u2 fa 30 2 (fa 30 2)) (u2 (u2 la 30 0 (la 30 0)) 30 1 (la 30 1))) := hD
              exact W.iret (v := (-100002)) hx hb hr (fun t ht9 hW => ⟨⟨(-100002), (iv, lv, (u2 fa 30 2 (fa 30 2)), (u2 (u2 la 30 0 (la 30 0)) 30 1 (la 30 1))), rfl, ⟨(fa 30 2), (la 30 0), (la 30 1), ⟨by decide, by decide⟩, rfl⟩, by rw [ht9]; exact hP9, hD9⟩, hS.F ht9⟩) hS.2.2 dX11_cheat_50
            · exact absurd rfl c52
      · skip
        refine lv_if_eq (tgt := 48) hx hb dX11_cheat_22 (by decide) (fun c53 => ?_) (fun c53 => ?_)
        · skip
          refine lv_ldc hx hb hown (ht _ m_456) dX11_cheat_48 ?_
          have hP9 : va_P (dC, dI) classes (WX h g ca iv lv (u2 fa 30 2 (fa 30 2)) (u2 (u2 la 30 0 (la 30 0)) 30 1 (la 30 1))) s.heap := hP
          have hD9 : va_D A (WX h g ca iv lv (u2 fa 30 2 (fa 30 2)) (u2 (u2 la 30 0 (la 30 0)) 30 1 (la 30 1))) := hD
          exact W.iret (v := (-100002)) hx hb hr (fun t ht9 hW => ⟨⟨(-100002), (iv, lv, (u2 fa 30 2 (fa 30 2)), (u2 (u2 la 30 0 (la 30 0)) 30 1 (la 30 1))), rfl, ⟨(fa 30 2), (la 30 0), (la 30 1), ⟨by decide, by decide⟩, rfl⟩, by rw [ht9]; exact hP9, hD9⟩, hS.F ht9⟩) hS.2.2 dX11_cheat_50
        · exact absurd rfl c53
    · exact absurd c2 (by decide)
  · skip
    have i_0_7 : 0 ≤ (iv 0 7).toInt ∧ (iv 0 7).toInt ≤ 10 := hI.1 0 7
    have fr1 : ¬ (0 ≤ (a : Int32).toInt ∧ (a : Int32).toInt < ((iv 0 7) : Int32).toInt) := fr1
    refine lv_if_ne (tgt := 14) hx hb dX11_cheat_8 (by decide) (fun c54 => ?_) (fun c54 => ?_)
    · exact absurd rfl c54
    · skip
      refine lv_ldc hx hb hown (ht _ m_476) dX11_cheat_11 ?_
      have hP9 : va_P (dC, dI) classes (WX h g ca iv lv (u2 fa 30 2 (fa 30 2)) (u2 (u2 la 30 0 (la 30 0)) 30 1 (la 30 1))) s.heap := hP
      have hD9 : va_D A (WX h g ca iv lv (u2 fa 30 2 (fa 30 2)) (u2 (u2 la 30 0 (la 30 0)) 30 1 (la 30 1))) := hD
      exact W.iret (v := (-100001)) hx hb hr (fun t ht9 hW => ⟨⟨(-100001), (iv, lv, (u2 fa 30 2 (fa 30 2)), (u2 (u2 la 30 0 (la 30 0)) 30 1 (la 30 1))), rfl, ⟨(fa 30 2), (la 30 0), (la 30 1), ⟨by decide, by decide⟩, rfl⟩, by rw [ht9]; exact hP9, hD9⟩, hS.F ht9⟩) hS.2.2 dX11_cheat_13
set_option maxHeartbeats 4000000 in
set_option maxRecDepth 100000 in
/-- X11_order -/
theorem c_X11_order (l : Launch) (dC : Nat → ClassId) (dI : Nat → Nat → Nat) (sz : Nat) (h : Nat) (g : Nat → Nat → Nat) (ca : Nat → Nat → ClassId) (iv : Nat → Nat → Int32) (lv : Nat → Nat → Int64) (fa : Nat → Nat → Nat → Int32) (la : Nat → Nat → Nat → Int64) (hI : IX iv fa) (a : Int32) (b : Int32) : Met l yX11_order (wc yX11_order cX11_order 3 (some .int)) ({ frames := 11, cells := 0, slots := 0, locals := 297 } : Room) (pW (dC, dI) classes (WX h g ca iv lv fa la) (TX ca) sz [.ref h, .int a, .int b]) (va_Qi (fun r (u : SS) => ∃ (na_5_1 : Nat → Int32) (na_5_2 : Nat → Int32) (na_5_3 : Nat → Int32) (ni_5_5 : Int32) (ni_5_6 : Int32), (True) ∧ u = ((u2 (u2 iv 5 5 ni_5_5) 5 6 ni_5_6), lv, (u2 (u2 (u2 fa 5 1 na_5_1) 5 2 na_5_2) 5 3 na_5_3), la)) (bX (dC, dI) h g ca (va_A (WX h g ca iv lv fa la) sz)) (va_A (WX h g ca iv lv fa la) sz)) 0 0 (va_A (WX h g ca iv lv fa la) sz) := by
  refine Met.ofW (cc := cX11_order) (maxL := 3) (ret := (some .int)) (by decide) rfl ?_
  intro p e s m args below meth c s₁ B hml hv
  obtain ⟨rfl, hsz, hP, hK, hD0⟩ := hv
  have hx := B.exec
  have hb := B.bytes
  have hr := B.returns
  have ht := tb_tl (atoms_spec (ws := wc yX11_order cX11_order 3 (some .int)) B.pre)
  have hown : s.vm.findClass RX11 = some m.cls := findClass_of_methodNamed B.named
  have hlocks := B.notSynchronized
  subst hsz
  have hD := hD0.self (sz := s.heap.size)
  generalize hAe : va_A (WX h g ca iv lv fa la) s.heap.size = A at hD ⊢
  have hA : ∀ q : Nat, s.heap.size ≤ q → A q := fun q h => by rw [← hAe]; exact Or.inr h
  have hS : va_S A s.heap s.heap [] := va_S.rf
  have hl := lv_entry [.ref h, .int a, .int b] (n := 3) (Nat.le_of_ble_eq_true rfl)
  rw [lg_entry_eq]
  generalize (lg_sl [.ref h, .int a, .int b] ++ List.replicate (3 - (lg_sl [.ref h, .int a, .int b]).length) Slot.unset).toArray = ls at hl ⊢
  have hl : lv_has ls 3 [(0, .ref h), (1, .int a), (2, .int b)] := hl
  refine lv_iload_n hx hb dX11_order_0 rfl (lv_at hl 1 rfl) ?_
  refine lv_iconst (v := 1) hx hb dX11_order_1 (by decide) ?_
  refine lv_iconst (v := 3) hx hb dX11_order_2 (by decide) ?_
  refine vp_callSi (W.runS (As := [.int a, .int 1, .int 3]) (rest := []) ⟨hx, hb, hml, hown, ht⟩ (c_X11_within l dC dI a 1 3 (a.toInt) (1) (3) (rfl : (a).toInt = _) (by decide : (1 : Int32).toInt = 1) (by decide : (3 : Int32).toInt = 3)) (kS 3 ht m_453 m_454 m_77 m_455 rfl rfl hd_X11_within_v ⟨Nat.le_of_ble_eq_true rfl, Nat.le_of_ble_eq_true rfl⟩) (sR noP (hK.sub (tys' := []) [] rfl)) rfl rfl hl.1 rfl (lv_room (Nat.le_of_ble_eq_true rfl)) dX11_order_3 ⟨Nat.le_of_ble_eq_true rfl, Nat.le_of_ble_eq_true rfl⟩) (fun r1 hr1 => ?_)
  rcases hr1 with ⟨rfl, fr1⟩ | ⟨rfl, fr1⟩
  · skip
    refine lv_if_ne (tgt := 12) hx hb dX11_order_6 (by decide) (fun c2 => ?_) (fun c2 => ?_)
    · skip
      refine lv_aload_n hx hb dX11_order_12 rfl (lv_at hl 0 rfl) ?_
      refine gX_11_7 hx hb ht hown hK hP m_422 dX11_order_13 ?_
      refine lv_iload_n hx hb dX11_order_16 rfl (lv_at hl 1 rfl) ?_
      have hFc := free_all hD hS hA
      refine va_callv (va_runV (As := [.int a]) (rest := []) ⟨hx, hb, hml, hown, ht⟩ (c_X5_arrange l dC dI s.heap.size h g ca iv lv fa la hI a ⟨by omega, by omega⟩) (kV 1 ht m_1013 m_1014 m_1015 m_86 m_1016 rfl rfl hd_X5_arrange_v ⟨Nat.le_of_ble_eq_true rfl, Nat.le_of_ble_eq_true rfl⟩) (vW hP hK hD (rX_5 hK hP)) rfl rfl hl.1 rfl (lv_room (Nat.le_of_ble_eq_true rfl)) dX11_order_17 ⟨Nat.le_of_ble_eq_true rfl, Nat.le_of_ble_eq_true rfl⟩) hS (fun q _ h => hFc q h) hFc (fun u t H1 locs ht9 hvm hr3 hB hz1 hk1 hS => ?_)
      obtain ⟨n4, n5, n6, n7, n8, rfl⟩ := hr3
      have hn4 : ∀ j, inb (bA 5 1 j) (n4 j) := fun j => full_i _
      have hn5 : ∀ j, inb (bA 5 2 j) (n5 j) := fun j => full_i _
      have hn6 : ∀ j, inb (bA 5 3 j) (n6 j) := fun j => full_i _
      obtain ⟨hP, hD⟩ := hB
      rw [ht9] at hP
      generalize H1 = H at hP hS ⊢
      have hP : va_P (dC, dI) classes (WX h g ca (u2 (u2 iv 5 5 n7) 5 6 n8) lv (u2 (u2 (u2 fa 5 1 n4) 5 2 n5) 5 3 n6) la) H := hP
      have hD : va_D A (WX h g ca (u2 (u2 iv 5 5 n7) 5 6 n8) lv (u2 (u2 (u2 fa 5 1 n4) 5 2 n5) 5 3 n6) la) := (show va_D _ (WX h g ca (u2 (u2 iv 5 5 n7) 5 6 n8) lv (u2 (u2 (u2 fa 5 1 n4) 5 2 n5) 5 3 n6) la) from hD).weaken (fun _ _ _ h => hFc _ h)
      refine lv_iload_n hx hb dX11_order_20 rfl (lv_at hl 2 rfl) ?_
      refine lv_iconst (v := (-1)) hx hb dX11_order_21 (by decide) ?_
      refine lv_icmp_ne (tgt := 33) hx hb dX11_order_22 (by decide) (fun c9 => ?_) (fun c9 => ?_)
      · have fc9 := z_ne (rfl : (b).toInt = _) (by decide : ((-1) : Int32).toInt = (-1)) c9
        refine lv_iload_n hx hb dX11_order_33 rfl (lv_at hl 2 rfl) ?_
        refine lv_iconst (v := 0) hx hb dX11_order_34 (by decide) ?_
        refine lv_aload_n hx hb dX11_order_35 rfl (lv_at hl 0 rfl) ?_
        refine gX_11_7 hx hb ht hown hK hP m_422 dX11_order_36 ?_
        have i_5_4 : 0 ≤ (iv 5 4).toInt ∧ (iv 5 4).toInt ≤ 8 := hI.1 5 4
        refine gX_5_4 hx hb ht hown hK hP m_341 (v := (iv 5 4)) rfl dX11_order_39 ?_
        refine lv_iconst (v := 1) hx hb dX11_order_42 (by decide) ?_
        refine lv_isub hx hb dX11_order_43 ?_
        refine lv_topi (fun v10 ev10 => ?_)
        have tv10 := z_sub ev10 (rfl : ((iv 5 4)).toInt = _) (by decide : (1 : Int32).toInt = 1) (by omega) (by omega)
        refine vp_callSi (W.runS (As := [.int b, .int 0, .int v10]) (rest := []) ⟨hx, hb, hml, hown, ht⟩ (c_X11_within l dC dI b 0 v10 (b.toInt) (0) (v10.toInt) (rfl : (b).toInt = _) (by decide : (0 : Int32).toInt = 0) (rfl : (v10).toInt = _)) (kS 3 ht m_453 m_454 m_77 m_455 rfl rfl hd_X11_within_v ⟨Nat.le_of_ble_eq_true rfl, Nat.le_of_ble_eq_true rfl⟩) (sR noP (hK.sub (tys' := []) [] rfl)) rfl rfl hl.1 rfl (lv_room (Nat.le_of_ble_eq_true rfl)) dX11_order_44 ⟨Nat.le_of_ble_eq_true rfl, Nat.le_of_ble_eq_true rfl⟩) (fun r11 hr11 => ?_)
        rcases hr11 with ⟨rfl, fr11⟩ | ⟨rfl, fr11⟩
        · skip
          refine lv_if_eq (tgt := 62) hx hb dX11_order_47 (by decide) (fun c12 => ?_) (fun c12 => ?_)
          · exact absurd c12 (by decide)
          · skip
            refine lv_aload_n hx hb dX11_order_50 rfl (lv_at hl 0 rfl) ?_
            refine gX_11_7 hx hb ht hown hK hP m_422 dX11_order_51 ?_
            refine gX_5_3 hx hb ht hown hK hP m_339 dX11_order_54 ?_
            refine lv_iload_n hx hb dX11_order_57 rfl (lv_at hl 2 rfl) ?_
            refine lX_5_3 hx hb hK hP (f := n6) rfl (vp_in_iff.mpr ⟨by omega, by omega⟩) dX11_order_58 ?_
            refine lv_topi (fun v13 ev13 => ?_)
            refine lv_goto (tgt := 63) hx hb dX11_order_59 (by decide) ?_
            have hP9 : va_P (dC, dI) classes (WX h g ca (u2 (u2 iv 5 5 n7) 5 6 n8) lv (u2 (u2 (u2 fa 5 1 n4) 5 2 n5) 5 3 n6) la) H := hP
            have hD9 : va_D A (WX h g ca (u2 (u2 iv 5 5 n7) 5 6 n8) lv (u2 (u2 (u2 fa 5 1 n4) 5 2 n5) 5 3 n6) la) := hD
            exact W.iret (v := v13) hx hb hr (fun t ht9 hW => ⟨⟨v13, ((u2 (u2 iv 5 5 n7) 5 6 n8), lv, (u2 (u2 (u2 fa 5 1 n4) 5 2 n5) 5 3 n6), la), rfl, ⟨n4, n5, n6, n7, n8, trivial, rfl⟩, by rw [ht9]; exact hP9, hD9⟩, hS.F ht9⟩) hS.2.2 dX11_order_63
        · skip
          refine lv_if_eq (tgt := 62) hx hb dX11_order_47 (by decide) (fun c14 => ?_) (fun c14 => ?_)
          · skip
            refine lv_iconst (v := (-1)) hx hb dX11_order_62 (by decide) ?_
            have hP9 : va_P (dC, dI) classes (WX h g ca (u2 (u2 iv 5 5 n7) 5 6 n8) lv (u2 (u2 (u2 fa 5 1 n4) 5 2 n5) 5 3 n6) la) H := hP
            have hD9 : va_D A (WX h g ca (u2 (u2 iv 5 5 n7) 5 6 n8) lv (u2 (u2 (u2 fa 5 1 n4) 5 2 n5) 5 3 n6) la) := hD
            exact W.iret (v := (-1)) hx hb hr (fun t ht9 hW => ⟨⟨(-1), ((u2 (u2 iv 5 5 n7) 5 6 n8), lv, (u2 (u2 (u2 fa 5 1 n4) 5 2 n5) 5 3 n6), la), rfl, ⟨n4, n5, n6, n7, n8, trivial, rfl⟩, by rw [ht9]; exact hP9, hD9⟩, hS.F ht9⟩) hS.2.2 dX11_order_63
          · exact absurd rfl c14
      · have fc9 := z_eq (rfl : (b).toInt = _) (by decide : ((-1) : Int32).toInt = (-1)) c9
        refine lv_aload_n hx hb dX11_order_25 rfl (lv_at hl 0 rfl) ?_
        refine gX_11_7 hx hb ht hown hK hP m_422 dX11_order_26 ?_
        refine gX_5_5 hx hb ht hown hK hP m_343 (v := n7) rfl dX11_order_29 ?_
        have hP9 : va_P (dC, dI) classes (WX h g ca (u2 (u2 iv 5 5 n7) 5 6 n8) lv (u2 (u2 (u2 fa 5 1 n4) 5 2 n5) 5 3 n6) la) H := hP
        have hD9 : va_D A (WX h g ca (u2 (u2 iv 5 5 n7) 5 6 n8) lv (u2 (u2 (u2 fa 5 1 n4) 5 2 n5) 5 3 n6) la) := hD
        exact W.iret (v := n7) hx hb hr (fun t ht9 hW => ⟨⟨n7, ((u2 (u2 iv 5 5 n7) 5 6 n8), lv, (u2 (u2 (u2 fa 5 1 n4) 5 2 n5) 5 3 n6), la), rfl, ⟨n4, n5, n6, n7, n8, trivial, rfl⟩, by rw [ht9]; exact hP9, hD9⟩, hS.F ht9⟩) hS.2.2 dX11_order_32
    · exact absurd c2 (by decide)
  · skip
    refine lv_if_ne (tgt := 12) hx hb dX11_order_6 (by decide) (fun c15 => ?_) (fun c15 => ?_)
    · exact absurd rfl c15
    · skip
      refine lv_ldc hx hb hown (ht _ m_456) dX11_order_9 ?_
      have hP9 : va_P (dC, dI) classes (WX h g ca (u2 (u2 iv 5 5 (iv 5 5)) 5 6 (iv 5 6)) lv (u2 (u2 (u2 fa 5 1 (fa 5 1)) 5 2 (fa 5 2)) 5 3 (fa 5 3)) la) s.heap := hP
      have hD9 : va_D A (WX h g ca (u2 (u2 iv 5 5 (iv 5 5)) 5 6 (iv 5 6)) lv (u2 (u2 (u2 fa 5 1 (fa 5 1)) 5 2 (fa 5 2)) 5 3 (fa 5 3)) la) := hD
      exact W.iret (v := (-100002)) hx hb hr (fun t ht9 hW => ⟨⟨(-100002), ((u2 (u2 iv 5 5 (iv 5 5)) 5 6 (iv 5 6)), lv, (u2 (u2 (u2 fa 5 1 (fa 5 1)) 5 2 (fa 5 2)) 5 3 (fa 5 3)), la), rfl, ⟨(fa 5 1), (fa 5 2), (fa 5 3), (iv 5 5), (iv 5 6), trivial, rfl⟩, by rw [ht9]; exact hP9, hD9⟩, hS.F ht9⟩) hS.2.2 dX11_order_11
set_option maxHeartbeats 4000000 in
set_option maxRecDepth 100000 in
/-- X11_houses -/
theorem c_X11_houses (l : Launch) (dC : Nat → ClassId) (dI : Nat → Nat → Nat) (h : Nat) (g : Nat → Nat → Nat) (ca : Nat → Nat → ClassId) (iv : Nat → Nat → Int32) (lv : Nat → Nat → Int64) (fa : Nat → Nat → Nat → Int32) (la : Nat → Nat → Nat → Int64) (hI : IX iv fa) (a : Int32) : Met l yX11_houses (wc yX11_houses cX11_houses 3 (some .int)) ({ frames := 3, cells := 0, slots := 0, locals := 86 } : Room) (pR (dC, dI) classes (WX h g ca iv lv fa la) (TX ca) [.ref h, .int a]) (vp_Si (fun r => True)) 0 0 (fun _ => False) := by
  refine Met.ofW (cc := cX11_houses) (maxL := 3) (ret := (some .int)) (by decide) rfl ?_
  intro p e s m args below meth c s₁ B hml hv
  obtain ⟨rfl, hP, hK⟩ := hv
  have hx := B.exec
  have hb := B.bytes
  have hr := B.returns
  have ht := tb_tl (atoms_spec (ws := wc yX11_houses cX11_houses 3 (some .int)) B.pre)
  have hown : s.vm.findClass RX11 = some m.cls := findClass_of_methodNamed B.named
  have hlocks := B.notSynchronized
  have hl := lv_entry [.ref h, .int a] (n := 3) (Nat.le_of_ble_eq_true rfl)
  rw [lg_entry_eq]
  generalize (lg_sl [.ref h, .int a] ++ List.replicate (3 - (lg_sl [.ref h, .int a]).length) Slot.unset).toArray = ls at hl ⊢
  have hl : lv_has ls 3 [(0, .ref h), (1, .int a)] := hl
  refine lv_iload_n hx hb dX11_houses_0 rfl (lv_at hl 1 rfl) ?_
  refine lv_iconst (v := 0) hx hb dX11_houses_1 (by decide) ?_
  refine lv_iconst (v := 2) hx hb dX11_houses_2 (by decide) ?_
  refine vp_callSi (W.runS (As := [.int a, .int 0, .int 2]) (rest := []) ⟨hx, hb, hml, hown, ht⟩ (c_X11_within l dC dI a 0 2 (a.toInt) (0) (2) (rfl : (a).toInt = _) (by decide : (0 : Int32).toInt = 0) (by decide : (2 : Int32).toInt = 2)) (kS 3 ht m_453 m_454 m_77 m_455 rfl rfl hd_X11_within_v ⟨Nat.le_of_ble_eq_true rfl, Nat.le_of_ble_eq_true rfl⟩) (sR noP (hK.sub (tys' := []) [] rfl)) rfl rfl hl.1 rfl (lv_room (Nat.le_of_ble_eq_true rfl)) dX11_houses_3 ⟨Nat.le_of_ble_eq_true rfl, Nat.le_of_ble_eq_true rfl⟩) (fun r1 hr1 => ?_)
  rcases hr1 with ⟨rfl, fr1⟩ | ⟨rfl, fr1⟩
  · skip
    refine lv_if_ne (tgt := 12) hx hb dX11_houses_6 (by decide) (fun c2 => ?_) (fun c2 => ?_)
    · skip
      refine lv_aload_n hx hb dX11_houses_12 rfl (lv_at hl 0 rfl) ?_
      refine gX_11_8 hx hb ht hown hK hP m_423 dX11_houses_13 ?_
      have i_4_2 : 0 ≤ (iv 4 2).toInt ∧ (iv 4 2).toInt ≤ 8 := hI.1 4 2
      refine gX_4_2 hx hb ht hown hK hP m_369 (v := (iv 4 2)) rfl dX11_houses_16 ?_
      refine lv_if_ne (tgt := 25) hx hb dX11_houses_19 (by decide) (fun c3 => ?_) (fun c3 => ?_)
      · have fc3 := z_ne (rfl : ((iv 4 2)).toInt = _) (by decide : (0 : Int32).toInt = 0) c3
        refine lv_aload_n hx hb dX11_houses_25 rfl (lv_at hl 0 rfl) ?_
        refine gX_11_8 hx hb ht hown hK hP m_423 dX11_houses_26 ?_
        refine vp_callSi (W.runV (As := []) (rest := []) ⟨hx, hb, hml, hown, ht⟩ (c_X4_leastLeftOut l dC dI h g ca iv lv fa la hI) (kV 0 ht m_1046 m_1047 m_1048 m_87 m_1049 rfl rfl hd_X4_leastLeftOut_v ⟨Nat.le_of_ble_eq_true rfl, Nat.le_of_ble_eq_true rfl⟩) (vR hP hK (rX_4 hK hP)) rfl rfl hl.1 rfl (lv_room (Nat.le_of_ble_eq_true rfl)) dX11_houses_29 ⟨Nat.le_of_ble_eq_true rfl, Nat.le_of_ble_eq_true rfl⟩) (fun r4 hr4 => ?_)
        refine lv_istore_n (lv' := [(2, .int r4), (0, .ref h), (1, .int a)]) hx hb dX11_houses_32 rfl hl (by decide) rfl (fun ls hl => ?_)
        refine lv_iload_n hx hb dX11_houses_33 rfl (lv_at hl 2 rfl) ?_
        refine lv_iconst (v := 2) hx hb dX11_houses_34 (by decide) ?_
        refine lv_icmp_ne (tgt := 40) hx hb dX11_houses_35 (by decide) (fun c5 => ?_) (fun c5 => ?_)
        · have fc5 := z_ne (rfl : (a).toInt = _) (by decide : (2 : Int32).toInt = 2) c5
          refine lv_iload_n hx hb dX11_houses_40 rfl (lv_at hl 2 rfl) ?_
          refine lv_if_ne (tgt := 55) hx hb dX11_houses_41 (by decide) (fun c6 => ?_) (fun c6 => ?_)
          · have fc6 := z_ne (rfl : (a).toInt = _) (by decide : (0 : Int32).toInt = 0) c6
            refine lv_aload_n hx hb dX11_houses_55 rfl (lv_at hl 1 rfl) ?_
            refine gX_11_8 hx hb ht hown hK hP m_423 dX11_houses_56 ?_
            refine lv_iload_n hx hb dX11_houses_59 rfl (lv_at hl 0 rfl) ?_
            refine vp_callSi (W.runV (As := [.int r4]) (rest := []) ⟨hx, hb, hml, hown, ht⟩ (c_X4_greatestWithout l dC dI h g ca iv lv fa la hI r4) (kV 1 ht m_1069 m_1063 m_1064 m_87 m_1065 rfl rfl hd_X4_greatestWithout_v ⟨Nat.le_of_ble_eq_true rfl, Nat.le_of_ble_eq_true rfl⟩) (vR hP hK (rX_4 hK hP)) rfl rfl hl.1 rfl (lv_room (Nat.le_of_ble_eq_true rfl)) dX11_houses_60 ⟨Nat.le_of_ble_eq_true rfl, Nat.le_of_ble_eq_true rfl⟩) (fun r7 hr7 => ?_)
            exact W.iret (v := r7) hx hb hr (fun t ht9 hW => ⟨r7, rfl, trivial, ht9⟩) (fun q hq => by cases hq) dX11_houses_63
          · have fc6 := z_eq (rfl : (a).toInt = _) (by decide : (0 : Int32).toInt = 0) c6
            refine lv_aload_n hx hb dX11_houses_44 rfl (lv_at hl 1 rfl) ?_
            refine gX_11_8 hx hb ht hown hK hP m_423 dX11_houses_45 ?_
            refine lv_iload_n hx hb dX11_houses_48 rfl (lv_at hl 0 rfl) ?_
            refine vp_callSi (W.runV (As := [.int r4]) (rest := []) ⟨hx, hb, hml, hown, ht⟩ (c_X4_leastWithout l dC dI h g ca iv lv fa la hI r4) (kV 1 ht m_1068 m_1057 m_1058 m_87 m_1059 rfl rfl hd_X4_leastWithout_v ⟨Nat.le_of_ble_eq_true rfl, Nat.le_of_ble_eq_true rfl⟩) (vR hP hK (rX_4 hK hP)) rfl rfl hl.1 rfl (lv_room (Nat.le_of_ble_eq_true rfl)) dX11_houses_49 ⟨Nat.le_of_ble_eq_true rfl, Nat.le_of_ble_eq_true rfl⟩) (fun r8 hr8 => ?_)
            refine lv_goto (tgt := 63) hx hb dX11_houses_52 (by decide) ?_
            exact W.iret (v := r8) hx hb hr (fun t ht9 hW => ⟨r8, rfl, trivial, ht9⟩) (fun q hq => by cases hq) dX11_houses_63
        · have fc5 := z_eq (rfl : (a).toInt = _) (by decide : (2 : Int32).toInt = 2) c5
          refine lv_iload_n hx hb dX11_houses_38 rfl (lv_at hl 0 rfl) ?_
          exact W.iret (v := r4) hx hb hr (fun t ht9 hW => ⟨r4, rfl, trivial, ht9⟩) (fun q hq => by cases hq) dX11_houses_39
      · have fc3 := z_eq (rfl : ((iv 4 2)).toInt = _) (by decide : (0 : Int32).toInt = 0) c3
        refine lv_ldc hx hb hown (ht _ m_457) dX11_houses_22 ?_
        exact W.iret (v := (-100003)) hx hb hr (fun t ht9 hW => ⟨(-100003), rfl, trivial, ht9⟩) (fun q hq => by cases hq) dX11_houses_24
    · exact absurd c2 (by decide)
  · skip
    refine lv_if_ne (tgt := 12) hx hb dX11_houses_6 (by decide) (fun c9 => ?_) (fun c9 => ?_)
    · exact absurd rfl c9
    · skip
      refine lv_ldc hx hb hown (ht _ m_456) dX11_houses_9 ?_
      exact W.iret (v := (-100002)) hx hb hr (fun t ht9 hW => ⟨(-100002), rfl, trivial, ht9⟩) (fun q hq => by cases hq) dX11_houses_11
