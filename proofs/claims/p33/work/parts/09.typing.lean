theorem yi_X0_init : Yi yX0_init RX0 cX0_init 1 0 := ⟨⟨mw_1_217, mw_1_10, mw_1_218⟩, rfl, rfl, by decide, by decide, by decide +kernel⟩
theorem yv_X0_reset : Yv yX0_reset RX0 cX0_reset 4 (none) 3 := ⟨⟨mw_1_221, mw_1_222, mw_1_10, mw_1_223⟩, rfl, by decide, by decide, by decide +kernel⟩
theorem yv_X0_isSettled : Yv yX0_isSettled RX0 cX0_isSettled 1 ((some .boolean)) 0 := ⟨⟨mw_3_114, mw_3_115, mw_1_10, mw_3_116⟩, rfl, by decide, by decide, by decide +kernel⟩
theorem yv_X0_copyFrom : Yv yX0_copyFrom RX0 cX0_copyFrom 2 (none) 1 := ⟨⟨mw_2_131, mw_2_132, mw_1_10, mw_2_133⟩, rfl, by decide, by decide, by decide +kernel⟩
theorem yi_X1_init : Yi yX1_init RX1 cX1_init 2 1 := ⟨⟨mw_1_187, mw_1_9, mw_1_188⟩, rfl, rfl, by decide, by decide, by decide +kernel⟩
theorem yv_X1_reset : Yv yX1_reset RX1 cX1_reset 3 (none) 2 := ⟨⟨mw_1_191, mw_1_192, mw_1_9, mw_1_193⟩, rfl, by decide, by decide, by decide +kernel⟩
theorem yv_X1_copyFrom : Yv yX1_copyFrom RX1 cX1_copyFrom 2 (none) 1 := ⟨⟨mw_2_127, mw_2_128, mw_1_9, mw_2_129⟩, rfl, by decide, by decide, by decide +kernel⟩
theorem yi_X2_init : Yi yX2_init RX2 cX2_init 4 2 := ⟨⟨mw_2_64, mw_1_11, mw_2_65⟩, rfl, rfl, by decide, by decide, by decide +kernel⟩
theorem yv_X2_push : Yv yX2_push RX2 cX2_push 2 (none) 1 := ⟨⟨mw_2_99, mw_2_100, mw_1_11, mw_2_101⟩, rfl, by decide, by decide, by decide +kernel⟩
theorem yv_X2_dropOldest : Yv yX2_dropOldest RX2 cX2_dropOldest 3 (none) 0 := ⟨⟨mw_2_104, mw_p_1, mw_1_11, mw_2_105⟩, rfl, by decide, by decide, by decide +kernel⟩
theorem yv_X2_pop : Yv yX2_pop RX2 cX2_pop 2 (none) 1 := ⟨⟨mw_3_198, mw_3_199, mw_1_11, mw_3_200⟩, rfl, by decide, by decide, by decide +kernel⟩
theorem yi_X3_init : Yi yX3_init RX3 cX3_init 1 0 := ⟨⟨mw_1_26, mw_1_2, mw_1_27⟩, rfl, rfl, by decide, by decide, by decide +kernel⟩
theorem yv_X3_between : Yv yX3_between RX3 cX3_between 7 ((some .int)) 2 := ⟨⟨mw_3_75, mw_3_76, mw_1_2, mw_3_77⟩, rfl, by decide, by decide, by decide +kernel⟩
theorem yv_X3_match : Yv yX3_match RX3 cX3_match 4 ((some .int)) 2 := ⟨⟨mw_3_70, mw_3_71, mw_1_2, mw_3_72⟩, rfl, by decide, by decide, by decide +kernel⟩
theorem yi_X4_init : Yi yX4_init RX4 cX4_init 4 2 := ⟨⟨mw_1_180, mw_1_8, mw_1_181⟩, rfl, rfl, by decide, by decide, by decide +kernel⟩
theorem yv_X4_hasEntry : Yv yX4_hasEntry RX4 cX4_hasEntry 2 ((some .boolean)) 1 := ⟨⟨mw_3_85, mw_3_86, mw_1_8, mw_3_87⟩, rfl, by decide, by decide, by decide +kernel⟩
theorem yv_X4_hasDispute : Yv yX4_hasDispute RX4 cX4_hasDispute 2 ((some .boolean)) 1 := ⟨⟨mw_3_180, mw_3_181, mw_1_8, mw_3_182⟩, rfl, by decide, by decide, by decide +kernel⟩
theorem yv_X4_alikeEntry : Yv yX4_alikeEntry RX4 cX4_alikeEntry 3 ((some .int)) 1 := ⟨⟨mw_2_234, mw_2_235, mw_1_8, mw_2_236⟩, rfl, by decide, by decide, by decide +kernel⟩
theorem yv_X4_addEntry : Yv yX4_addEntry RX4 cX4_addEntry 3 ((some .int)) 2 := ⟨⟨mw_3_2, mw_3_3, mw_1_8, mw_3_4⟩, rfl, by decide, by decide, by decide +kernel⟩
theorem yv_X4_distanceTo : Yv yX4_distanceTo RX4 cX4_distanceTo 3 ((some .int)) 2 := ⟨⟨mw_4_31, mw_4_32, mw_1_8, mw_4_33⟩, rfl, by decide, by decide, by decide +kernel⟩
theorem yv_X4_bestMatch : Yv yX4_bestMatch RX4 cX4_bestMatch 4 ((some .int)) 1 := ⟨⟨mw_3_66, mw_3_67, mw_1_8, mw_3_68⟩, rfl, by decide, by decide, by decide +kernel⟩
theorem yv_X4_bestEntry : Yv yX4_bestEntry RX4 cX4_bestEntry 4 ((some .int)) 1 := ⟨⟨mw_4_15, mw_4_16, mw_1_8, mw_4_17⟩, rfl, by decide, by decide, by decide +kernel⟩
theorem yv_X4_fillFromEntries : Yv yX4_fillFromEntries RX4 cX4_fillFromEntries 4 (none) 1 := ⟨⟨mw_3_80, mw_3_81, mw_1_8, mw_3_82⟩, rfl, by decide, by decide, by decide +kernel⟩
theorem yv_X4_isSettledOtherwise : Yv yX4_isSettledOtherwise RX4 cX4_isSettledOtherwise 4 ((some .boolean)) 2 := ⟨⟨mw_3_98, mw_3_99, mw_1_8, mw_3_100⟩, rfl, by decide, by decide, by decide +kernel⟩
theorem yv_X4_hasRoomFor : Yv yX4_hasRoomFor RX4 cX4_hasRoomFor 4 ((some .boolean)) 2 := ⟨⟨mw_3_102, mw_3_103, mw_1_8, mw_3_104⟩, rfl, by decide, by decide, by decide +kernel⟩
theorem yv_X4_learn : Yv yX4_learn RX4 cX4_learn 4 (none) 2 := ⟨⟨mw_3_119, mw_3_120, mw_1_8, mw_3_121⟩, rfl, by decide, by decide, by decide +kernel⟩
theorem yv_X4_needsDispute : Yv yX4_needsDispute RX4 cX4_needsDispute 3 ((some .boolean)) 2 := ⟨⟨mw_3_107, mw_p_3, mw_1_8, mw_3_108⟩, rfl, by decide, by decide, by decide +kernel⟩
theorem yv_X4_openDispute : Yv yX4_openDispute RX4 cX4_openDispute 3 ((some .int)) 1 := ⟨⟨mw_3_110, mw_3_111, mw_1_8, mw_3_112⟩, rfl, by decide, by decide, by decide +kernel⟩
theorem yv_X4_isDisputed : Yv yX4_isDisputed RX4 cX4_isDisputed 3 ((some .boolean)) 1 := ⟨⟨mw_3_147, mw_3_148, mw_1_8, mw_3_149⟩, rfl, by decide, by decide, by decide +kernel⟩
theorem yv_X4_countOpenDisputes : Yv yX4_countOpenDisputes RX4 cX4_countOpenDisputes 3 ((some .int)) 0 := ⟨⟨mw_4_82, mw_4_83, mw_1_8, mw_4_84⟩, rfl, by decide, by decide, by decide +kernel⟩
theorem yv_X4_copyFrom : Yv yX4_copyFrom RX4 cX4_copyFrom 3 (none) 1 := ⟨⟨mw_2_123, mw_2_124, mw_1_8, mw_2_125⟩, rfl, by decide, by decide, by decide +kernel⟩
theorem yi_X5_init : Yi yX5_init RX5 cX5_init 1 0 := ⟨⟨mw_1_96, mw_1_6, mw_1_97⟩, rfl, rfl, by decide, by decide, by decide +kernel⟩
theorem yv_X5_reset : Yv yX5_reset RX5 cX5_reset 2 (none) 1 := ⟨⟨mw_1_100, mw_1_101, mw_1_6, mw_1_102⟩, rfl, by decide, by decide, by decide +kernel⟩
theorem yv_X5_isBarredFrom : Yv yX5_isBarredFrom RX5 cX5_isBarredFrom 2 ((some .boolean)) 1 := ⟨⟨mw_2_148, mw_2_149, mw_1_6, mw_2_150⟩, rfl, by decide, by decide, by decide +kernel⟩
theorem yv_X5_setBarredFrom : Yv yX5_setBarredFrom RX5 cX5_setBarredFrom 3 (none) 2 := ⟨⟨mw_2_152, mw_2_153, mw_1_6, mw_2_154⟩, rfl, by decide, by decide, by decide +kernel⟩
theorem yv_X5_copyFrom : Yv yX5_copyFrom RX5 cX5_copyFrom 2 (none) 1 := ⟨⟨mw_2_111, mw_2_112, mw_1_6, mw_2_113⟩, rfl, by decide, by decide, by decide +kernel⟩
theorem yi_X6_init : Yi yX6_init RX6 cX6_init 5 1 := ⟨⟨mw_1_37, mw_1_3, mw_1_38⟩, rfl, rfl, by decide, by decide, by decide +kernel⟩
theorem yv_X6_addWord : Yv yX6_addWord RX6 cX6_addWord 3 (none) 1 := ⟨⟨mw_1_42, mw_p_0, mw_1_3, mw_1_43⟩, rfl, by decide, by decide, by decide +kernel⟩
theorem yv_X6_isAlike : Yv yX6_isAlike RX6 cX6_isAlike 3 ((some .boolean)) 1 := ⟨⟨mw_2_238, mw_2_239, mw_1_3, mw_3_0⟩, rfl, by decide, by decide, by decide +kernel⟩
theorem yi_X7_init : Yi yX7_init RX7 cX7_init 4 2 := ⟨⟨mw_1_80, mw_1_5, mw_1_81⟩, rfl, rfl, by decide, by decide, by decide +kernel⟩
theorem yv_X7_hasPerson : Yv yX7_hasPerson RX7 cX7_hasPerson 2 ((some .boolean)) 1 := ⟨⟨mw_2_144, mw_2_145, mw_1_5, mw_2_146⟩, rfl, by decide, by decide, by decide +kernel⟩
theorem yv_X7_hasFile : Yv yX7_hasFile RX7 cX7_hasFile 2 ((some .boolean)) 1 := ⟨⟨mw_2_194, mw_2_195, mw_1_5, mw_2_196⟩, rfl, by decide, by decide, by decide +kernel⟩
theorem yv_X7_hasSegment : Yv yX7_hasSegment RX7 cX7_hasSegment 3 ((some .boolean)) 2 := ⟨⟨mw_3_94, mw_3_95, mw_1_5, mw_3_96⟩, rfl, by decide, by decide, by decide +kernel⟩
theorem yv_X7_hire : Yv yX7_hire RX7 cX7_hire 2 ((some .int)) 1 := ⟨⟨mw_2_135, mw_2_136, mw_1_5, mw_2_137⟩, rfl, by decide, by decide, by decide +kernel⟩
theorem yv_X7_addFile : Yv yX7_addFile RX7 cX7_addFile 1 ((some .int)) 0 := ⟨⟨mw_2_185, mw_2_186, mw_1_5, mw_2_187⟩, rfl, by decide, by decide, by decide +kernel⟩
theorem yv_X7_placeOf : Yv yX7_placeOf RX7 cX7_placeOf 3 ((some .int)) 1 := ⟨⟨mw_3_15, mw_3_16, mw_1_5, mw_3_17⟩, rfl, by decide, by decide, by decide +kernel⟩
theorem yv_X7_exchangePlaces : Yv yX7_exchangePlaces RX7 cX7_exchangePlaces 4 (none) 2 := ⟨⟨mw_3_11, mw_3_12, mw_1_5, mw_3_13⟩, rfl, by decide, by decide, by decide +kernel⟩
theorem yv_X7_repeatSource : Yv yX7_repeatSource RX7 cX7_repeatSource 8 ((some .int)) 2 := ⟨⟨mw_3_51, mw_3_52, mw_1_5, mw_3_53⟩, rfl, by decide, by decide, by decide +kernel⟩
theorem yv_X7_bandOf : Yv yX7_bandOf RX7 cX7_bandOf 4 ((some .int)) 2 := ⟨⟨mw_3_47, mw_3_48, mw_1_5, mw_3_49⟩, rfl, by decide, by decide, by decide +kernel⟩
theorem yv_X7_sumBandWords : Yv yX7_sumBandWords RX7 cX7_sumBandWords 3 (none) 1 := ⟨⟨mw_3_43, mw_3_44, mw_1_5, mw_3_45⟩, rfl, by decide, by decide, by decide +kernel⟩
theorem yv_X7_priceFor : Yv yX7_priceFor RX7 cX7_priceFor 5 ((some .int)) 2 := ⟨⟨mw_3_39, mw_3_40, mw_1_5, mw_3_41⟩, rfl, by decide, by decide, by decide +kernel⟩
theorem yv_X7_spreadTarget : Yv yX7_spreadTarget RX7 cX7_spreadTarget 5 ((some .int)) 2 := ⟨⟨mw_3_125, mw_3_126, mw_1_5, mw_3_127⟩, rfl, by decide, by decide, by decide +kernel⟩
theorem yv_X7_decide : Yv yX7_decide RX7 cX7_decide 7 ((some .int)) 2 := ⟨⟨mw_3_185, mw_3_186, mw_1_5, mw_3_187⟩, rfl, by decide, by decide, by decide +kernel⟩
theorem yv_X7_mayReview : Yv yX7_mayReview RX7 cX7_mayReview 4 ((some .boolean)) 2 := ⟨⟨mw_3_137, mw_3_138, mw_1_5, mw_3_139⟩, rfl, by decide, by decide, by decide +kernel⟩
theorem yv_X7_isReadyForReview : Yv yX7_isReadyForReview RX7 cX7_isReadyForReview 4 ((some .boolean)) 1 := ⟨⟨mw_3_143, mw_3_144, mw_1_5, mw_3_145⟩, rfl, by decide, by decide, by decide +kernel⟩
theorem yv_X7_giveToReviewer : Yv yX7_giveToReviewer RX7 cX7_giveToReviewer 4 (none) 2 := ⟨⟨mw_3_151, mw_3_152, mw_1_5, mw_3_153⟩, rfl, by decide, by decide, by decide +kernel⟩
theorem yv_X7_countTranslating : Yv yX7_countTranslating RX7 cX7_countTranslating 5 ((some .int)) 1 := ⟨⟨mw_3_215, mw_3_216, mw_1_5, mw_3_217⟩, rfl, by decide, by decide, by decide +kernel⟩
theorem yv_X7_countReviewing : Yv yX7_countReviewing RX7 cX7_countReviewing 4 ((some .int)) 1 := ⟨⟨mw_3_223, mw_3_224, mw_1_5, mw_3_225⟩, rfl, by decide, by decide, by decide +kernel⟩
theorem yv_X7_wordsTranslated : Yv yX7_wordsTranslated RX7 cX7_wordsTranslated 4 ((some .int)) 1 := ⟨⟨mw_3_231, mw_3_232, mw_1_5, mw_3_233⟩, rfl, by decide, by decide, by decide +kernel⟩
theorem yv_X7_wordsReviewed : Yv yX7_wordsReviewed RX7 cX7_wordsReviewed 4 ((some .int)) 1 := ⟨⟨mw_3_236, mw_3_237, mw_1_5, mw_3_238⟩, rfl, by decide, by decide, by decide +kernel⟩
theorem yv_X7_paidTo : Yv yX7_paidTo RX7 cX7_paidTo 4 ((some .int)) 1 := ⟨⟨mw_4_0, mw_4_1, mw_1_5, mw_4_2⟩, rfl, by decide, by decide, by decide +kernel⟩
theorem yv_X7_paidInAll : Yv yX7_paidInAll RX7 cX7_paidInAll 3 ((some .int)) 0 := ⟨⟨mw_4_94, mw_4_95, mw_1_5, mw_4_96⟩, rfl, by decide, by decide, by decide +kernel⟩
theorem yv_X7_countInHand : Yv yX7_countInHand RX7 cX7_countInHand 3 ((some .int)) 0 := ⟨⟨mw_4_78, mw_4_79, mw_1_5, mw_4_80⟩, rfl, by decide, by decide, by decide +kernel⟩
theorem yv_X7_wordsInHand : Yv yX7_wordsInHand RX7 cX7_wordsInHand 3 ((some .int)) 0 := ⟨⟨mw_4_86, mw_4_87, mw_1_5, mw_4_88⟩, rfl, by decide, by decide, by decide +kernel⟩
theorem yv_X7_wordsDelivered : Yv yX7_wordsDelivered RX7 cX7_wordsDelivered 3 ((some .int)) 0 := ⟨⟨mw_4_90, mw_4_91, mw_1_5, mw_4_92⟩, rfl, by decide, by decide, by decide +kernel⟩
theorem yv_X7_countInHandWithoutTarget : Yv yX7_countInHandWithoutTarget RX7 cX7_countInHandWithoutTarget 3 ((some .int)) 0 := ⟨⟨mw_4_99, mw_4_100, mw_1_5, mw_4_101⟩, rfl, by decide, by decide, by decide +kernel⟩
theorem yv_X7_countInWay : Yv yX7_countInWay RX7 cX7_countInWay 4 ((some .int)) 1 := ⟨⟨mw_4_104, mw_4_105, mw_1_5, mw_4_106⟩, rfl, by decide, by decide, by decide +kernel⟩
theorem yv_X7_countAlikeInHand : Yv yX7_countAlikeInHand RX7 cX7_countAlikeInHand 4 ((some .int)) 1 := ⟨⟨mw_4_58, mw_4_59, mw_1_5, mw_4_60⟩, rfl, by decide, by decide, by decide +kernel⟩
theorem yv_X7_copyFrom : Yv yX7_copyFrom RX7 cX7_copyFrom 3 (none) 1 := ⟨⟨mw_2_107, mw_2_108, mw_1_5, mw_2_109⟩, rfl, by decide, by decide, by decide +kernel⟩
theorem yi_X8_init : Yi yX8_init RX8 cX8_init 1 0 := ⟨⟨mw_1_66, mw_1_4, mw_1_67⟩, rfl, rfl, by decide, by decide, by decide +kernel⟩
theorem yv_X8_append : Yv yX8_append RX8 cX8_append 2 (none) 1 := ⟨⟨mw_2_173, mw_2_174, mw_1_4, mw_2_175⟩, rfl, by decide, by decide, by decide +kernel⟩
theorem yv_X8_fault : Yv yX8_fault RX8 cX8_fault 5 ((some .int)) 0 := ⟨⟨mw_2_198, mw_2_199, mw_1_4, mw_2_200⟩, rfl, by decide, by decide, by decide +kernel⟩
theorem yv_X8_segmentCount : Yv yX8_segmentCount RX8 cX8_segmentCount 3 ((some .int)) 0 := ⟨⟨mw_2_202, mw_2_203, mw_1_4, mw_2_204⟩, rfl, by decide, by decide, by decide +kernel⟩
theorem yv_X8_appendSegmentsTo : Yv yX8_appendSegmentsTo RX8 cX8_appendSegmentsTo 4 (none) 1 := ⟨⟨mw_2_206, mw_2_207, mw_1_4, mw_2_208⟩, rfl, by decide, by decide, by decide +kernel⟩
theorem yv_X8_wholeSegment : Yv yX8_wholeSegment RX8 cX8_wholeSegment 1 ((some (.object "MatchBureau$Segment"))) 0 := ⟨⟨mw_2_230, mw_2_231, mw_1_4, mw_2_232⟩, rfl, by decide, by decide, by decide +kernel⟩
theorem yv_X8_segmentBetween : Yv yX8_segmentBetween RX8 cX8_segmentBetween 5 ((some (.object "MatchBureau$Segment"))) 2 := ⟨⟨mw_2_211, mw_p_2, mw_1_4, mw_2_212⟩, rfl, by decide, by decide, by decide +kernel⟩
theorem yi_X9_init : Yi yX9_init RX9 cX9_init 3 1 := ⟨⟨mw_1_121, mw_1_7, mw_1_122⟩, rfl, rfl, by decide, by decide, by decide +kernel⟩
theorem yv_X9_reset : Yv yX9_reset RX9 cX9_reset 1 (none) 0 := ⟨⟨mw_1_127, mw_1_128, mw_1_7, mw_1_129⟩, rfl, by decide, by decide, by decide +kernel⟩
theorem yv_X9_append : Yv yX9_append RX9 cX9_append 2 (none) 1 := ⟨⟨mw_2_219, mw_2_220, mw_1_7, mw_2_221⟩, rfl, by decide, by decide, by decide +kernel⟩
theorem yv_X9_putTarget : Yv yX9_putTarget RX9 cX9_putTarget 4 (none) 3 := ⟨⟨mw_2_119, mw_2_120, mw_1_7, mw_2_121⟩, rfl, by decide, by decide, by decide +kernel⟩
theorem yv_X9_isInHand : Yv yX9_isInHand RX9 cX9_isInHand 1 ((some .boolean)) 0 := ⟨⟨mw_3_23, mw_3_24, mw_1_7, mw_3_25⟩, rfl, by decide, by decide, by decide +kernel⟩
theorem yv_X9_isTranslatedBy : Yv yX9_isTranslatedBy RX9 cX9_isTranslatedBy 2 ((some .boolean)) 1 := ⟨⟨mw_3_219, mw_3_220, mw_1_7, mw_3_221⟩, rfl, by decide, by decide, by decide +kernel⟩
theorem yv_X9_isReviewedBy : Yv yX9_isReviewedBy RX9 cX9_isReviewedBy 2 ((some .boolean)) 1 := ⟨⟨mw_3_227, mw_3_228, mw_1_7, mw_3_229⟩, rfl, by decide, by decide, by decide +kernel⟩
theorem yv_X9_countWords : Yv yX9_countWords RX9 cX9_countWords 3 ((some .int)) 0 := ⟨⟨mw_3_172, mw_3_173, mw_1_7, mw_3_174⟩, rfl, by decide, by decide, by decide +kernel⟩
theorem yv_X9_countWithoutTarget : Yv yX9_countWithoutTarget RX9 cX9_countWithoutTarget 1 ((some .int)) 0 := ⟨⟨mw_3_27, mw_3_28, mw_1_7, mw_3_29⟩, rfl, by decide, by decide, by decide +kernel⟩
theorem yv_X9_countInWay : Yv yX9_countInWay RX9 cX9_countInWay 4 ((some .int)) 1 := ⟨⟨mw_3_31, mw_3_32, mw_1_7, mw_3_33⟩, rfl, by decide, by decide, by decide +kernel⟩
theorem yv_X9_countAlike : Yv yX9_countAlike RX9 cX9_countAlike 4 ((some .int)) 1 := ⟨⟨mw_4_62, mw_4_63, mw_1_7, mw_4_64⟩, rfl, by decide, by decide, by decide +kernel⟩
theorem yv_X9_lastAlike : Yv yX9_lastAlike RX9 cX9_lastAlike 4 ((some .int)) 2 := ⟨⟨mw_3_56, mw_3_57, mw_1_7, mw_3_58⟩, rfl, by decide, by decide, by decide +kernel⟩
theorem yv_X9_reviewPay : Yv yX9_reviewPay RX9 cX9_reviewPay 1 ((some .int)) 0 := ⟨⟨mw_3_168, mw_3_169, mw_1_7, mw_3_170⟩, rfl, by decide, by decide, by decide +kernel⟩
theorem yv_X9_cost : Yv yX9_cost RX9 cX9_cost 1 ((some .int)) 0 := ⟨⟨mw_3_164, mw_3_165, mw_1_7, mw_3_166⟩, rfl, by decide, by decide, by decide +kernel⟩
theorem yv_X9_fillAlike : Yv yX9_fillAlike RX9 cX9_fillAlike 5 ((some .int)) 2 := ⟨⟨mw_3_129, mw_3_130, mw_1_7, mw_3_131⟩, rfl, by decide, by decide, by decide +kernel⟩
theorem yv_X9_replaceAlike : Yv yX9_replaceAlike RX9 cX9_replaceAlike 5 ((some .int)) 2 := ⟨⟨mw_3_190, mw_3_191, mw_1_7, mw_3_192⟩, rfl, by decide, by decide, by decide +kernel⟩
theorem yv_X9_copyFrom : Yv yX9_copyFrom RX9 cX9_copyFrom 3 (none) 1 := ⟨⟨mw_2_115, mw_2_116, mw_1_7, mw_2_117⟩, rfl, by decide, by decide, by decide +kernel⟩
theorem yi_X10_init : Yi yX10_init RX10 cX10_init 3 0 := ⟨⟨mw_1_18, mw_1_1, mw_1_19⟩, rfl, rfl, by decide, by decide, by decide +kernel⟩
theorem yv_X10_addPerson : Yv yX10_addPerson RX10 cX10_addPerson 2 ((some .int)) 1 := ⟨⟨mw_2_95, mw_2_96, mw_1_1, mw_2_97⟩, rfl, by decide, by decide, by decide +kernel⟩
theorem yv_X10_bar : Yv yX10_bar RX10 cX10_bar 4 ((some .int)) 3 := ⟨⟨mw_2_140, mw_2_141, mw_1_1, mw_2_142⟩, rfl, by decide, by decide, by decide +kernel⟩
theorem yv_X10_setShare : Yv yX10_setShare RX10 cX10_setShare 4 ((some .int)) 2 := ⟨⟨mw_2_162, mw_2_163, mw_1_1, mw_2_164⟩, rfl, by decide, by decide, by decide +kernel⟩
theorem yv_X10_type : Yv yX10_type RX10 cX10_type 2 ((some .int)) 1 := ⟨⟨mw_2_169, mw_2_170, mw_1_1, mw_2_171⟩, rfl, by decide, by decide, by decide +kernel⟩
theorem yv_X10_clearText : Yv yX10_clearText RX10 cX10_clearText 2 ((some .int)) 0 := ⟨⟨mw_2_177, mw_2_178, mw_1_1, mw_2_179⟩, rfl, by decide, by decide, by decide +kernel⟩
theorem yv_X10_newFile : Yv yX10_newFile RX10 cX10_newFile 1 ((some .int)) 0 := ⟨⟨mw_2_181, mw_2_182, mw_1_1, mw_2_183⟩, rfl, by decide, by decide, by decide +kernel⟩
theorem yv_X10_readSegments : Yv yX10_readSegments RX10 cX10_readSegments 4 ((some .int)) 1 := ⟨⟨mw_2_190, mw_2_191, mw_1_1, mw_2_192⟩, rfl, by decide, by decide, by decide +kernel⟩
theorem yv_X10_remember : Yv yX10_remember RX10 cX10_remember 4 ((some .int)) 1 := ⟨⟨mw_2_223, mw_2_224, mw_1_1, mw_2_225⟩, rfl, by decide, by decide, by decide +kernel⟩
theorem yv_X10_swapFiles : Yv yX10_swapFiles RX10 cX10_swapFiles 3 ((some .int)) 2 := ⟨⟨mw_3_7, mw_3_8, mw_1_1, mw_3_9⟩, rfl, by decide, by decide, by decide +kernel⟩
theorem yv_X10_withdraw : Yv yX10_withdraw RX10 cX10_withdraw 3 ((some .int)) 1 := ⟨⟨mw_3_19, mw_3_20, mw_1_1, mw_3_21⟩, rfl, by decide, by decide, by decide +kernel⟩
theorem yv_X10_take : Yv yX10_take RX10 cX10_take 4 ((some .int)) 2 := ⟨⟨mw_3_35, mw_3_36, mw_1_1, mw_3_37⟩, rfl, by decide, by decide, by decide +kernel⟩
theorem yv_X10_translate : Yv yX10_translate RX10 cX10_translate 6 ((some .int)) 3 := ⟨⟨mw_3_90, mw_3_91, mw_1_1, mw_3_92⟩, rfl, by decide, by decide, by decide +kernel⟩
theorem yv_X10_review : Yv yX10_review RX10 cX10_review 3 ((some .int)) 2 := ⟨⟨mw_3_133, mw_3_134, mw_1_1, mw_3_135⟩, rfl, by decide, by decide, by decide +kernel⟩
theorem yv_X10_reject : Yv yX10_reject RX10 cX10_reject 4 ((some .int)) 2 := ⟨⟨mw_3_156, mw_3_157, mw_1_1, mw_3_158⟩, rfl, by decide, by decide, by decide +kernel⟩
theorem yv_X10_deliver : Yv yX10_deliver RX10 cX10_deliver 3 ((some .int)) 1 := ⟨⟨mw_3_160, mw_3_161, mw_1_1, mw_3_162⟩, rfl, by decide, by decide, by decide +kernel⟩
theorem yv_X10_settle : Yv yX10_settle RX10 cX10_settle 3 ((some .int)) 2 := ⟨⟨mw_3_176, mw_3_177, mw_1_1, mw_3_178⟩, rfl, by decide, by decide, by decide +kernel⟩
theorem yv_X10_undo : Yv yX10_undo RX10 cX10_undo 1 ((some .int)) 0 := ⟨⟨mw_3_194, mw_3_195, mw_1_1, mw_3_196⟩, rfl, by decide, by decide, by decide +kernel⟩
theorem yv_X10_keep : Yv yX10_keep RX10 cX10_keep 1 ((some .int)) 0 := ⟨⟨mw_3_202, mw_3_203, mw_1_1, mw_3_204⟩, rfl, by decide, by decide, by decide +kernel⟩
theorem yv_X10_restore : Yv yX10_restore RX10 cX10_restore 1 ((some .int)) 0 := ⟨⟨mw_3_207, mw_3_208, mw_1_1, mw_3_209⟩, rfl, by decide, by decide, by decide +kernel⟩
theorem yv_X10_person : Yv yX10_person RX10 cX10_person 3 ((some .int)) 2 := ⟨⟨mw_3_211, mw_3_212, mw_1_1, mw_3_213⟩, rfl, by decide, by decide, by decide +kernel⟩
theorem yv_X10_file : Yv yX10_file RX10 cX10_file 4 ((some .int)) 2 := ⟨⟨mw_4_5, mw_4_6, mw_1_1, mw_4_7⟩, rfl, by decide, by decide, by decide +kernel⟩
theorem yv_X10_segment : Yv yX10_segment RX10 cX10_segment 6 ((some .int)) 3 := ⟨⟨mw_4_10, mw_4_11, mw_1_1, mw_4_12⟩, rfl, by decide, by decide, by decide +kernel⟩
theorem yv_X10_charAt : Yv yX10_charAt RX10 cX10_charAt 5 ((some .int)) 3 := ⟨⟨mw_4_22, mw_4_23, mw_1_1, mw_4_24⟩, rfl, by decide, by decide, by decide +kernel⟩
theorem yv_X10_distance : Yv yX10_distance RX10 cX10_distance 4 ((some .int)) 3 := ⟨⟨mw_4_26, mw_4_27, mw_1_1, mw_4_28⟩, rfl, by decide, by decide, by decide +kernel⟩
theorem yv_X10_wordsIn : Yv yX10_wordsIn RX10 cX10_wordsIn 3 ((some .int)) 2 := ⟨⟨mw_4_36, mw_4_37, mw_1_1, mw_4_38⟩, rfl, by decide, by decide, by decide +kernel⟩
theorem yv_X10_allWords : Yv yX10_allWords RX10 cX10_allWords 4 ((some .int)) 1 := ⟨⟨mw_4_41, mw_4_42, mw_1_1, mw_4_43⟩, rfl, by decide, by decide, by decide +kernel⟩
theorem yv_X10_price : Yv yX10_price RX10 cX10_price 3 ((some .int)) 2 := ⟨⟨mw_4_45, mw_4_46, mw_1_1, mw_4_47⟩, rfl, by decide, by decide, by decide +kernel⟩
theorem yv_X10_firstReviewer : Yv yX10_firstReviewer RX10 cX10_firstReviewer 3 ((some .int)) 1 := ⟨⟨mw_4_49, mw_4_50, mw_1_1, mw_4_51⟩, rfl, by decide, by decide, by decide +kernel⟩
theorem yv_X10_entry : Yv yX10_entry RX10 cX10_entry 4 ((some .int)) 2 := ⟨⟨mw_4_53, mw_4_54, mw_1_1, mw_4_55⟩, rfl, by decide, by decide, by decide +kernel⟩
theorem yv_X10_dispute : Yv yX10_dispute RX10 cX10_dispute 4 ((some .int)) 2 := ⟨⟨mw_4_66, mw_4_67, mw_1_1, mw_4_68⟩, rfl, by decide, by decide, by decide +kernel⟩
theorem yv_X10_fileAt : Yv yX10_fileAt RX10 cX10_fileAt 2 ((some .int)) 1 := ⟨⟨mw_4_70, mw_4_71, mw_1_1, mw_4_72⟩, rfl, by decide, by decide, by decide +kernel⟩
theorem yv_X10_count : Yv yX10_count RX10 cX10_count 2 ((some .int)) 1 := ⟨⟨mw_4_74, mw_4_75, mw_1_1, mw_4_76⟩, rfl, by decide, by decide, by decide +kernel⟩
theorem ys_X10_isBand : Ys yX10_isBand RX10 cX10_isBand 1 ((some .boolean)) 1 := ⟨⟨mw_2_166, mw_1_1, mw_2_167⟩, rfl, by decide, by decide, by decide +kernel⟩
theorem ys_X10_isTarget : Ys yX10_isTarget RX10 cX10_isTarget 1 ((some .boolean)) 1 := ⟨⟨mw_2_227, mw_1_1, mw_2_228⟩, rfl, by decide, by decide, by decide +kernel⟩
theorem yi_X11_init : Yi yX11_init RX11 cX11_init 1 0 := ⟨⟨mw_4_111, mw_1_12, mw_4_112⟩, rfl, rfl, by decide, by decide, by decide +kernel⟩
theorem ys_X11_in : Ys yX11_in RX11 cX11_in 3 ((some .boolean)) 3 := ⟨⟨mw_4_182, mw_1_12, mw_4_183⟩, rfl, by decide, by decide, by decide +kernel⟩
theorem yv_X11_number : Yv yX11_number RX11 cX11_number 2 ((some .int)) 1 := ⟨⟨mw_4_167, mw_p_4, mw_1_12, mw_4_168⟩, rfl, by decide, by decide, by decide +kernel⟩
theorem yv_X11_record : Yv yX11_record RX11 cX11_record 2 (none) 0 := ⟨⟨mw_4_175, mw_p_5, mw_1_12, mw_4_176⟩, rfl, by decide, by decide, by decide +kernel⟩
theorem yv_X11_undo : Yv yX11_undo RX11 cX11_undo 2 ((some .int)) 0 := ⟨⟨mw_4_158, mw_4_159, mw_1_12, mw_4_160⟩, rfl, by decide, by decide, by decide +kernel⟩
theorem yv_X11_keep : Yv yX11_keep RX11 cX11_keep 2 ((some .int)) 0 := ⟨⟨mw_4_162, mw_4_163, mw_1_12, mw_4_164⟩, rfl, by decide, by decide, by decide +kernel⟩
theorem yv_X11_restore : Yv yX11_restore RX11 cX11_restore 2 ((some .int)) 0 := ⟨⟨mw_4_170, mw_4_171, mw_1_12, mw_4_172⟩, rfl, by decide, by decide, by decide +kernel⟩
theorem yv_X11_noFile : Yv yX11_noFile RX11 cX11_noFile 2 ((some .boolean)) 1 := ⟨⟨mw_4_232, mw_p_10, mw_1_12, mw_4_233⟩, rfl, by decide, by decide, by decide +kernel⟩
theorem yv_X11_noPerson : Yv yX11_noPerson RX11 cX11_noPerson 2 ((some .boolean)) 1 := ⟨⟨mw_4_196, mw_p_7, mw_1_12, mw_4_197⟩, rfl, by decide, by decide, by decide +kernel⟩
theorem yv_X11_noEntry : Yv yX11_noEntry RX11 cX11_noEntry 2 ((some .boolean)) 1 := ⟨⟨mw_5_229, mw_p_52, mw_1_12, mw_5_230⟩, rfl, by decide, by decide, by decide +kernel⟩
theorem yv_X11_noDispute : Yv yX11_noDispute RX11 cX11_noDispute 2 ((some .boolean)) 1 := ⟨⟨mw_5_187, mw_p_48, mw_1_12, mw_5_188⟩, rfl, by decide, by decide, by decide +kernel⟩
theorem yv_X11_fileBy : Yv yX11_fileBy RX11 cX11_fileBy 2 ((some .int)) 1 := ⟨⟨mw_4_224, mw_p_9, mw_1_12, mw_4_225⟩, rfl, by decide, by decide, by decide +kernel⟩
theorem yv_X11_personBy : Yv yX11_personBy RX11 cX11_personBy 2 ((some .int)) 1 := ⟨⟨mw_4_187, mw_p_6, mw_1_12, mw_4_188⟩, rfl, by decide, by decide, by decide +kernel⟩
theorem yv_X11_disputeAt : Yv yX11_disputeAt RX11 cX11_disputeAt 2 ((some .int)) 1 := ⟨⟨mw_5_137, mw_p_40, mw_1_12, mw_5_138⟩, rfl, by decide, by decide, by decide +kernel⟩
theorem yv_X11_entryAt : Yv yX11_entryAt RX11 cX11_entryAt 2 ((some .int)) 1 := ⟨⟨mw_5_37, mw_p_20, mw_1_12, mw_5_38⟩, rfl, by decide, by decide, by decide +kernel⟩
theorem yv_X11_segmentAt : Yv yX11_segmentAt RX11 cX11_segmentAt 3 ((some .int)) 2 := ⟨⟨mw_5_21, mw_p_17, mw_1_12, mw_5_22⟩, rfl, by decide, by decide, by decide +kernel⟩
theorem yv_X11_many : Yv yX11_many RX11 cX11_many 2 ((some .int)) 1 := ⟨⟨mw_5_17, mw_p_16, mw_1_12, mw_5_18⟩, rfl, by decide, by decide, by decide +kernel⟩
theorem yv_X11_state : Yv yX11_state RX11 cX11_state 2 ((some .int)) 1 := ⟨⟨mw_5_13, mw_p_15, mw_1_12, mw_5_14⟩, rfl, by decide, by decide, by decide +kernel⟩
theorem yv_X11_isInHand : Yv yX11_isInHand RX11 cX11_isInHand 2 ((some .boolean)) 1 := ⟨⟨mw_5_61, mw_p_24, mw_1_12, mw_5_62⟩, rfl, by decide, by decide, by decide +kernel⟩
theorem yv_X11_noSegment : Yv yX11_noSegment RX11 cX11_noSegment 3 ((some .boolean)) 2 := ⟨⟨mw_5_125, mw_p_37, mw_1_12, mw_5_126⟩, rfl, by decide, by decide, by decide +kernel⟩
theorem yv_X11_addPerson : Yv yX11_addPerson RX11 cX11_addPerson 3 ((some .int)) 1 := ⟨⟨mw_4_178, mw_4_179, mw_1_12, mw_4_180⟩, rfl, by decide, by decide, by decide +kernel⟩
theorem yv_X11_areBarred : Yv yX11_areBarred RX11 cX11_areBarred 3 ((some .boolean)) 2 := ⟨⟨mw_4_200, mw_p_8, mw_1_12, mw_4_201⟩, rfl, by decide, by decide, by decide +kernel⟩
theorem ys_X11_bits : Ys yX11_bits RX11 cX11_bits 3 ((some .int)) 1 := ⟨⟨mw_4_203, mw_1_12, mw_4_204⟩, rfl, by decide, by decide, by decide +kernel⟩
theorem yv_X11_bar : Yv yX11_bar RX11 cX11_bar 4 ((some .int)) 3 := ⟨⟨mw_4_191, mw_4_192, mw_1_12, mw_4_193⟩, rfl, by decide, by decide, by decide +kernel⟩
theorem yv_X11_setShare : Yv yX11_setShare RX11 cX11_setShare 4 ((some .int)) 2 := ⟨⟨mw_4_206, mw_4_207, mw_1_12, mw_4_208⟩, rfl, by decide, by decide, by decide +kernel⟩
theorem yv_X11_type : Yv yX11_type RX11 cX11_type 2 ((some .int)) 1 := ⟨⟨mw_4_210, mw_4_211, mw_1_12, mw_4_212⟩, rfl, by decide, by decide, by decide +kernel⟩
theorem yv_X11_clearText : Yv yX11_clearText RX11 cX11_clearText 2 ((some .int)) 0 := ⟨⟨mw_4_214, mw_4_215, mw_1_12, mw_4_216⟩, rfl, by decide, by decide, by decide +kernel⟩
theorem yv_X11_isLetter : Yv yX11_isLetter RX11 cX11_isLetter 1 ((some .boolean)) 0 := ⟨⟨mw_5_8, mw_p_14, mw_1_12, mw_5_9⟩, rfl, by decide, by decide, by decide +kernel⟩
theorem yv_X11_readsWord : Yv yX11_readsWord RX11 cX11_readsWord 4 ((some .long)) 0 := ⟨⟨mw_5_4, mw_p_13, mw_1_12, mw_5_5⟩, rfl, by decide, by decide, by decide +kernel⟩
theorem yv_X11_readsSegment : Yv yX11_readsSegment RX11 cX11_readsSegment 6 ((some .boolean)) 0 := ⟨⟨mw_5_0, mw_p_12, mw_1_12, mw_5_1⟩, rfl, by decide, by decide, by decide +kernel⟩
theorem yv_X11_readsText : Yv yX11_readsText RX11 cX11_readsText 2 ((some .int)) 0 := ⟨⟨mw_4_236, mw_p_11, mw_1_12, mw_4_237⟩, rfl, by decide, by decide, by decide +kernel⟩
theorem yv_X11_areAlike : Yv yX11_areAlike RX11 cX11_areAlike 5 ((some .boolean)) 2 := ⟨⟨mw_5_94, mw_p_31, mw_1_12, mw_5_95⟩, rfl, by decide, by decide, by decide +kernel⟩
theorem yv_X11_entryLike : Yv yX11_entryLike RX11 cX11_entryLike 3 ((some .int)) 1 := ⟨⟨mw_5_113, mw_p_35, mw_1_12, mw_5_114⟩, rfl, by decide, by decide, by decide +kernel⟩
theorem ys_X11_least : Ys yX11_least RX11 cX11_least 4 ((some .int)) 3 := ⟨⟨mw_5_109, mw_1_12, mw_5_110⟩, rfl, by decide, by decide, by decide +kernel⟩
theorem yv_X11_apart : Yv yX11_apart RX11 cX11_apart 8 ((some .int)) 2 := ⟨⟨mw_5_106, mw_p_34, mw_1_12, mw_5_107⟩, rfl, by decide, by decide, by decide +kernel⟩
theorem yv_X11_matchOf : Yv yX11_matchOf RX11 cX11_matchOf 6 ((some .int)) 2 := ⟨⟨mw_5_102, mw_p_33, mw_1_12, mw_5_103⟩, rfl, by decide, by decide, by decide +kernel⟩
theorem yv_X11_match : Yv yX11_match RX11 cX11_match 5 ((some .int)) 1 := ⟨⟨mw_5_98, mw_p_32, mw_1_12, mw_5_99⟩, rfl, by decide, by decide, by decide +kernel⟩
theorem yv_X11_bestEntry : Yv yX11_bestEntry RX11 cX11_bestEntry 6 ((some .int)) 1 := ⟨⟨mw_5_211, mw_p_51, mw_1_12, mw_5_212⟩, rfl, by decide, by decide, by decide +kernel⟩
theorem yv_X11_fileIn : Yv yX11_fileIn RX11 cX11_fileIn 2 ((some .int)) 1 := ⟨⟨mw_5_53, mw_p_23, mw_1_12, mw_5_54⟩, rfl, by decide, by decide, by decide +kernel⟩
theorem yv_X11_placeOf : Yv yX11_placeOf RX11 cX11_placeOf 3 ((some .int)) 1 := ⟨⟨mw_5_49, mw_p_22, mw_1_12, mw_5_50⟩, rfl, by decide, by decide, by decide +kernel⟩
theorem yv_X11_nearest : Yv yX11_nearest RX11 cX11_nearest 9 ((some .int)) 2 := ⟨⟨mw_5_90, mw_p_30, mw_1_12, mw_5_91⟩, rfl, by decide, by decide, by decide +kernel⟩
theorem yv_X11_bandOf : Yv yX11_bandOf RX11 cX11_bandOf 4 ((some .int)) 2 := ⟨⟨mw_5_86, mw_p_29, mw_1_12, mw_5_87⟩, rfl, by decide, by decide, by decide +kernel⟩
theorem yv_X11_wordsBy : Yv yX11_wordsBy RX11 cX11_wordsBy 5 ((some .int)) 2 := ⟨⟨mw_5_82, mw_p_28, mw_1_12, mw_5_83⟩, rfl, by decide, by decide, by decide +kernel⟩
theorem yv_X11_words : Yv yX11_words RX11 cX11_words 4 ((some .int)) 1 := ⟨⟨mw_5_175, mw_p_46, mw_1_12, mw_5_176⟩, rfl, by decide, by decide, by decide +kernel⟩
theorem yv_X11_priceOf : Yv yX11_priceOf RX11 cX11_priceOf 5 ((some .int)) 2 := ⟨⟨mw_5_78, mw_p_27, mw_1_12, mw_5_79⟩, rfl, by decide, by decide, by decide +kernel⟩
theorem yv_X11_newFile : Yv yX11_newFile RX11 cX11_newFile 2 ((some .int)) 0 := ⟨⟨mw_4_218, mw_4_219, mw_1_12, mw_4_220⟩, rfl, by decide, by decide, by decide +kernel⟩
theorem yv_X11_lay : Yv yX11_lay RX11 cX11_lay 4 (none) 2 := ⟨⟨mw_5_25, mw_p_18, mw_1_12, mw_5_26⟩, rfl, by decide, by decide, by decide +kernel⟩
theorem yv_X11_readSegments : Yv yX11_readSegments RX11 cX11_readSegments 6 ((some .int)) 1 := ⟨⟨mw_4_227, mw_4_228, mw_1_12, mw_4_229⟩, rfl, by decide, by decide, by decide +kernel⟩
theorem yv_X11_isRemembered : Yv yX11_isRemembered RX11 cX11_isRemembered 5 ((some .boolean)) 0 := ⟨⟨mw_5_33, mw_p_19, mw_1_12, mw_5_34⟩, rfl, by decide, by decide, by decide +kernel⟩
theorem yv_X11_newEntry : Yv yX11_newEntry RX11 cX11_newEntry 3 ((some .int)) 1 := ⟨⟨mw_5_41, mw_p_21, mw_1_12, mw_5_42⟩, rfl, by decide, by decide, by decide +kernel⟩
theorem yv_X11_remember : Yv yX11_remember RX11 cX11_remember 4 ((some .int)) 1 := ⟨⟨mw_5_28, mw_5_29, mw_1_12, mw_5_30⟩, rfl, by decide, by decide, by decide +kernel⟩
theorem yv_X11_swapFiles : Yv yX11_swapFiles RX11 cX11_swapFiles 5 ((some .int)) 2 := ⟨⟨mw_5_44, mw_5_45, mw_1_12, mw_5_46⟩, rfl, by decide, by decide, by decide +kernel⟩
theorem yv_X11_hasTarget : Yv yX11_hasTarget RX11 cX11_hasTarget 2 ((some .boolean)) 1 := ⟨⟨mw_5_70, mw_p_26, mw_1_12, mw_5_71⟩, rfl, by decide, by decide, by decide +kernel⟩
theorem yv_X11_withTarget : Yv yX11_withTarget RX11 cX11_withTarget 4 ((some .int)) 1 := ⟨⟨mw_5_66, mw_p_25, mw_1_12, mw_5_67⟩, rfl, by decide, by decide, by decide +kernel⟩
theorem yv_X11_withdraw : Yv yX11_withdraw RX11 cX11_withdraw 2 ((some .int)) 1 := ⟨⟨mw_5_56, mw_5_57, mw_1_12, mw_5_58⟩, rfl, by decide, by decide, by decide +kernel⟩
theorem yv_X11_give : Yv yX11_give RX11 cX11_give 4 (none) 3 := ⟨⟨mw_5_117, mw_p_36, mw_1_12, mw_5_118⟩, rfl, by decide, by decide, by decide +kernel⟩
theorem yv_X11_take : Yv yX11_take RX11 cX11_take 7 ((some .int)) 2 := ⟨⟨mw_5_73, mw_5_74, mw_1_12, mw_5_75⟩, rfl, by decide, by decide, by decide +kernel⟩
theorem yv_X11_openDispute : Yv yX11_openDispute RX11 cX11_openDispute 3 ((some .int)) 1 := ⟨⟨mw_5_133, mw_p_39, mw_1_12, mw_5_134⟩, rfl, by decide, by decide, by decide +kernel⟩
theorem yv_X11_isSettled : Yv yX11_isSettled RX11 cX11_isSettled 2 ((some .boolean)) 1 := ⟨⟨mw_5_129, mw_p_38, mw_1_12, mw_5_130⟩, rfl, by decide, by decide, by decide +kernel⟩
theorem yv_X11_spread : Yv yX11_spread RX11 cX11_spread 6 ((some .int)) 1 := ⟨⟨mw_5_145, mw_p_42, mw_1_12, mw_5_146⟩, rfl, by decide, by decide, by decide +kernel⟩
theorem yv_X11_newDispute : Yv yX11_newDispute RX11 cX11_newDispute 4 (none) 2 := ⟨⟨mw_5_141, mw_p_41, mw_1_12, mw_5_142⟩, rfl, by decide, by decide, by decide +kernel⟩
theorem yv_X11_translate : Yv yX11_translate RX11 cX11_translate 10 ((some .int)) 3 := ⟨⟨mw_5_120, mw_5_121, mw_1_12, mw_5_122⟩, rfl, by decide, by decide, by decide +kernel⟩
theorem yv_X11_mayReview : Yv yX11_mayReview RX11 cX11_mayReview 4 ((some .boolean)) 2 := ⟨⟨mw_5_157, mw_p_44, mw_1_12, mw_5_158⟩, rfl, by decide, by decide, by decide +kernel⟩
theorem yv_X11_isReady : Yv yX11_isReady RX11 cX11_isReady 6 ((some .boolean)) 1 := ⟨⟨mw_5_153, mw_p_43, mw_1_12, mw_5_154⟩, rfl, by decide, by decide, by decide +kernel⟩
theorem yv_X11_inWay : Yv yX11_inWay RX11 cX11_inWay 5 ((some .int)) 2 := ⟨⟨mw_5_162, mw_p_45, mw_1_12, mw_5_163⟩, rfl, by decide, by decide, by decide +kernel⟩
theorem yv_X11_review : Yv yX11_review RX11 cX11_review 3 ((some .int)) 2 := ⟨⟨mw_5_148, mw_5_149, mw_1_12, mw_5_150⟩, rfl, by decide, by decide, by decide +kernel⟩
theorem yv_X11_reject : Yv yX11_reject RX11 cX11_reject 3 ((some .int)) 2 := ⟨⟨mw_5_165, mw_5_166, mw_1_12, mw_5_167⟩, rfl, by decide, by decide, by decide +kernel⟩
theorem yv_X11_cost : Yv yX11_cost RX11 cX11_cost 3 ((some .int)) 1 := ⟨⟨mw_5_179, mw_p_47, mw_1_12, mw_5_180⟩, rfl, by decide, by decide, by decide +kernel⟩
theorem yv_X11_deliver : Yv yX11_deliver RX11 cX11_deliver 5 ((some .int)) 1 := ⟨⟨mw_5_169, mw_5_170, mw_1_12, mw_5_171⟩, rfl, by decide, by decide, by decide +kernel⟩
theorem yv_X11_settleAll : Yv yX11_settleAll RX11 cX11_settleAll 7 ((some .int)) 2 := ⟨⟨mw_5_191, mw_p_49, mw_1_12, mw_5_192⟩, rfl, by decide, by decide, by decide +kernel⟩
theorem yv_X11_settle : Yv yX11_settle RX11 cX11_settle 6 ((some .int)) 2 := ⟨⟨mw_5_182, mw_5_183, mw_1_12, mw_5_184⟩, rfl, by decide, by decide, by decide +kernel⟩
theorem yv_X11_filesOf : Yv yX11_filesOf RX11 cX11_filesOf 7 ((some .int)) 4 := ⟨⟨mw_5_199, mw_p_50, mw_1_12, mw_5_200⟩, rfl, by decide, by decide, by decide +kernel⟩
theorem yv_X11_person : Yv yX11_person RX11 cX11_person 4 ((some .int)) 2 := ⟨⟨mw_5_194, mw_5_195, mw_1_12, mw_5_196⟩, rfl, by decide, by decide, by decide +kernel⟩
theorem yv_X11_file : Yv yX11_file RX11 cX11_file 4 ((some .int)) 2 := ⟨⟨mw_5_202, mw_5_203, mw_1_12, mw_5_204⟩, rfl, by decide, by decide, by decide +kernel⟩
theorem yv_X11_segment : Yv yX11_segment RX11 cX11_segment 5 ((some .int)) 3 := ⟨⟨mw_5_206, mw_5_207, mw_1_12, mw_5_208⟩, rfl, by decide, by decide, by decide +kernel⟩
theorem ys_X11_lettersOf : Ys yX11_lettersOf RX11 cX11_lettersOf 5 ((some .int)) 1 := ⟨⟨mw_5_218, mw_1_12, mw_5_219⟩, rfl, by decide, by decide, by decide +kernel⟩
theorem ys_X11_letter : Ys yX11_letter RX11 cX11_letter 6 ((some .int)) 2 := ⟨⟨mw_5_221, mw_1_12, mw_5_222⟩, rfl, by decide, by decide, by decide +kernel⟩
theorem yv_X11_charAt : Yv yX11_charAt RX11 cX11_charAt 8 ((some .int)) 3 := ⟨⟨mw_5_214, mw_5_215, mw_1_12, mw_5_216⟩, rfl, by decide, by decide, by decide +kernel⟩
theorem yv_X11_distance : Yv yX11_distance RX11 cX11_distance 4 ((some .int)) 3 := ⟨⟨mw_5_224, mw_5_225, mw_1_12, mw_5_226⟩, rfl, by decide, by decide, by decide +kernel⟩
theorem yv_X11_wordsIn : Yv yX11_wordsIn RX11 cX11_wordsIn 3 ((some .int)) 2 := ⟨⟨mw_5_232, mw_5_233, mw_1_12, mw_5_234⟩, rfl, by decide, by decide, by decide +kernel⟩
theorem yv_X11_allWords : Yv yX11_allWords RX11 cX11_allWords 4 ((some .int)) 1 := ⟨⟨mw_5_236, mw_5_237, mw_1_12, mw_5_238⟩, rfl, by decide, by decide, by decide +kernel⟩
theorem yv_X11_price : Yv yX11_price RX11 cX11_price 3 ((some .int)) 2 := ⟨⟨mw_6_0, mw_6_1, mw_1_12, mw_6_2⟩, rfl, by decide, by decide, by decide +kernel⟩
theorem yv_X11_firstReviewer : Yv yX11_firstReviewer RX11 cX11_firstReviewer 3 ((some .int)) 1 := ⟨⟨mw_6_4, mw_6_5, mw_1_12, mw_6_6⟩, rfl, by decide, by decide, by decide +kernel⟩
theorem yv_X11_likeEntry : Yv yX11_likeEntry RX11 cX11_likeEntry 5 ((some .int)) 1 := ⟨⟨mw_6_13, mw_p_53, mw_1_12, mw_6_14⟩, rfl, by decide, by decide, by decide +kernel⟩
theorem yv_X11_entry : Yv yX11_entry RX11 cX11_entry 4 ((some .int)) 2 := ⟨⟨mw_6_8, mw_6_9, mw_1_12, mw_6_10⟩, rfl, by decide, by decide, by decide +kernel⟩
theorem yv_X11_dispute : Yv yX11_dispute RX11 cX11_dispute 3 ((some .int)) 2 := ⟨⟨mw_6_16, mw_6_17, mw_1_12, mw_6_18⟩, rfl, by decide, by decide, by decide +kernel⟩
theorem yv_X11_fileAt : Yv yX11_fileAt RX11 cX11_fileAt 2 ((some .int)) 1 := ⟨⟨mw_6_20, mw_6_21, mw_1_12, mw_6_22⟩, rfl, by decide, by decide, by decide +kernel⟩
theorem yv_X11_openDisputes : Yv yX11_openDisputes RX11 cX11_openDisputes 3 ((some .int)) 0 := ⟨⟨mw_6_33, mw_p_55, mw_1_12, mw_6_34⟩, rfl, by decide, by decide, by decide +kernel⟩
theorem yv_X11_sum : Yv yX11_sum RX11 cX11_sum 6 ((some .int)) 3 := ⟨⟨mw_6_29, mw_p_54, mw_1_12, mw_6_30⟩, rfl, by decide, by decide, by decide +kernel⟩
theorem yv_X11_allPaid : Yv yX11_allPaid RX11 cX11_allPaid 3 ((some .int)) 0 := ⟨⟨mw_6_37, mw_p_56, mw_1_12, mw_6_38⟩, rfl, by decide, by decide, by decide +kernel⟩
theorem yv_X11_allInWay : Yv yX11_allInWay RX11 cX11_allInWay 4 ((some .int)) 1 := ⟨⟨mw_6_41, mw_p_57, mw_1_12, mw_6_42⟩, rfl, by decide, by decide, by decide +kernel⟩
theorem yv_X11_count : Yv yX11_count RX11 cX11_count 2 ((some .int)) 1 := ⟨⟨mw_6_24, mw_6_25, mw_1_12, mw_6_26⟩, rfl, by decide, by decide, by decide +kernel⟩
/-! typing: what a field or an element refers to, and how long an array is -/
def tgF : List (Nat × Nat × Nat) := [(2, 116, 7), (3, 132, 55), (4, 148, 23), (5, 164, 4), (5, 165, 53), (5, 167, 54), (7, 196, 40), (7, 197, 30), (8, 212, 20), (8, 213, 50), (8, 215, 51), (8, 217, 21), (8, 218, 5), (8, 219, 22), (9, 228, 41), (10, 250, 52), (10, 251, 24), (10, 252, 25), (11, 260, 9), (11, 261, 8), (11, 262, 8), (11, 263, 3), (12, 276, 31), (12, 277, 32), (12, 278, 33), (12, 281, 42), (12, 283, 34), (12, 286, 26), (12, 287, 27)]
def tgL : List (Nat × Nat) := [(20, 6), (21, 8), (22, 6), (23, 9), (24, 12), (25, 12), (26, 9), (27, 9), (30, 8), (31, 1662), (32, 6648), (33, 1662), (34, 330), (41, 60), (42, 60), (50, 6), (51, 8), (52, 12), (53, 40), (54, 10), (55, 4)]
def tgE : List (Nat × Nat) := [(50, 6), (51, 10), (52, 7), (53, 2), (54, 1), (55, 8)]
def Wt (M : Me) : Prop := (∀ q ∈ tgF, ∀ a : Nat, m_t M a = q.1 → m_t M (m_r M q.2.1 a 0) = q.2.2) ∧ (∀ q ∈ tgL, ∀ a : Nat, m_t M a = q.1 → m_z M a = q.2) ∧ (∀ q ∈ tgE, ∀ a : Nat, m_t M a = q.1 → ∀ j : Nat, j < m_z M a → m_t M (m_r M q.1 a j) = q.2) ∧ ∀ a : Nat, m_t M a = 40 → m_z M a ≤ 60
theorem wf_116 {M : Me} (hW : Wt M) {a : Nat} (ht : m_t M a = 2) : m_t M (m_r M 116 a 0) = 7 := hW.1 (2, 116, 7) (by decide) a ht
theorem wf_132 {M : Me} (hW : Wt M) {a : Nat} (ht : m_t M a = 3) : m_t M (m_r M 132 a 0) = 55 := hW.1 (3, 132, 55) (by decide) a ht
theorem wf_148 {M : Me} (hW : Wt M) {a : Nat} (ht : m_t M a = 4) : m_t M (m_r M 148 a 0) = 23 := hW.1 (4, 148, 23) (by decide) a ht
theorem wf_164 {M : Me} (hW : Wt M) {a : Nat} (ht : m_t M a = 5) : m_t M (m_r M 164 a 0) = 4 := hW.1 (5, 164, 4) (by decide) a ht
theorem wf_165 {M : Me} (hW : Wt M) {a : Nat} (ht : m_t M a = 5) : m_t M (m_r M 165 a 0) = 53 := hW.1 (5, 165, 53) (by decide) a ht
theorem wf_167 {M : Me} (hW : Wt M) {a : Nat} (ht : m_t M a = 5) : m_t M (m_r M 167 a 0) = 54 := hW.1 (5, 167, 54) (by decide) a ht
theorem wf_196 {M : Me} (hW : Wt M) {a : Nat} (ht : m_t M a = 7) : m_t M (m_r M 196 a 0) = 40 := hW.1 (7, 196, 40) (by decide) a ht
theorem wf_197 {M : Me} (hW : Wt M) {a : Nat} (ht : m_t M a = 7) : m_t M (m_r M 197 a 0) = 30 := hW.1 (7, 197, 30) (by decide) a ht
theorem wf_212 {M : Me} (hW : Wt M) {a : Nat} (ht : m_t M a = 8) : m_t M (m_r M 212 a 0) = 20 := hW.1 (8, 212, 20) (by decide) a ht
theorem wf_213 {M : Me} (hW : Wt M) {a : Nat} (ht : m_t M a = 8) : m_t M (m_r M 213 a 0) = 50 := hW.1 (8, 213, 50) (by decide) a ht
theorem wf_215 {M : Me} (hW : Wt M) {a : Nat} (ht : m_t M a = 8) : m_t M (m_r M 215 a 0) = 51 := hW.1 (8, 215, 51) (by decide) a ht
theorem wf_217 {M : Me} (hW : Wt M) {a : Nat} (ht : m_t M a = 8) : m_t M (m_r M 217 a 0) = 21 := hW.1 (8, 217, 21) (by decide) a ht
theorem wf_218 {M : Me} (hW : Wt M) {a : Nat} (ht : m_t M a = 8) : m_t M (m_r M 218 a 0) = 5 := hW.1 (8, 218, 5) (by decide) a ht
theorem wf_219 {M : Me} (hW : Wt M) {a : Nat} (ht : m_t M a = 8) : m_t M (m_r M 219 a 0) = 22 := hW.1 (8, 219, 22) (by decide) a ht
theorem wf_228 {M : Me} (hW : Wt M) {a : Nat} (ht : m_t M a = 9) : m_t M (m_r M 228 a 0) = 41 := hW.1 (9, 228, 41) (by decide) a ht
theorem wf_250 {M : Me} (hW : Wt M) {a : Nat} (ht : m_t M a = 10) : m_t M (m_r M 250 a 0) = 52 := hW.1 (10, 250, 52) (by decide) a ht
theorem wf_251 {M : Me} (hW : Wt M) {a : Nat} (ht : m_t M a = 10) : m_t M (m_r M 251 a 0) = 24 := hW.1 (10, 251, 24) (by decide) a ht
theorem wf_252 {M : Me} (hW : Wt M) {a : Nat} (ht : m_t M a = 10) : m_t M (m_r M 252 a 0) = 25 := hW.1 (10, 252, 25) (by decide) a ht
theorem wf_260 {M : Me} (hW : Wt M) {a : Nat} (ht : m_t M a = 11) : m_t M (m_r M 260 a 0) = 9 := hW.1 (11, 260, 9) (by decide) a ht
theorem wf_261 {M : Me} (hW : Wt M) {a : Nat} (ht : m_t M a = 11) : m_t M (m_r M 261 a 0) = 8 := hW.1 (11, 261, 8) (by decide) a ht
theorem wf_262 {M : Me} (hW : Wt M) {a : Nat} (ht : m_t M a = 11) : m_t M (m_r M 262 a 0) = 8 := hW.1 (11, 262, 8) (by decide) a ht
theorem wf_263 {M : Me} (hW : Wt M) {a : Nat} (ht : m_t M a = 11) : m_t M (m_r M 263 a 0) = 3 := hW.1 (11, 263, 3) (by decide) a ht
theorem wf_276 {M : Me} (hW : Wt M) {a : Nat} (ht : m_t M a = 12) : m_t M (m_r M 276 a 0) = 31 := hW.1 (12, 276, 31) (by decide) a ht
theorem wf_277 {M : Me} (hW : Wt M) {a : Nat} (ht : m_t M a = 12) : m_t M (m_r M 277 a 0) = 32 := hW.1 (12, 277, 32) (by decide) a ht
theorem wf_278 {M : Me} (hW : Wt M) {a : Nat} (ht : m_t M a = 12) : m_t M (m_r M 278 a 0) = 33 := hW.1 (12, 278, 33) (by decide) a ht
theorem wf_281 {M : Me} (hW : Wt M) {a : Nat} (ht : m_t M a = 12) : m_t M (m_r M 281 a 0) = 42 := hW.1 (12, 281, 42) (by decide) a ht
theorem wf_283 {M : Me} (hW : Wt M) {a : Nat} (ht : m_t M a = 12) : m_t M (m_r M 283 a 0) = 34 := hW.1 (12, 283, 34) (by decide) a ht
theorem wf_286 {M : Me} (hW : Wt M) {a : Nat} (ht : m_t M a = 12) : m_t M (m_r M 286 a 0) = 26 := hW.1 (12, 286, 26) (by decide) a ht
theorem wf_287 {M : Me} (hW : Wt M) {a : Nat} (ht : m_t M a = 12) : m_t M (m_r M 287 a 0) = 27 := hW.1 (12, 287, 27) (by decide) a ht
theorem wz_20 {M : Me} (hW : Wt M) {a : Nat} (ht : m_t M a = 20) : m_z M a = 6 := hW.2.1 (20, 6) (by decide) a ht
theorem wz_21 {M : Me} (hW : Wt M) {a : Nat} (ht : m_t M a = 21) : m_z M a = 8 := hW.2.1 (21, 8) (by decide) a ht
theorem wz_22 {M : Me} (hW : Wt M) {a : Nat} (ht : m_t M a = 22) : m_z M a = 6 := hW.2.1 (22, 6) (by decide) a ht
theorem wz_23 {M : Me} (hW : Wt M) {a : Nat} (ht : m_t M a = 23) : m_z M a = 9 := hW.2.1 (23, 9) (by decide) a ht
theorem wz_24 {M : Me} (hW : Wt M) {a : Nat} (ht : m_t M a = 24) : m_z M a = 12 := hW.2.1 (24, 12) (by decide) a ht
theorem wz_25 {M : Me} (hW : Wt M) {a : Nat} (ht : m_t M a = 25) : m_z M a = 12 := hW.2.1 (25, 12) (by decide) a ht
theorem wz_26 {M : Me} (hW : Wt M) {a : Nat} (ht : m_t M a = 26) : m_z M a = 9 := hW.2.1 (26, 9) (by decide) a ht
theorem wz_27 {M : Me} (hW : Wt M) {a : Nat} (ht : m_t M a = 27) : m_z M a = 9 := hW.2.1 (27, 9) (by decide) a ht
theorem wz_30 {M : Me} (hW : Wt M) {a : Nat} (ht : m_t M a = 30) : m_z M a = 8 := hW.2.1 (30, 8) (by decide) a ht
theorem wz_31 {M : Me} (hW : Wt M) {a : Nat} (ht : m_t M a = 31) : m_z M a = 1662 := hW.2.1 (31, 1662) (by decide) a ht
theorem wz_32 {M : Me} (hW : Wt M) {a : Nat} (ht : m_t M a = 32) : m_z M a = 6648 := hW.2.1 (32, 6648) (by decide) a ht
theorem wz_33 {M : Me} (hW : Wt M) {a : Nat} (ht : m_t M a = 33) : m_z M a = 1662 := hW.2.1 (33, 1662) (by decide) a ht
theorem wz_34 {M : Me} (hW : Wt M) {a : Nat} (ht : m_t M a = 34) : m_z M a = 330 := hW.2.1 (34, 330) (by decide) a ht
theorem wz_41 {M : Me} (hW : Wt M) {a : Nat} (ht : m_t M a = 41) : m_z M a = 60 := hW.2.1 (41, 60) (by decide) a ht
theorem wz_42 {M : Me} (hW : Wt M) {a : Nat} (ht : m_t M a = 42) : m_z M a = 60 := hW.2.1 (42, 60) (by decide) a ht
theorem wz_50 {M : Me} (hW : Wt M) {a : Nat} (ht : m_t M a = 50) : m_z M a = 6 := hW.2.1 (50, 6) (by decide) a ht
theorem wz_51 {M : Me} (hW : Wt M) {a : Nat} (ht : m_t M a = 51) : m_z M a = 8 := hW.2.1 (51, 8) (by decide) a ht
theorem wz_52 {M : Me} (hW : Wt M) {a : Nat} (ht : m_t M a = 52) : m_z M a = 12 := hW.2.1 (52, 12) (by decide) a ht
theorem wz_53 {M : Me} (hW : Wt M) {a : Nat} (ht : m_t M a = 53) : m_z M a = 40 := hW.2.1 (53, 40) (by decide) a ht
theorem wz_54 {M : Me} (hW : Wt M) {a : Nat} (ht : m_t M a = 54) : m_z M a = 10 := hW.2.1 (54, 10) (by decide) a ht
theorem wz_55 {M : Me} (hW : Wt M) {a : Nat} (ht : m_t M a = 55) : m_z M a = 4 := hW.2.1 (55, 4) (by decide) a ht
theorem we_50 {M : Me} (hW : Wt M) {a : Nat} (ht : m_t M a = 50) {j : Nat} (hj : j < 6) : m_t M (m_r M 50 a j) = 6 := hW.2.2.1 (50, 6) (by decide) a ht j (by rw [wz_50 hW ht]; exact hj)
theorem we_51 {M : Me} (hW : Wt M) {a : Nat} (ht : m_t M a = 51) {j : Nat} (hj : j < 8) : m_t M (m_r M 51 a j) = 10 := hW.2.2.1 (51, 10) (by decide) a ht j (by rw [wz_51 hW ht]; exact hj)
theorem we_52 {M : Me} (hW : Wt M) {a : Nat} (ht : m_t M a = 52) {j : Nat} (hj : j < 12) : m_t M (m_r M 52 a j) = 7 := hW.2.2.1 (52, 7) (by decide) a ht j (by rw [wz_52 hW ht]; exact hj)
theorem we_53 {M : Me} (hW : Wt M) {a : Nat} (ht : m_t M a = 53) {j : Nat} (hj : j < 40) : m_t M (m_r M 53 a j) = 2 := hW.2.2.1 (53, 2) (by decide) a ht j (by rw [wz_53 hW ht]; exact hj)
theorem we_54 {M : Me} (hW : Wt M) {a : Nat} (ht : m_t M a = 54) {j : Nat} (hj : j < 10) : m_t M (m_r M 54 a j) = 1 := hW.2.2.1 (54, 1) (by decide) a ht j (by rw [wz_54 hW ht]; exact hj)
theorem we_55 {M : Me} (hW : Wt M) {a : Nat} (ht : m_t M a = 55) {j : Nat} (hj : j < 4) : m_t M (m_r M 55 a j) = 8 := hW.2.2.1 (55, 8) (by decide) a ht j (by rw [wz_55 hW ht]; exact hj)
theorem ix_c {z N j : Nat} (hz : z = N) (hj : j < N) (hN : N < 2 ^ 31 := by decide) : ix (nI j) z j := by subst hz; exact ix_n hj hN
/-- all that is not written is the same: numbers of cells, tags, lengths, references -/
def Fx (M M2 : Me) : Prop := m_n M2 = m_n M ∧ (∀ a, m_t M2 a = m_t M a) ∧ (∀ a, m_z M2 a = m_z M a) ∧ ∀ k a j, m_r M2 k a j = m_r M k a j
theorem Fx.rf {M : Me} : Fx M M := ⟨rfl, fun _ => rfl, fun _ => rfl, fun _ _ _ => rfl⟩
theorem Fx.tr {M M2 M3 : Me} (h : Fx M M2) (h2 : Fx M2 M3) : Fx M M3 := ⟨h2.1.trans h.1, fun a => (h2.2.1 a).trans (h.2.1 a), fun a => (h2.2.2.1 a).trans (h.2.2.1 a), fun k a j => (h2.2.2.2 k a j).trans (h.2.2.2 k a j)⟩
theorem Fx.si {M M2 : Me} {k a j : Nat} {v : Int32} (h : Fx M M2) : Fx M (s_i M2 k a j v) := h
theorem Fx.sl {M M2 : Me} {k a j : Nat} {v : Int64} (h : Fx M M2) : Fx M (s_l M2 k a j v) := h
theorem Wt.fx {M M2 : Me} (hW : Wt M) (h : Fx M M2) : Wt M2 := by
  obtain ⟨h1, h2, h3, h4⟩ := h
  obtain ⟨w1, w2, w3, w4⟩ := hW
  refine ⟨fun q hq a ht => ?_, fun q hq a ht => ?_, fun q hq a ht j hj => ?_, fun a ht => ?_⟩
  · rw [h4, h2]; exact w1 q hq a (by rw [← h2]; exact ht)
  · rw [h3]; exact w2 q hq a (by rw [← h2]; exact ht)
  · rw [h4, h2]; exact w3 q hq a (by rw [← h2]; exact ht) j (by rw [← h3]; exact hj)
  · rw [h3]; exact w4 a (by rw [← h2]; exact ht)
