theorem wl_52_0 : Cond.instanceMethod yX2_add ∈ lw_tbl := List.mem_append_right _ (tb_5 _ (List.mem_of_getElem? (i := 56) (by decide +kernel)))
theorem wl_52_1 : Cond.selects RX2 yX2_add yX2_add ∈ lw_tbl := List.mem_append_right _ (tb_5 _ (List.mem_of_getElem? (i := 57) (by decide +kernel)))
theorem wl_52_2 : Cond.code yX2_add cX2_add 4 (some .int) ∈ lw_tbl := List.mem_append_right _ (tb_5 _ (List.mem_of_getElem? (i := 58) rfl))
theorem wl_52_3 : Cond.methodLink RL 124 yX7_tell_ ∈ lw_tbl := List.mem_append_right _ (tb_8 _ (List.mem_of_getElem? (i := 67) (by decide +kernel)))
theorem wl_52_4 : Cond.instanceMethod yX7_tell_ ∈ lw_tbl := List.mem_append_right _ (tb_8 _ (List.mem_of_getElem? (i := 68) (by decide +kernel)))
theorem wl_52_5 : Cond.selects RX7 yX7_tell_ yX7_tell_ ∈ lw_tbl := List.mem_append_right _ (tb_8 _ (List.mem_of_getElem? (i := 69) (by decide +kernel)))
theorem wl_52_6 : Cond.code yX7_tell_ cX7_tell_ 4 (some .int) ∈ lw_tbl := List.mem_append_right _ (tb_8 _ (List.mem_of_getElem? (i := 70) rfl))
theorem wl_52_7 : Cond.methodLink RL 125 yX6_forget ∈ lw_tbl := List.mem_append_right _ (tb_5 _ (List.mem_of_getElem? (i := 59) (by decide +kernel)))
theorem wl_52_8 : Cond.instanceMethod yX6_forget ∈ lw_tbl := List.mem_append_right _ (tb_5 _ (List.mem_of_getElem? (i := 60) (by decide +kernel)))
theorem wl_52_9 : Cond.selects RX6 yX6_forget yX6_forget ∈ lw_tbl := List.mem_append_right _ (tb_5 _ (List.mem_of_getElem? (i := 61) (by decide +kernel)))
theorem wl_52_10 : Cond.code yX6_forget cX6_forget 2 (some .int) ∈ lw_tbl := List.mem_append_right _ (tb_5 _ (List.mem_of_getElem? (i := 62) rfl))
theorem wl_52_11 : Cond.fieldLink RX6 181 "WellVillages$Evidence" "told" "I" ∈ lw_tbl := List.mem_append_right _ (tb_2 _ (List.mem_of_getElem? (i := 99) (by decide +kernel)))
theorem wl_52_12 : Cond.methodLink RL 128 yX7_forget ∈ lw_tbl := List.mem_append_right _ (tb_8 _ (List.mem_of_getElem? (i := 71) (by decide +kernel)))
theorem wl_52_13 : Cond.instanceMethod yX7_forget ∈ lw_tbl := List.mem_append_right _ (tb_8 _ (List.mem_of_getElem? (i := 72) (by decide +kernel)))
theorem wl_52_14 : Cond.selects RX7 yX7_forget yX7_forget ∈ lw_tbl := List.mem_append_right _ (tb_8 _ (List.mem_of_getElem? (i := 73) (by decide +kernel)))
theorem wl_52_15 : Cond.code yX7_forget cX7_forget 2 (some .int) ∈ lw_tbl := List.mem_append_right _ (tb_8 _ (List.mem_of_getElem? (i := 74) rfl))
theorem wl_52_16 : Cond.methodLink RL 129 yX6_off ∈ lw_tbl := List.mem_append_right _ (tb_5 _ (List.mem_of_getElem? (i := 63) (by decide +kernel)))
theorem wl_52_17 : Cond.instanceMethod yX6_off ∈ lw_tbl := List.mem_append_right _ (tb_5 _ (List.mem_of_getElem? (i := 64) (by decide +kernel)))
theorem wl_52_18 : Cond.selects RX6 yX6_off yX6_off ∈ lw_tbl := List.mem_append_right _ (tb_5 _ (List.mem_of_getElem? (i := 65) (by decide +kernel)))
theorem wl_52_19 : Cond.code yX6_off cX6_off 2 (some .int) ∈ lw_tbl := List.mem_append_right _ (tb_5 _ (List.mem_of_getElem? (i := 66) rfl))
theorem wl_52_20 : Cond.methodLink RX6 280 yX6_isKnown ∈ lw_tbl := List.mem_append_right _ (tb_5 _ (List.mem_of_getElem? (i := 67) (by decide +kernel)))
theorem wl_52_21 : Cond.instanceMethod yX6_isKnown ∈ lw_tbl := List.mem_append_right _ (tb_5 _ (List.mem_of_getElem? (i := 69) (by decide +kernel)))
theorem wl_52_22 : Cond.selects RX6 yX6_isKnown yX6_isKnown ∈ lw_tbl := List.mem_of_getElem? (i := 47) (by decide +kernel)
theorem wl_52_23 : Cond.code yX6_isKnown cX6_isKnown 2 (some .boolean) ∈ lw_tbl := List.mem_append_right _ (tb_5 _ (List.mem_of_getElem? (i := 70) rfl))
theorem wlr_52 : ∀ w ∈ wsL_law_r52, w ∈ lw_tbl := List.forall_mem_cons.mpr ⟨wl_52_0, List.forall_mem_cons.mpr ⟨wl_52_1, List.forall_mem_cons.mpr ⟨wl_52_2, List.forall_mem_cons.mpr ⟨wl_52_3, List.forall_mem_cons.mpr ⟨wl_52_4, List.forall_mem_cons.mpr ⟨wl_52_5, List.forall_mem_cons.mpr ⟨wl_52_6, List.forall_mem_cons.mpr ⟨wl_52_7, List.forall_mem_cons.mpr ⟨wl_52_8, List.forall_mem_cons.mpr ⟨wl_52_9, List.forall_mem_cons.mpr ⟨wl_52_10, List.forall_mem_cons.mpr ⟨wl_52_11, List.forall_mem_cons.mpr ⟨wl_52_12, List.forall_mem_cons.mpr ⟨wl_52_13, List.forall_mem_cons.mpr ⟨wl_52_14, List.forall_mem_cons.mpr ⟨wl_52_15, List.forall_mem_cons.mpr ⟨wl_52_16, List.forall_mem_cons.mpr ⟨wl_52_17, List.forall_mem_cons.mpr ⟨wl_52_18, List.forall_mem_cons.mpr ⟨wl_52_19, List.forall_mem_cons.mpr ⟨wl_52_20, List.forall_mem_cons.mpr ⟨wl_52_21, List.forall_mem_cons.mpr ⟨wl_52_22, List.forall_mem_cons.mpr ⟨wl_52_23, fun _ h => absurd h List.not_mem_nil⟩⟩⟩⟩⟩⟩⟩⟩⟩⟩⟩⟩⟩⟩⟩⟩⟩⟩⟩⟩⟩⟩⟩⟩
theorem wl_53_0 : Cond.methodLink RX6 283 yX2_firstOff ∈ lw_tbl := List.mem_append_right _ (tb_5 _ (List.mem_of_getElem? (i := 71) (by decide +kernel)))
theorem wl_53_1 : Cond.instanceMethod yX2_firstOff ∈ lw_tbl := List.mem_append_right _ (tb_5 _ (List.mem_of_getElem? (i := 72) (by decide +kernel)))
theorem wl_53_2 : Cond.selects RX2 yX2_firstOff yX2_firstOff ∈ lw_tbl := List.mem_append_right _ (tb_5 _ (List.mem_of_getElem? (i := 73) (by decide +kernel)))
theorem wl_53_3 : Cond.code yX2_firstOff cX2_firstOff 6 (some .int) ∈ lw_tbl := List.mem_append_right _ (tb_5 _ (List.mem_of_getElem? (i := 74) rfl))
theorem wl_53_4 : Cond.methodLink RX2 91 yX2_lastDay ∈ lw_tbl := List.mem_append_right _ (tb_5 _ (List.mem_of_getElem? (i := 75) (by decide +kernel)))
theorem wl_53_5 : Cond.instanceMethod yX2_lastDay ∈ lw_tbl := List.mem_append_right _ (tb_5 _ (List.mem_of_getElem? (i := 77) (by decide +kernel)))
theorem wl_53_6 : Cond.selects RX2 yX2_lastDay yX2_lastDay ∈ lw_tbl := List.mem_of_getElem? (i := 48) (by decide +kernel)
theorem wl_53_7 : Cond.code yX2_lastDay cX2_lastDay 4 (some .int) ∈ lw_tbl := List.mem_append_right _ (tb_5 _ (List.mem_of_getElem? (i := 78) rfl))
theorem wl_53_8 : Cond.methodLink RX2 74 Lib.Math.max.name ∈ lw_tbl := List.mem_append_right _ (tb_5 _ (List.mem_of_getElem? (i := 79) (by decide +kernel)))
theorem wl_53_9 : Cond.methodLink RX2 95 yX4_setAsTold ∈ lw_tbl := List.mem_append_right _ (tb_5 _ (List.mem_of_getElem? (i := 80) (by decide +kernel)))
theorem wl_53_10 : Cond.methodLink RX2 99 yX1_begin ∈ lw_tbl := List.mem_append_right _ (tb_5 _ (List.mem_of_getElem? (i := 81) (by decide +kernel)))
theorem wl_53_11 : Cond.methodLink RX2 102 yX2_offToday ∈ lw_tbl := List.mem_append_right _ (tb_5 _ (List.mem_of_getElem? (i := 82) (by decide +kernel)))
theorem wl_53_12 : Cond.instanceMethod yX2_offToday ∈ lw_tbl := List.mem_append_right _ (tb_5 _ (List.mem_of_getElem? (i := 84) (by decide +kernel)))
theorem wl_53_13 : Cond.selects RX2 yX2_offToday yX2_offToday ∈ lw_tbl := List.mem_of_getElem? (i := 49) (by decide +kernel)
theorem wl_53_14 : Cond.code yX2_offToday cX2_offToday 4 (some .int) ∈ lw_tbl := List.mem_append_right _ (tb_5 _ (List.mem_of_getElem? (i := 85) rfl))
theorem wl_53_15 : Cond.fieldLink RX2 80 "WellVillages$Days" "day" "I" ∈ lw_tbl := List.mem_append_right _ (tb_2 _ (List.mem_of_getElem? (i := 45) (by decide +kernel)))
theorem wl_53_16 : Cond.fieldLink RX2 83 "WellVillages$Days" "water" "[I" ∈ lw_tbl := List.mem_append_right _ (tb_2 _ (List.mem_of_getElem? (i := 49) (by decide +kernel)))
theorem wl_53_17 : Cond.methodLink RX2 86 yX3_levelOf ∈ lw_tbl := List.mem_append_right _ (tb_5 _ (List.mem_of_getElem? (i := 86) (by decide +kernel)))
theorem wl_53_18 : Cond.methodLink RX2 105 yX0_oneDay ∈ lw_tbl := List.mem_append_right _ (tb_5 _ (List.mem_of_getElem? (i := 87) (by decide +kernel)))
theorem wl_53_19 : Cond.methodLink RL 132 yX7_off ∈ lw_tbl := List.mem_append_right _ (tb_8 _ (List.mem_of_getElem? (i := 75) (by decide +kernel)))
theorem wl_53_20 : Cond.instanceMethod yX7_off ∈ lw_tbl := List.mem_append_right _ (tb_8 _ (List.mem_of_getElem? (i := 76) (by decide +kernel)))
theorem wl_53_21 : Cond.selects RX7 yX7_off yX7_off ∈ lw_tbl := List.mem_append_right _ (tb_8 _ (List.mem_of_getElem? (i := 77) (by decide +kernel)))
theorem wl_53_22 : Cond.code yX7_off cX7_off 3 (some .int) ∈ lw_tbl := List.mem_append_right _ (tb_8 _ (List.mem_of_getElem? (i := 78) rfl))
theorem wl_53_23 : Cond.methodLink RX7 489 yX7_fits ∈ lw_tbl := List.mem_append_right _ (tb_8 _ (List.mem_of_getElem? (i := 79) (by decide +kernel)))
theorem wlr_53 : ∀ w ∈ wsL_law_r53, w ∈ lw_tbl := List.forall_mem_cons.mpr ⟨wl_53_0, List.forall_mem_cons.mpr ⟨wl_53_1, List.forall_mem_cons.mpr ⟨wl_53_2, List.forall_mem_cons.mpr ⟨wl_53_3, List.forall_mem_cons.mpr ⟨wl_53_4, List.forall_mem_cons.mpr ⟨wl_53_5, List.forall_mem_cons.mpr ⟨wl_53_6, List.forall_mem_cons.mpr ⟨wl_53_7, List.forall_mem_cons.mpr ⟨wl_53_8, List.forall_mem_cons.mpr ⟨wl_53_9, List.forall_mem_cons.mpr ⟨wl_53_10, List.forall_mem_cons.mpr ⟨wl_53_11, List.forall_mem_cons.mpr ⟨wl_53_12, List.forall_mem_cons.mpr ⟨wl_53_13, List.forall_mem_cons.mpr ⟨wl_53_14, List.forall_mem_cons.mpr ⟨wl_53_15, List.forall_mem_cons.mpr ⟨wl_53_16, List.forall_mem_cons.mpr ⟨wl_53_17, List.forall_mem_cons.mpr ⟨wl_53_18, List.forall_mem_cons.mpr ⟨wl_53_19, List.forall_mem_cons.mpr ⟨wl_53_20, List.forall_mem_cons.mpr ⟨wl_53_21, List.forall_mem_cons.mpr ⟨wl_53_22, List.forall_mem_cons.mpr ⟨wl_53_23, fun _ h => absurd h List.not_mem_nil⟩⟩⟩⟩⟩⟩⟩⟩⟩⟩⟩⟩⟩⟩⟩⟩⟩⟩⟩⟩⟩⟩⟩⟩
theorem wl_54_0 : Cond.instanceMethod yX7_fits ∈ lw_tbl := List.mem_append_right _ (tb_8 _ (List.mem_of_getElem? (i := 81) (by decide +kernel)))
theorem wl_54_1 : Cond.selects RX7 yX7_fits yX7_fits ∈ lw_tbl := List.mem_of_getElem? (i := 114) (by decide +kernel)
theorem wl_54_2 : Cond.code yX7_fits cX7_fits 7 (some .boolean) ∈ lw_tbl := List.mem_append_right _ (tb_8 _ (List.mem_of_getElem? (i := 82) rfl))
theorem wl_54_3 : Cond.methodLink RL 133 yX6_span ∈ lw_tbl := List.mem_append_right _ (tb_5 _ (List.mem_of_getElem? (i := 88) (by decide +kernel)))
theorem wl_54_4 : Cond.instanceMethod yX6_span ∈ lw_tbl := List.mem_append_right _ (tb_5 _ (List.mem_of_getElem? (i := 89) (by decide +kernel)))
theorem wl_54_5 : Cond.selects RX6 yX6_span yX6_span ∈ lw_tbl := List.mem_append_right _ (tb_5 _ (List.mem_of_getElem? (i := 90) (by decide +kernel)))
theorem wl_54_6 : Cond.code yX6_span cX6_span 3 (some .int) ∈ lw_tbl := List.mem_append_right _ (tb_5 _ (List.mem_of_getElem? (i := 91) rfl))
theorem wl_54_7 : Cond.methodLink RX6 289 yX2_spanOfPass ∈ lw_tbl := List.mem_append_right _ (tb_5 _ (List.mem_of_getElem? (i := 92) (by decide +kernel)))
theorem wl_54_8 : Cond.instanceMethod yX2_spanOfPass ∈ lw_tbl := List.mem_append_right _ (tb_5 _ (List.mem_of_getElem? (i := 93) (by decide +kernel)))
theorem wl_54_9 : Cond.selects RX2 yX2_spanOfPass yX2_spanOfPass ∈ lw_tbl := List.mem_append_right _ (tb_5 _ (List.mem_of_getElem? (i := 94) (by decide +kernel)))
theorem wl_54_10 : Cond.code yX2_spanOfPass cX2_spanOfPass 3 (some .int) ∈ lw_tbl := List.mem_append_right _ (tb_5 _ (List.mem_of_getElem? (i := 95) rfl))
theorem wl_54_11 : Cond.fieldLink RX2 115 "WellVillages$Plan" "passWidth" "[I" ∈ lw_tbl := List.mem_append_right _ (tb_1 _ (List.mem_of_getElem? (i := 206) (by decide +kernel)))
theorem wl_54_12 : Cond.methodLink RX2 118 yX2_spanAt ∈ lw_tbl := List.mem_append_right _ (tb_5 _ (List.mem_of_getElem? (i := 96) (by decide +kernel)))
theorem wl_54_13 : Cond.instanceMethod yX2_spanAt ∈ lw_tbl := List.mem_append_right _ (tb_5 _ (List.mem_of_getElem? (i := 98) (by decide +kernel)))
theorem wl_54_14 : Cond.selects RX2 yX2_spanAt yX2_spanAt ∈ lw_tbl := List.mem_of_getElem? (i := 50) (by decide +kernel)
theorem wl_54_15 : Cond.code yX2_spanAt cX2_spanAt 8 (some .int) ∈ lw_tbl := List.mem_append_right _ (tb_5 _ (List.mem_of_getElem? (i := 99) rfl))
theorem wl_54_16 : Cond.methodLink RX2 125 yX2_fits ∈ lw_tbl := List.mem_append_right _ (tb_5 _ (List.mem_of_getElem? (i := 100) (by decide +kernel)))
theorem wl_54_17 : Cond.instanceMethod yX2_fits ∈ lw_tbl := List.mem_append_right _ (tb_5 _ (List.mem_of_getElem? (i := 102) (by decide +kernel)))
theorem wl_54_18 : Cond.selects RX2 yX2_fits yX2_fits ∈ lw_tbl := List.mem_of_getElem? (i := 51) (by decide +kernel)
theorem wl_54_19 : Cond.code yX2_fits cX2_fits 5 (some .boolean) ∈ lw_tbl := List.mem_append_right _ (tb_5 _ (List.mem_of_getElem? (i := 103) rfl))
theorem wl_54_20 : Cond.methodLink RX2 109 yX2_keepLevels ∈ lw_tbl := List.mem_append_right _ (tb_5 _ (List.mem_of_getElem? (i := 104) (by decide +kernel)))
theorem wl_54_21 : Cond.instanceMethod yX2_keepLevels ∈ lw_tbl := List.mem_append_right _ (tb_5 _ (List.mem_of_getElem? (i := 106) (by decide +kernel)))
theorem wl_54_22 : Cond.selects RX2 yX2_keepLevels yX2_keepLevels ∈ lw_tbl := List.mem_of_getElem? (i := 52) (by decide +kernel)
theorem wl_54_23 : Cond.code yX2_keepLevels cX2_keepLevels 3 none ∈ lw_tbl := List.mem_append_right _ (tb_5 _ (List.mem_of_getElem? (i := 107) rfl))
theorem wlr_54 : ∀ w ∈ wsL_law_r54, w ∈ lw_tbl := List.forall_mem_cons.mpr ⟨wl_54_0, List.forall_mem_cons.mpr ⟨wl_54_1, List.forall_mem_cons.mpr ⟨wl_54_2, List.forall_mem_cons.mpr ⟨wl_54_3, List.forall_mem_cons.mpr ⟨wl_54_4, List.forall_mem_cons.mpr ⟨wl_54_5, List.forall_mem_cons.mpr ⟨wl_54_6, List.forall_mem_cons.mpr ⟨wl_54_7, List.forall_mem_cons.mpr ⟨wl_54_8, List.forall_mem_cons.mpr ⟨wl_54_9, List.forall_mem_cons.mpr ⟨wl_54_10, List.forall_mem_cons.mpr ⟨wl_54_11, List.forall_mem_cons.mpr ⟨wl_54_12, List.forall_mem_cons.mpr ⟨wl_54_13, List.forall_mem_cons.mpr ⟨wl_54_14, List.forall_mem_cons.mpr ⟨wl_54_15, List.forall_mem_cons.mpr ⟨wl_54_16, List.forall_mem_cons.mpr ⟨wl_54_17, List.forall_mem_cons.mpr ⟨wl_54_18, List.forall_mem_cons.mpr ⟨wl_54_19, List.forall_mem_cons.mpr ⟨wl_54_20, List.forall_mem_cons.mpr ⟨wl_54_21, List.forall_mem_cons.mpr ⟨wl_54_22, List.forall_mem_cons.mpr ⟨wl_54_23, fun _ h => absurd h List.not_mem_nil⟩⟩⟩⟩⟩⟩⟩⟩⟩⟩⟩⟩⟩⟩⟩⟩⟩⟩⟩⟩⟩⟩⟩⟩
theorem wl_55_0 : Cond.fieldLink RX2 112 "WellVillages$Ground" "cells" "I" ∈ lw_tbl := List.mem_append_right _ (tb_1 _ (List.mem_of_getElem? (i := 40) (by decide +kernel)))
theorem wl_55_1 : Cond.methodLink RL 136 yX7_span ∈ lw_tbl := List.mem_append_right _ (tb_8 _ (List.mem_of_getElem? (i := 83) (by decide +kernel)))
theorem wl_55_2 : Cond.instanceMethod yX7_span ∈ lw_tbl := List.mem_append_right _ (tb_8 _ (List.mem_of_getElem? (i := 84) (by decide +kernel)))
theorem wl_55_3 : Cond.selects RX7 yX7_span yX7_span ∈ lw_tbl := List.mem_append_right _ (tb_8 _ (List.mem_of_getElem? (i := 85) (by decide +kernel)))
theorem wl_55_4 : Cond.code yX7_span cX7_span 6 (some .int) ∈ lw_tbl := List.mem_append_right _ (tb_8 _ (List.mem_of_getElem? (i := 86) rfl))
theorem wl_55_5 : Cond.methodLink RX7 492 yX7_isPass ∈ lw_tbl := List.mem_append_right _ (tb_8 _ (List.mem_of_getElem? (i := 87) (by decide +kernel)))
theorem wl_55_6 : Cond.instanceMethod yX7_isPass ∈ lw_tbl := List.mem_append_right _ (tb_8 _ (List.mem_of_getElem? (i := 89) (by decide +kernel)))
theorem wl_55_7 : Cond.selects RX7 yX7_isPass yX7_isPass ∈ lw_tbl := List.mem_of_getElem? (i := 115) (by decide +kernel)
theorem wl_55_8 : Cond.code yX7_isPass cX7_isPass 2 (some .boolean) ∈ lw_tbl := List.mem_append_right _ (tb_8 _ (List.mem_of_getElem? (i := 90) rfl))
theorem wl_55_9 : Cond.methodLink RL 137 yX6_rainSpan ∈ lw_tbl := List.mem_append_right _ (tb_5 _ (List.mem_of_getElem? (i := 108) (by decide +kernel)))
theorem wl_55_10 : Cond.instanceMethod yX6_rainSpan ∈ lw_tbl := List.mem_append_right _ (tb_5 _ (List.mem_of_getElem? (i := 109) (by decide +kernel)))
theorem wl_55_11 : Cond.selects RX6 yX6_rainSpan yX6_rainSpan ∈ lw_tbl := List.mem_append_right _ (tb_5 _ (List.mem_of_getElem? (i := 110) (by decide +kernel)))
theorem wl_55_12 : Cond.code yX6_rainSpan cX6_rainSpan 3 (some .int) ∈ lw_tbl := List.mem_append_right _ (tb_5 _ (List.mem_of_getElem? (i := 111) rfl))
theorem wl_55_13 : Cond.fieldLink RX6 178 "WellVillages$Ground" "rains" "I" ∈ lw_tbl := List.mem_append_right _ (tb_1 _ (List.mem_of_getElem? (i := 101) (by decide +kernel)))
theorem wl_55_14 : Cond.methodLink RX6 292 yX2_spanOfRain ∈ lw_tbl := List.mem_append_right _ (tb_5 _ (List.mem_of_getElem? (i := 112) (by decide +kernel)))
theorem wl_55_15 : Cond.instanceMethod yX2_spanOfRain ∈ lw_tbl := List.mem_append_right _ (tb_5 _ (List.mem_of_getElem? (i := 113) (by decide +kernel)))
theorem wl_55_16 : Cond.selects RX2 yX2_spanOfRain yX2_spanOfRain ∈ lw_tbl := List.mem_append_right _ (tb_5 _ (List.mem_of_getElem? (i := 114) (by decide +kernel)))
theorem wl_55_17 : Cond.code yX2_spanOfRain cX2_spanOfRain 3 (some .int) ∈ lw_tbl := List.mem_append_right _ (tb_5 _ (List.mem_of_getElem? (i := 115) rfl))
theorem wl_55_18 : Cond.fieldLink RX2 122 "WellVillages$Plan" "rain" "[I" ∈ lw_tbl := List.mem_append_right _ (tb_1 _ (List.mem_of_getElem? (i := 212) (by decide +kernel)))
theorem wl_55_19 : Cond.methodLink RL 140 yX7_rainSpan ∈ lw_tbl := List.mem_append_right _ (tb_8 _ (List.mem_of_getElem? (i := 91) (by decide +kernel)))
theorem wl_55_20 : Cond.instanceMethod yX7_rainSpan ∈ lw_tbl := List.mem_append_right _ (tb_8 _ (List.mem_of_getElem? (i := 92) (by decide +kernel)))
theorem wl_55_21 : Cond.selects RX7 yX7_rainSpan yX7_rainSpan ∈ lw_tbl := List.mem_append_right _ (tb_8 _ (List.mem_of_getElem? (i := 93) (by decide +kernel)))
theorem wl_55_22 : Cond.code yX7_rainSpan cX7_rainSpan 6 (some .int) ∈ lw_tbl := List.mem_append_right _ (tb_8 _ (List.mem_of_getElem? (i := 94) rfl))
theorem wl_55_23 : Cond.methodLink RL 141 yX6_pairs ∈ lw_tbl := List.mem_append_right _ (tb_5 _ (List.mem_of_getElem? (i := 116) (by decide +kernel)))
theorem wlr_55 : ∀ w ∈ wsL_law_r55, w ∈ lw_tbl := List.forall_mem_cons.mpr ⟨wl_55_0, List.forall_mem_cons.mpr ⟨wl_55_1, List.forall_mem_cons.mpr ⟨wl_55_2, List.forall_mem_cons.mpr ⟨wl_55_3, List.forall_mem_cons.mpr ⟨wl_55_4, List.forall_mem_cons.mpr ⟨wl_55_5, List.forall_mem_cons.mpr ⟨wl_55_6, List.forall_mem_cons.mpr ⟨wl_55_7, List.forall_mem_cons.mpr ⟨wl_55_8, List.forall_mem_cons.mpr ⟨wl_55_9, List.forall_mem_cons.mpr ⟨wl_55_10, List.forall_mem_cons.mpr ⟨wl_55_11, List.forall_mem_cons.mpr ⟨wl_55_12, List.forall_mem_cons.mpr ⟨wl_55_13, List.forall_mem_cons.mpr ⟨wl_55_14, List.forall_mem_cons.mpr ⟨wl_55_15, List.forall_mem_cons.mpr ⟨wl_55_16, List.forall_mem_cons.mpr ⟨wl_55_17, List.forall_mem_cons.mpr ⟨wl_55_18, List.forall_mem_cons.mpr ⟨wl_55_19, List.forall_mem_cons.mpr ⟨wl_55_20, List.forall_mem_cons.mpr ⟨wl_55_21, List.forall_mem_cons.mpr ⟨wl_55_22, List.forall_mem_cons.mpr ⟨wl_55_23, fun _ h => absurd h List.not_mem_nil⟩⟩⟩⟩⟩⟩⟩⟩⟩⟩⟩⟩⟩⟩⟩⟩⟩⟩⟩⟩⟩⟩⟩⟩
theorem wl_56_0 : Cond.instanceMethod yX6_pairs ∈ lw_tbl := List.mem_append_right _ (tb_5 _ (List.mem_of_getElem? (i := 117) (by decide +kernel)))
theorem wl_56_1 : Cond.selects RX6 yX6_pairs yX6_pairs ∈ lw_tbl := List.mem_append_right _ (tb_5 _ (List.mem_of_getElem? (i := 118) (by decide +kernel)))
theorem wl_56_2 : Cond.code yX6_pairs cX6_pairs 5 (some .int) ∈ lw_tbl := List.mem_append_right _ (tb_5 _ (List.mem_of_getElem? (i := 119) rfl))
theorem wl_56_3 : Cond.fieldLink RX6 302 "WellVillages$Evidence" "fitting" "I" ∈ lw_tbl := List.mem_append_right _ (tb_2 _ (List.mem_of_getElem? (i := 104) (by decide +kernel)))
theorem wl_56_4 : Cond.fieldLink RX6 305 "WellVillages$Evidence" "firstPair" "I" ∈ lw_tbl := List.mem_append_right _ (tb_2 _ (List.mem_of_getElem? (i := 106) (by decide +kernel)))
theorem wl_56_5 : Cond.methodLink RX6 295 yX6_arePair ∈ lw_tbl := List.mem_append_right _ (tb_5 _ (List.mem_of_getElem? (i := 120) (by decide +kernel)))
theorem wl_56_6 : Cond.instanceMethod yX6_arePair ∈ lw_tbl := List.mem_append_right _ (tb_5 _ (List.mem_of_getElem? (i := 122) (by decide +kernel)))
theorem wl_56_7 : Cond.selects RX6 yX6_arePair yX6_arePair ∈ lw_tbl := List.mem_of_getElem? (i := 53) (by decide +kernel)
theorem wl_56_8 : Cond.code yX6_arePair cX6_arePair 3 (some .boolean) ∈ lw_tbl := List.mem_append_right _ (tb_5 _ (List.mem_of_getElem? (i := 123) rfl))
theorem wl_56_9 : Cond.methodLink RX6 298 yX2_fitPairs ∈ lw_tbl := List.mem_append_right _ (tb_5 _ (List.mem_of_getElem? (i := 124) (by decide +kernel)))
theorem wl_56_10 : Cond.instanceMethod yX2_fitPairs ∈ lw_tbl := List.mem_append_right _ (tb_5 _ (List.mem_of_getElem? (i := 125) (by decide +kernel)))
theorem wl_56_11 : Cond.selects RX2 yX2_fitPairs yX2_fitPairs ∈ lw_tbl := List.mem_append_right _ (tb_5 _ (List.mem_of_getElem? (i := 126) (by decide +kernel)))
theorem wl_56_12 : Cond.code yX2_fitPairs cX2_fitPairs 7 none ∈ lw_tbl := List.mem_append_right _ (tb_5 _ (List.mem_of_getElem? (i := 127) rfl))
theorem wl_56_13 : Cond.methodLink RL 144 yX7_pairs ∈ lw_tbl := List.mem_append_right _ (tb_8 _ (List.mem_of_getElem? (i := 95) (by decide +kernel)))
theorem wl_56_14 : Cond.instanceMethod yX7_pairs ∈ lw_tbl := List.mem_append_right _ (tb_8 _ (List.mem_of_getElem? (i := 96) (by decide +kernel)))
theorem wl_56_15 : Cond.selects RX7 yX7_pairs yX7_pairs ∈ lw_tbl := List.mem_append_right _ (tb_8 _ (List.mem_of_getElem? (i := 97) (by decide +kernel)))
theorem wl_56_16 : Cond.code yX7_pairs cX7_pairs 9 (some .int) ∈ lw_tbl := List.mem_append_right _ (tb_8 _ (List.mem_of_getElem? (i := 98) rfl))
theorem wl_56_17 : Cond.methodLink RX7 495 yX7_canPair ∈ lw_tbl := List.mem_append_right _ (tb_8 _ (List.mem_of_getElem? (i := 99) (by decide +kernel)))
theorem wl_56_18 : Cond.instanceMethod yX7_canPair ∈ lw_tbl := List.mem_append_right _ (tb_8 _ (List.mem_of_getElem? (i := 101) (by decide +kernel)))
theorem wl_56_19 : Cond.selects RX7 yX7_canPair yX7_canPair ∈ lw_tbl := List.mem_of_getElem? (i := 116) (by decide +kernel)
theorem wl_56_20 : Cond.code yX7_canPair cX7_canPair 4 (some .boolean) ∈ lw_tbl := List.mem_append_right _ (tb_8 _ (List.mem_of_getElem? (i := 102) rfl))
theorem wl_56_21 : Cond.methodLink RX7 498 yX7_fitsPair ∈ lw_tbl := List.mem_append_right _ (tb_8 _ (List.mem_of_getElem? (i := 103) (by decide +kernel)))
theorem wl_56_22 : Cond.instanceMethod yX7_fitsPair ∈ lw_tbl := List.mem_append_right _ (tb_8 _ (List.mem_of_getElem? (i := 105) (by decide +kernel)))
theorem wl_56_23 : Cond.selects RX7 yX7_fitsPair yX7_fitsPair ∈ lw_tbl := List.mem_of_getElem? (i := 117) (by decide +kernel)
theorem wlr_56 : ∀ w ∈ wsL_law_r56, w ∈ lw_tbl := List.forall_mem_cons.mpr ⟨wl_56_0, List.forall_mem_cons.mpr ⟨wl_56_1, List.forall_mem_cons.mpr ⟨wl_56_2, List.forall_mem_cons.mpr ⟨wl_56_3, List.forall_mem_cons.mpr ⟨wl_56_4, List.forall_mem_cons.mpr ⟨wl_56_5, List.forall_mem_cons.mpr ⟨wl_56_6, List.forall_mem_cons.mpr ⟨wl_56_7, List.forall_mem_cons.mpr ⟨wl_56_8, List.forall_mem_cons.mpr ⟨wl_56_9, List.forall_mem_cons.mpr ⟨wl_56_10, List.forall_mem_cons.mpr ⟨wl_56_11, List.forall_mem_cons.mpr ⟨wl_56_12, List.forall_mem_cons.mpr ⟨wl_56_13, List.forall_mem_cons.mpr ⟨wl_56_14, List.forall_mem_cons.mpr ⟨wl_56_15, List.forall_mem_cons.mpr ⟨wl_56_16, List.forall_mem_cons.mpr ⟨wl_56_17, List.forall_mem_cons.mpr ⟨wl_56_18, List.forall_mem_cons.mpr ⟨wl_56_19, List.forall_mem_cons.mpr ⟨wl_56_20, List.forall_mem_cons.mpr ⟨wl_56_21, List.forall_mem_cons.mpr ⟨wl_56_22, List.forall_mem_cons.mpr ⟨wl_56_23, fun _ h => absurd h List.not_mem_nil⟩⟩⟩⟩⟩⟩⟩⟩⟩⟩⟩⟩⟩⟩⟩⟩⟩⟩⟩⟩⟩⟩⟩⟩
theorem wl_57_0 : Cond.code yX7_fitsPair cX7_fitsPair 6 (some .boolean) ∈ lw_tbl := List.mem_append_right _ (tb_8 _ (List.mem_of_getElem? (i := 106) rfl))
theorem wl_57_1 : Cond.methodLink RL 145 yX6_test ∈ lw_tbl := List.mem_append_right _ (tb_5 _ (List.mem_of_getElem? (i := 128) (by decide +kernel)))
theorem wl_57_2 : Cond.instanceMethod yX6_test ∈ lw_tbl := List.mem_append_right _ (tb_5 _ (List.mem_of_getElem? (i := 129) (by decide +kernel)))
theorem wl_57_3 : Cond.selects RX6 yX6_test yX6_test ∈ lw_tbl := List.mem_append_right _ (tb_5 _ (List.mem_of_getElem? (i := 130) (by decide +kernel)))
theorem wl_57_4 : Cond.code yX6_test cX6_test 5 (some .int) ∈ lw_tbl := List.mem_append_right _ (tb_5 _ (List.mem_of_getElem? (i := 131) rfl))
theorem wl_57_5 : Cond.methodLink RX6 308 yX2_cellThatParts ∈ lw_tbl := List.mem_append_right _ (tb_5 _ (List.mem_of_getElem? (i := 132) (by decide +kernel)))
theorem wl_57_6 : Cond.instanceMethod yX2_cellThatParts ∈ lw_tbl := List.mem_append_right _ (tb_5 _ (List.mem_of_getElem? (i := 133) (by decide +kernel)))
theorem wl_57_7 : Cond.selects RX2 yX2_cellThatParts yX2_cellThatParts ∈ lw_tbl := List.mem_append_right _ (tb_5 _ (List.mem_of_getElem? (i := 134) (by decide +kernel)))
theorem wl_57_8 : Cond.code yX2_cellThatParts cX2_cellThatParts 5 (some .int) ∈ lw_tbl := List.mem_append_right _ (tb_5 _ (List.mem_of_getElem? (i := 135) rfl))
theorem wl_57_9 : Cond.methodLink RX2 129 yX2_greatestAlike ∈ lw_tbl := List.mem_append_right _ (tb_5 _ (List.mem_of_getElem? (i := 136) (by decide +kernel)))
theorem wl_57_10 : Cond.instanceMethod yX2_greatestAlike ∈ lw_tbl := List.mem_append_right _ (tb_5 _ (List.mem_of_getElem? (i := 138) (by decide +kernel)))
theorem wl_57_11 : Cond.selects RX2 yX2_greatestAlike yX2_greatestAlike ∈ lw_tbl := List.mem_of_getElem? (i := 54) (by decide +kernel)
theorem wl_57_12 : Cond.code yX2_greatestAlike cX2_greatestAlike 7 (some .int) ∈ lw_tbl := List.mem_append_right _ (tb_5 _ (List.mem_of_getElem? (i := 139) rfl))
theorem wl_57_13 : Cond.methodLink RX2 132 Lib.Math.min.name ∈ lw_tbl := List.mem_append_right _ (tb_5 _ (List.mem_of_getElem? (i := 140) (by decide +kernel)))
theorem wl_57_14 : Cond.methodLink RL 148 yX7_test ∈ lw_tbl := List.mem_append_right _ (tb_8 _ (List.mem_of_getElem? (i := 107) (by decide +kernel)))
theorem wl_57_15 : Cond.instanceMethod yX7_test ∈ lw_tbl := List.mem_append_right _ (tb_8 _ (List.mem_of_getElem? (i := 108) (by decide +kernel)))
theorem wl_57_16 : Cond.selects RX7 yX7_test yX7_test ∈ lw_tbl := List.mem_append_right _ (tb_8 _ (List.mem_of_getElem? (i := 109) (by decide +kernel)))
theorem wl_57_17 : Cond.code yX7_test cX7_test 9 (some .int) ∈ lw_tbl := List.mem_append_right _ (tb_8 _ (List.mem_of_getElem? (i := 110) rfl))
theorem wl_57_18 : Cond.methodLink RX7 502 yX7_greatest ∈ lw_tbl := List.mem_append_right _ (tb_8 _ (List.mem_of_getElem? (i := 111) (by decide +kernel)))
theorem wl_57_19 : Cond.instanceMethod yX7_greatest ∈ lw_tbl := List.mem_append_right _ (tb_8 _ (List.mem_of_getElem? (i := 113) (by decide +kernel)))
theorem wl_57_20 : Cond.selects RX7 yX7_greatest yX7_greatest ∈ lw_tbl := List.mem_of_getElem? (i := 118) (by decide +kernel)
theorem wl_57_21 : Cond.code yX7_greatest cX7_greatest 7 (some .int) ∈ lw_tbl := List.mem_append_right _ (tb_8 _ (List.mem_of_getElem? (i := 114) rfl))
theorem wl_57_22 : Cond.methodLink RL 149 yX6_hidden ∈ lw_tbl := List.mem_append_right _ (tb_5 _ (List.mem_of_getElem? (i := 141) (by decide +kernel)))
theorem wl_57_23 : Cond.instanceMethod yX6_hidden ∈ lw_tbl := List.mem_append_right _ (tb_5 _ (List.mem_of_getElem? (i := 142) (by decide +kernel)))
theorem wlr_57 : ∀ w ∈ wsL_law_r57, w ∈ lw_tbl := List.forall_mem_cons.mpr ⟨wl_57_0, List.forall_mem_cons.mpr ⟨wl_57_1, List.forall_mem_cons.mpr ⟨wl_57_2, List.forall_mem_cons.mpr ⟨wl_57_3, List.forall_mem_cons.mpr ⟨wl_57_4, List.forall_mem_cons.mpr ⟨wl_57_5, List.forall_mem_cons.mpr ⟨wl_57_6, List.forall_mem_cons.mpr ⟨wl_57_7, List.forall_mem_cons.mpr ⟨wl_57_8, List.forall_mem_cons.mpr ⟨wl_57_9, List.forall_mem_cons.mpr ⟨wl_57_10, List.forall_mem_cons.mpr ⟨wl_57_11, List.forall_mem_cons.mpr ⟨wl_57_12, List.forall_mem_cons.mpr ⟨wl_57_13, List.forall_mem_cons.mpr ⟨wl_57_14, List.forall_mem_cons.mpr ⟨wl_57_15, List.forall_mem_cons.mpr ⟨wl_57_16, List.forall_mem_cons.mpr ⟨wl_57_17, List.forall_mem_cons.mpr ⟨wl_57_18, List.forall_mem_cons.mpr ⟨wl_57_19, List.forall_mem_cons.mpr ⟨wl_57_20, List.forall_mem_cons.mpr ⟨wl_57_21, List.forall_mem_cons.mpr ⟨wl_57_22, List.forall_mem_cons.mpr ⟨wl_57_23, fun _ h => absurd h List.not_mem_nil⟩⟩⟩⟩⟩⟩⟩⟩⟩⟩⟩⟩⟩⟩⟩⟩⟩⟩⟩⟩⟩⟩⟩⟩
theorem wl_58_0 : Cond.selects RX6 yX6_hidden yX6_hidden ∈ lw_tbl := List.mem_append_right _ (tb_5 _ (List.mem_of_getElem? (i := 143) (by decide +kernel)))
theorem wl_58_1 : Cond.code yX6_hidden cX6_hidden 3 (some .int) ∈ lw_tbl := List.mem_append_right _ (tb_5 _ (List.mem_of_getElem? (i := 144) rfl))
theorem wl_58_2 : Cond.methodLink RX6 311 yX2_lookForPump ∈ lw_tbl := List.mem_append_right _ (tb_5 _ (List.mem_of_getElem? (i := 145) (by decide +kernel)))
theorem wl_58_3 : Cond.instanceMethod yX2_lookForPump ∈ lw_tbl := List.mem_append_right _ (tb_5 _ (List.mem_of_getElem? (i := 146) (by decide +kernel)))
theorem wl_58_4 : Cond.selects RX2 yX2_lookForPump yX2_lookForPump ∈ lw_tbl := List.mem_append_right _ (tb_5 _ (List.mem_of_getElem? (i := 147) (by decide +kernel)))
theorem wl_58_5 : Cond.code yX2_lookForPump cX2_lookForPump 12 none ∈ lw_tbl := List.mem_append_right _ (tb_5 _ (List.mem_of_getElem? (i := 148) rfl))
theorem wl_58_6 : Cond.methodLink RX2 135 yX2_keepBegins ∈ lw_tbl := List.mem_append_right _ (tb_5 _ (List.mem_of_getElem? (i := 149) (by decide +kernel)))
theorem wl_58_7 : Cond.instanceMethod yX2_keepBegins ∈ lw_tbl := List.mem_append_right _ (tb_5 _ (List.mem_of_getElem? (i := 151) (by decide +kernel)))
theorem wl_58_8 : Cond.selects RX2 yX2_keepBegins yX2_keepBegins ∈ lw_tbl := List.mem_of_getElem? (i := 55) (by decide +kernel)
theorem wl_58_9 : Cond.code yX2_keepBegins cX2_keepBegins 4 (some .int) ∈ lw_tbl := List.mem_append_right _ (tb_5 _ (List.mem_of_getElem? (i := 152) rfl))
theorem wl_58_10 : Cond.methodLink RX2 164 yX2_makeBegins ∈ lw_tbl := List.mem_append_right _ (tb_5 _ (List.mem_of_getElem? (i := 153) (by decide +kernel)))
theorem wl_58_11 : Cond.instanceMethod yX2_makeBegins ∈ lw_tbl := List.mem_append_right _ (tb_5 _ (List.mem_of_getElem? (i := 155) (by decide +kernel)))
theorem wl_58_12 : Cond.selects RX2 yX2_makeBegins yX2_makeBegins ∈ lw_tbl := List.mem_of_getElem? (i := 56) (by decide +kernel)
theorem wl_58_13 : Cond.code yX2_makeBegins cX2_makeBegins 2 none ∈ lw_tbl := List.mem_append_right _ (tb_5 _ (List.mem_of_getElem? (i := 156) rfl))
theorem wl_58_14 : Cond.methodLink RX2 167 yX1_become ∈ lw_tbl := List.mem_append_right _ (tb_5 _ (List.mem_of_getElem? (i := 157) (by decide +kernel)))
theorem wl_58_15 : Cond.methodLink RX2 138 yX2_takesFor ∈ lw_tbl := List.mem_append_right _ (tb_5 _ (List.mem_of_getElem? (i := 158) (by decide +kernel)))
theorem wl_58_16 : Cond.static yX2_takesFor ∈ lw_tbl := List.mem_append_right _ (tb_5 _ (List.mem_of_getElem? (i := 159) (by decide +kernel)))
theorem wl_58_17 : Cond.code yX2_takesFor cX2_takesFor 2 (some .int) ∈ lw_tbl := List.mem_append_right _ (tb_5 _ (List.mem_of_getElem? (i := 160) rfl))
theorem wl_58_18 : Cond.methodLink RX2 141 yX4_setPump ∈ lw_tbl := List.mem_append_right _ (tb_5 _ (List.mem_of_getElem? (i := 161) (by decide +kernel)))
theorem wl_58_19 : Cond.instanceMethod yX4_setPump ∈ lw_tbl := List.mem_append_right _ (tb_5 _ (List.mem_of_getElem? (i := 162) (by decide +kernel)))
theorem wl_58_20 : Cond.selects RX4 yX4_setPump yX4_setPump ∈ lw_tbl := List.mem_append_right _ (tb_5 _ (List.mem_of_getElem? (i := 163) (by decide +kernel)))
theorem wl_58_21 : Cond.code yX4_setPump cX4_setPump 5 none ∈ lw_tbl := List.mem_append_right _ (tb_5 _ (List.mem_of_getElem? (i := 164) rfl))
theorem wl_58_22 : Cond.methodLink RX2 145 yX2_explains ∈ lw_tbl := List.mem_append_right _ (tb_5 _ (List.mem_of_getElem? (i := 165) (by decide +kernel)))
theorem wl_58_23 : Cond.instanceMethod yX2_explains ∈ lw_tbl := List.mem_append_right _ (tb_5 _ (List.mem_of_getElem? (i := 167) (by decide +kernel)))
theorem wlr_58 : ∀ w ∈ wsL_law_r58, w ∈ lw_tbl := List.forall_mem_cons.mpr ⟨wl_58_0, List.forall_mem_cons.mpr ⟨wl_58_1, List.forall_mem_cons.mpr ⟨wl_58_2, List.forall_mem_cons.mpr ⟨wl_58_3, List.forall_mem_cons.mpr ⟨wl_58_4, List.forall_mem_cons.mpr ⟨wl_58_5, List.forall_mem_cons.mpr ⟨wl_58_6, List.forall_mem_cons.mpr ⟨wl_58_7, List.forall_mem_cons.mpr ⟨wl_58_8, List.forall_mem_cons.mpr ⟨wl_58_9, List.forall_mem_cons.mpr ⟨wl_58_10, List.forall_mem_cons.mpr ⟨wl_58_11, List.forall_mem_cons.mpr ⟨wl_58_12, List.forall_mem_cons.mpr ⟨wl_58_13, List.forall_mem_cons.mpr ⟨wl_58_14, List.forall_mem_cons.mpr ⟨wl_58_15, List.forall_mem_cons.mpr ⟨wl_58_16, List.forall_mem_cons.mpr ⟨wl_58_17, List.forall_mem_cons.mpr ⟨wl_58_18, List.forall_mem_cons.mpr ⟨wl_58_19, List.forall_mem_cons.mpr ⟨wl_58_20, List.forall_mem_cons.mpr ⟨wl_58_21, List.forall_mem_cons.mpr ⟨wl_58_22, List.forall_mem_cons.mpr ⟨wl_58_23, fun _ h => absurd h List.not_mem_nil⟩⟩⟩⟩⟩⟩⟩⟩⟩⟩⟩⟩⟩⟩⟩⟩⟩⟩⟩⟩⟩⟩⟩⟩
theorem wl_59_0 : Cond.selects RX2 yX2_explains yX2_explains ∈ lw_tbl := List.mem_of_getElem? (i := 57) (by decide +kernel)
theorem wl_59_1 : Cond.code yX2_explains cX2_explains 5 (some .boolean) ∈ lw_tbl := List.mem_append_right _ (tb_5 _ (List.mem_of_getElem? (i := 168) rfl))
theorem wl_59_2 : Cond.fieldLink RX2 158 "WellVillages$Plan" "pumpFrom" "I" ∈ lw_tbl := List.mem_append_right _ (tb_1 _ (List.mem_of_getElem? (i := 220) (by decide +kernel)))
theorem wl_59_3 : Cond.fieldLink RX2 170 "WellVillages$Course" "pumped" "I" ∈ lw_tbl := List.mem_append_right _ (tb_2 _ (List.mem_of_getElem? (i := 11) (by decide +kernel)))
theorem wl_59_4 : Cond.fieldLink RX2 161 "WellVillages$Plan" "pumpTo" "I" ∈ lw_tbl := List.mem_append_right _ (tb_1 _ (List.mem_of_getElem? (i := 222) (by decide +kernel)))
theorem wl_59_5 : Cond.fieldLink RX2 155 "WellVillages$Plan" "pumpTakes" "I" ∈ lw_tbl := List.mem_append_right _ (tb_1 _ (List.mem_of_getElem? (i := 218) (by decide +kernel)))
theorem wl_59_6 : Cond.methodLink RX2 148 yX2_keepPump ∈ lw_tbl := List.mem_append_right _ (tb_5 _ (List.mem_of_getElem? (i := 169) (by decide +kernel)))
theorem wl_59_7 : Cond.instanceMethod yX2_keepPump ∈ lw_tbl := List.mem_append_right _ (tb_5 _ (List.mem_of_getElem? (i := 171) (by decide +kernel)))
theorem wl_59_8 : Cond.selects RX2 yX2_keepPump yX2_keepPump ∈ lw_tbl := List.mem_of_getElem? (i := 58) (by decide +kernel)
theorem wl_59_9 : Cond.code yX2_keepPump cX2_keepPump 2 none ∈ lw_tbl := List.mem_append_right _ (tb_5 _ (List.mem_of_getElem? (i := 172) rfl))
theorem wl_59_10 : Cond.fieldLink RX2 152 "WellVillages$Plan" "pumpCell" "I" ∈ lw_tbl := List.mem_append_right _ (tb_1 _ (List.mem_of_getElem? (i := 215) (by decide +kernel)))
theorem wl_59_11 : Cond.methodLink RX6 314 yX2_pumpAnswer ∈ lw_tbl := List.mem_append_right _ (tb_5 _ (List.mem_of_getElem? (i := 173) (by decide +kernel)))
theorem wl_59_12 : Cond.instanceMethod yX2_pumpAnswer ∈ lw_tbl := List.mem_append_right _ (tb_5 _ (List.mem_of_getElem? (i := 174) (by decide +kernel)))
theorem wl_59_13 : Cond.selects RX2 yX2_pumpAnswer yX2_pumpAnswer ∈ lw_tbl := List.mem_append_right _ (tb_5 _ (List.mem_of_getElem? (i := 175) (by decide +kernel)))
theorem wl_59_14 : Cond.code yX2_pumpAnswer cX2_pumpAnswer 4 (some .int) ∈ lw_tbl := List.mem_append_right _ (tb_5 _ (List.mem_of_getElem? (i := 176) rfl))
theorem wl_59_15 : Cond.methodLink RL 152 yX7_hidden ∈ lw_tbl := List.mem_append_right _ (tb_8 _ (List.mem_of_getElem? (i := 115) (by decide +kernel)))
theorem wl_59_16 : Cond.instanceMethod yX7_hidden ∈ lw_tbl := List.mem_append_right _ (tb_8 _ (List.mem_of_getElem? (i := 116) (by decide +kernel)))
theorem wl_59_17 : Cond.selects RX7 yX7_hidden yX7_hidden ∈ lw_tbl := List.mem_append_right _ (tb_8 _ (List.mem_of_getElem? (i := 117) (by decide +kernel)))
theorem wl_59_18 : Cond.code yX7_hidden cX7_hidden 4 (some .int) ∈ lw_tbl := List.mem_append_right _ (tb_8 _ (List.mem_of_getElem? (i := 118) rfl))
theorem wl_59_19 : Cond.methodLink RX7 505 yX7_seeksPump ∈ lw_tbl := List.mem_append_right _ (tb_8 _ (List.mem_of_getElem? (i := 119) (by decide +kernel)))
theorem wl_59_20 : Cond.instanceMethod yX7_seeksPump ∈ lw_tbl := List.mem_append_right _ (tb_8 _ (List.mem_of_getElem? (i := 121) (by decide +kernel)))
theorem wl_59_21 : Cond.selects RX7 yX7_seeksPump yX7_seeksPump ∈ lw_tbl := List.mem_of_getElem? (i := 119) (by decide +kernel)
theorem wl_59_22 : Cond.code yX7_seeksPump cX7_seeksPump 7 (some .int) ∈ lw_tbl := List.mem_append_right _ (tb_8 _ (List.mem_of_getElem? (i := 122) rfl))
theorem wl_59_23 : Cond.methodLink RL 153 yX6_hold ∈ lw_tbl := List.mem_append_right _ (tb_4 _ (List.mem_of_getElem? (i := 136) (by decide +kernel)))
theorem wlr_59 : ∀ w ∈ wsL_law_r59, w ∈ lw_tbl := List.forall_mem_cons.mpr ⟨wl_59_0, List.forall_mem_cons.mpr ⟨wl_59_1, List.forall_mem_cons.mpr ⟨wl_59_2, List.forall_mem_cons.mpr ⟨wl_59_3, List.forall_mem_cons.mpr ⟨wl_59_4, List.forall_mem_cons.mpr ⟨wl_59_5, List.forall_mem_cons.mpr ⟨wl_59_6, List.forall_mem_cons.mpr ⟨wl_59_7, List.forall_mem_cons.mpr ⟨wl_59_8, List.forall_mem_cons.mpr ⟨wl_59_9, List.forall_mem_cons.mpr ⟨wl_59_10, List.forall_mem_cons.mpr ⟨wl_59_11, List.forall_mem_cons.mpr ⟨wl_59_12, List.forall_mem_cons.mpr ⟨wl_59_13, List.forall_mem_cons.mpr ⟨wl_59_14, List.forall_mem_cons.mpr ⟨wl_59_15, List.forall_mem_cons.mpr ⟨wl_59_16, List.forall_mem_cons.mpr ⟨wl_59_17, List.forall_mem_cons.mpr ⟨wl_59_18, List.forall_mem_cons.mpr ⟨wl_59_19, List.forall_mem_cons.mpr ⟨wl_59_20, List.forall_mem_cons.mpr ⟨wl_59_21, List.forall_mem_cons.mpr ⟨wl_59_22, List.forall_mem_cons.mpr ⟨wl_59_23, fun _ h => absurd h List.not_mem_nil⟩⟩⟩⟩⟩⟩⟩⟩⟩⟩⟩⟩⟩⟩⟩⟩⟩⟩⟩⟩⟩⟩⟩⟩
theorem wl_60_0 : Cond.instanceMethod yX6_hold ∈ lw_tbl := List.mem_append_right _ (tb_4 _ (List.mem_of_getElem? (i := 137) (by decide +kernel)))
theorem wl_60_1 : Cond.selects RX6 yX6_hold yX6_hold ∈ lw_tbl := List.mem_append_right _ (tb_4 _ (List.mem_of_getElem? (i := 138) (by decide +kernel)))
theorem wl_60_2 : Cond.code yX6_hold cX6_hold 2 (some .boolean) ∈ lw_tbl := List.mem_append_right _ (tb_4 _ (List.mem_of_getElem? (i := 139) rfl))
theorem wl_60_3 : Cond.methodLink RX6 196 yX6_isSlot ∈ lw_tbl := List.mem_append_right _ (tb_4 _ (List.mem_of_getElem? (i := 140) (by decide +kernel)))
theorem wl_60_4 : Cond.instanceMethod yX6_isSlot ∈ lw_tbl := List.mem_append_right _ (tb_4 _ (List.mem_of_getElem? (i := 142) (by decide +kernel)))
theorem wl_60_5 : Cond.selects RX6 yX6_isSlot yX6_isSlot ∈ lw_tbl := List.mem_of_getElem? (i := 34) (by decide +kernel)
theorem wl_60_6 : Cond.code yX6_isSlot cX6_isSlot 2 (some .boolean) ∈ lw_tbl := List.mem_append_right _ (tb_4 _ (List.mem_of_getElem? (i := 143) rfl))
theorem wl_60_7 : Cond.methodLink RL 157 yX7_hold ∈ lw_tbl := List.mem_append_right _ (tb_8 _ (List.mem_of_getElem? (i := 123) (by decide +kernel)))
theorem wl_60_8 : Cond.instanceMethod yX7_hold ∈ lw_tbl := List.mem_append_right _ (tb_8 _ (List.mem_of_getElem? (i := 124) (by decide +kernel)))
theorem wl_60_9 : Cond.selects RX7 yX7_hold yX7_hold ∈ lw_tbl := List.mem_append_right _ (tb_8 _ (List.mem_of_getElem? (i := 125) (by decide +kernel)))
theorem wl_60_10 : Cond.code yX7_hold cX7_hold 3 (some .boolean) ∈ lw_tbl := List.mem_append_right _ (tb_8 _ (List.mem_of_getElem? (i := 126) rfl))
theorem wl_60_11 : Cond.methodLink RL 158 yX6_restore ∈ lw_tbl := List.mem_append_right _ (tb_4 _ (List.mem_of_getElem? (i := 144) (by decide +kernel)))
theorem wl_60_12 : Cond.instanceMethod yX6_restore ∈ lw_tbl := List.mem_append_right _ (tb_4 _ (List.mem_of_getElem? (i := 145) (by decide +kernel)))
theorem wl_60_13 : Cond.selects RX6 yX6_restore yX6_restore ∈ lw_tbl := List.mem_append_right _ (tb_4 _ (List.mem_of_getElem? (i := 146) (by decide +kernel)))
theorem wl_60_14 : Cond.code yX6_restore cX6_restore 2 (some .boolean) ∈ lw_tbl := List.mem_append_right _ (tb_4 _ (List.mem_of_getElem? (i := 147) rfl))
theorem wl_60_15 : Cond.methodLink RL 161 yX7_restore ∈ lw_tbl := List.mem_append_right _ (tb_8 _ (List.mem_of_getElem? (i := 127) (by decide +kernel)))
theorem wl_60_16 : Cond.instanceMethod yX7_restore ∈ lw_tbl := List.mem_append_right _ (tb_8 _ (List.mem_of_getElem? (i := 128) (by decide +kernel)))
theorem wl_60_17 : Cond.selects RX7 yX7_restore yX7_restore ∈ lw_tbl := List.mem_append_right _ (tb_8 _ (List.mem_of_getElem? (i := 129) (by decide +kernel)))
theorem wl_60_18 : Cond.code yX7_restore cX7_restore 3 (some .boolean) ∈ lw_tbl := List.mem_append_right _ (tb_8 _ (List.mem_of_getElem? (i := 130) rfl))
theorem wl_60_19 : Cond.methodLink RL 162 yX6_count ∈ lw_tbl := List.mem_append_right _ (tb_4 _ (List.mem_of_getElem? (i := 66) (by decide +kernel)))
theorem wl_60_20 : Cond.instanceMethod yX6_count ∈ lw_tbl := List.mem_append_right _ (tb_4 _ (List.mem_of_getElem? (i := 67) (by decide +kernel)))
theorem wl_60_21 : Cond.selects RX6 yX6_count yX6_count ∈ lw_tbl := List.mem_append_right _ (tb_4 _ (List.mem_of_getElem? (i := 68) (by decide +kernel)))
theorem wl_60_22 : Cond.code yX6_count cX6_count 2 (some .int) ∈ lw_tbl := List.mem_append_right _ (tb_4 _ (List.mem_of_getElem? (i := 69) rfl))
theorem wl_60_23 : Cond.methodLink RX6 184 yX6_slotsHeld ∈ lw_tbl := List.mem_append_right _ (tb_4 _ (List.mem_of_getElem? (i := 70) (by decide +kernel)))
theorem wlr_60 : ∀ w ∈ wsL_law_r60, w ∈ lw_tbl := List.forall_mem_cons.mpr ⟨wl_60_0, List.forall_mem_cons.mpr ⟨wl_60_1, List.forall_mem_cons.mpr ⟨wl_60_2, List.forall_mem_cons.mpr ⟨wl_60_3, List.forall_mem_cons.mpr ⟨wl_60_4, List.forall_mem_cons.mpr ⟨wl_60_5, List.forall_mem_cons.mpr ⟨wl_60_6, List.forall_mem_cons.mpr ⟨wl_60_7, List.forall_mem_cons.mpr ⟨wl_60_8, List.forall_mem_cons.mpr ⟨wl_60_9, List.forall_mem_cons.mpr ⟨wl_60_10, List.forall_mem_cons.mpr ⟨wl_60_11, List.forall_mem_cons.mpr ⟨wl_60_12, List.forall_mem_cons.mpr ⟨wl_60_13, List.forall_mem_cons.mpr ⟨wl_60_14, List.forall_mem_cons.mpr ⟨wl_60_15, List.forall_mem_cons.mpr ⟨wl_60_16, List.forall_mem_cons.mpr ⟨wl_60_17, List.forall_mem_cons.mpr ⟨wl_60_18, List.forall_mem_cons.mpr ⟨wl_60_19, List.forall_mem_cons.mpr ⟨wl_60_20, List.forall_mem_cons.mpr ⟨wl_60_21, List.forall_mem_cons.mpr ⟨wl_60_22, List.forall_mem_cons.mpr ⟨wl_60_23, fun _ h => absurd h List.not_mem_nil⟩⟩⟩⟩⟩⟩⟩⟩⟩⟩⟩⟩⟩⟩⟩⟩⟩⟩⟩⟩⟩⟩⟩⟩
theorem wl_61_0 : Cond.instanceMethod yX6_slotsHeld ∈ lw_tbl := List.mem_append_right _ (tb_4 _ (List.mem_of_getElem? (i := 72) (by decide +kernel)))
theorem wl_61_1 : Cond.selects RX6 yX6_slotsHeld yX6_slotsHeld ∈ lw_tbl := List.mem_of_getElem? (i := 29) (by decide +kernel)
theorem wl_61_2 : Cond.code yX6_slotsHeld cX6_slotsHeld 3 (some .int) ∈ lw_tbl := List.mem_append_right _ (tb_4 _ (List.mem_of_getElem? (i := 73) rfl))
theorem wl_61_3 : Cond.methodLink RL 165 yX7_count ∈ lw_tbl := List.mem_append_right _ (tb_8 _ (List.mem_of_getElem? (i := 131) (by decide +kernel)))
theorem wl_61_4 : Cond.instanceMethod yX7_count ∈ lw_tbl := List.mem_append_right _ (tb_8 _ (List.mem_of_getElem? (i := 132) (by decide +kernel)))
theorem wl_61_5 : Cond.selects RX7 yX7_count yX7_count ∈ lw_tbl := List.mem_append_right _ (tb_8 _ (List.mem_of_getElem? (i := 133) (by decide +kernel)))
theorem wl_61_6 : Cond.code yX7_count cX7_count 5 (some .int) ∈ lw_tbl := List.mem_append_right _ (tb_8 _ (List.mem_of_getElem? (i := 134) rfl))
theorem wlr_61 : ∀ w ∈ wsL_law_r61, w ∈ lw_tbl := List.forall_mem_cons.mpr ⟨wl_61_0, List.forall_mem_cons.mpr ⟨wl_61_1, List.forall_mem_cons.mpr ⟨wl_61_2, List.forall_mem_cons.mpr ⟨wl_61_3, List.forall_mem_cons.mpr ⟨wl_61_4, List.forall_mem_cons.mpr ⟨wl_61_5, List.forall_mem_cons.mpr ⟨wl_61_6, fun _ h => absurd h List.not_mem_nil⟩⟩⟩⟩⟩⟩⟩
theorem wlY0 : ∀ w ∈ wsX00, w ∈ tables_1_2 := by decide +kernel
theorem wlX0 : ∀ w ∈ wsX00, w ∈ lw_tbl := fun w h => List.mem_append_right _ (tb_2 w (wlY0 w h))
theorem wlY1 : ∀ w ∈ wsX10, w ∈ tables_1_2 := by decide +kernel
theorem wlX1 : ∀ w ∈ wsX10, w ∈ lw_tbl := fun w h => List.mem_append_right _ (tb_2 w (wlY1 w h))
theorem wlY2 : ∀ w ∈ wsX20, w ∈ tables_1_2 := by decide +kernel
theorem wlX2 : ∀ w ∈ wsX20, w ∈ lw_tbl := fun w h => List.mem_append_right _ (tb_2 w (wlY2 w h))
theorem wlY3 : ∀ w ∈ wsX30, w ∈ tables_1_1 := by decide +kernel
theorem wlX3 : ∀ w ∈ wsX30, w ∈ lw_tbl := fun w h => List.mem_append_right _ (tb_1 w (wlY3 w h))
theorem wlY4 : ∀ w ∈ wsX40, w ∈ tables_1_1 := by decide +kernel
theorem wlX4 : ∀ w ∈ wsX40, w ∈ lw_tbl := fun w h => List.mem_append_right _ (tb_1 w (wlY4 w h))
theorem wlY5 : ∀ w ∈ wsX50, w ∈ tables_1_1 := by decide +kernel
theorem wlX5 : ∀ w ∈ wsX50, w ∈ lw_tbl := fun w h => List.mem_append_right _ (tb_1 w (wlY5 w h))
theorem wlY6 : ∀ w ∈ wsX60, w ∈ tables_1_2 := by decide +kernel
theorem wlX6 : ∀ w ∈ wsX60, w ∈ lw_tbl := fun w h => List.mem_append_right _ (tb_2 w (wlY6 w h))
theorem wlY7 : ∀ w ∈ wsX70, w ∈ tables_1_6 := by decide +kernel
theorem wlX7 : ∀ w ∈ wsX70, w ∈ lw_tbl := fun w h => List.mem_append_right _ (tb_6 w (wlY7 w h))
theorem wsL_law_in : ∀ w ∈ wsL_law, w ∈ lw_tbl := by
  intro w h
  unfold wsL_law at h
  rcases List.mem_append.mp h with h | h
  · rcases List.mem_append.mp h with h | h
    · rcases List.mem_append.mp h with h | h
      · rcases List.mem_append.mp h with h | h
        · rcases List.mem_append.mp h with h | h
          · rcases List.mem_append.mp h with h | h
            · rcases List.mem_append.mp h with h | h
              · rcases List.mem_append.mp h with h | h
                · rcases List.mem_append.mp h with h | h
                  · revert h
                    intro h
                    rcases List.mem_append.mp h with h | h
                    · exact wlr_1 w h
                    revert h
                    intro h
                    rcases List.mem_append.mp h with h | h
                    · exact wlr_2 w h
                    revert h
                    intro h
                    rcases List.mem_append.mp h with h | h
                    · exact wlr_3 w h
                    revert h
                    intro h
                    rcases List.mem_append.mp h with h | h
                    · exact wlr_4 w h
                    revert h
                    intro h
                    rcases List.mem_append.mp h with h | h
                    · exact wlr_5 w h
                    revert h
                    intro h
                    rcases List.mem_append.mp h with h | h
                    · exact wlr_6 w h
                    revert h
                    intro h
                    rcases List.mem_append.mp h with h | h
                    · exact wlr_7 w h
                    revert h
                    intro h
                    rcases List.mem_append.mp h with h | h
                    · exact wlr_8 w h
                    revert h
                    intro h
                    rcases List.mem_append.mp h with h | h
                    · exact wlr_9 w h
                    revert h
                    intro h
                    rcases List.mem_append.mp h with h | h
                    · exact wlr_10 w h
                    revert h
                    intro h
                    rcases List.mem_append.mp h with h | h
                    · exact wlr_11 w h
                    revert h
                    intro h
                    rcases List.mem_append.mp h with h | h
                    · exact wlr_12 w h
                    revert h
                    intro h
                    rcases List.mem_append.mp h with h | h
                    · exact wlr_13 w h
                    revert h
                    intro h
                    rcases List.mem_append.mp h with h | h
                    · exact wlr_14 w h
                    revert h
                    intro h
                    rcases List.mem_append.mp h with h | h
                    · exact wlr_15 w h
                    revert h
                    intro h
                    rcases List.mem_append.mp h with h | h
                    · exact wlr_16 w h
                    revert h
                    intro h
                    rcases List.mem_append.mp h with h | h
                    · exact wlr_17 w h
                    revert h
                    intro h
                    rcases List.mem_append.mp h with h | h
                    · exact wlr_18 w h
                    revert h
                    intro h
                    rcases List.mem_append.mp h with h | h
                    · exact wlr_19 w h
                    revert h
                    intro h
                    rcases List.mem_append.mp h with h | h
                    · exact wlr_20 w h
                    revert h
                    intro h
                    rcases List.mem_append.mp h with h | h
                    · exact wlr_21 w h
                    revert h
                    intro h
                    rcases List.mem_append.mp h with h | h
                    · exact wlr_22 w h
                    revert h
                    intro h
                    rcases List.mem_append.mp h with h | h
                    · exact wlr_23 w h
                    revert h
                    intro h
                    rcases List.mem_append.mp h with h | h
                    · exact wlr_24 w h
                    revert h
                    intro h
                    rcases List.mem_append.mp h with h | h
                    · exact wlr_25 w h
                    revert h
                    intro h
                    rcases List.mem_append.mp h with h | h
                    · exact wlr_26 w h
                    revert h
                    intro h
                    rcases List.mem_append.mp h with h | h
                    · exact wlr_27 w h
                    revert h
                    intro h
                    rcases List.mem_append.mp h with h | h
                    · exact wlr_28 w h
                    revert h
                    intro h
                    rcases List.mem_append.mp h with h | h
                    · exact wlr_29 w h
                    revert h
                    intro h
                    rcases List.mem_append.mp h with h | h
                    · exact wlr_30 w h
                    revert h
                    intro h
                    rcases List.mem_append.mp h with h | h
                    · exact wlr_31 w h
                    revert h
                    intro h
                    rcases List.mem_append.mp h with h | h
                    · exact wlr_32 w h
                    revert h
                    intro h
                    rcases List.mem_append.mp h with h | h
                    · exact wlr_33 w h
                    revert h
                    intro h
                    rcases List.mem_append.mp h with h | h
                    · exact wlr_34 w h
                    revert h
                    intro h
                    rcases List.mem_append.mp h with h | h
                    · exact wlr_35 w h
                    revert h
                    intro h
                    rcases List.mem_append.mp h with h | h
                    · exact wlr_36 w h
                    revert h
                    intro h
                    rcases List.mem_append.mp h with h | h
                    · exact wlr_37 w h
                    revert h
                    intro h
                    rcases List.mem_append.mp h with h | h
                    · exact wlr_38 w h
                    revert h
                    intro h
                    rcases List.mem_append.mp h with h | h
                    · exact wlr_39 w h
                    revert h
                    intro h
                    rcases List.mem_append.mp h with h | h
                    · exact wlr_40 w h
                    revert h
                    intro h
                    rcases List.mem_append.mp h with h | h
                    · exact wlr_41 w h
                    revert h
                    intro h
                    rcases List.mem_append.mp h with h | h
                    · exact wlr_42 w h
                    revert h
                    intro h
                    rcases List.mem_append.mp h with h | h
                    · exact wlr_43 w h
                    revert h
                    intro h
                    rcases List.mem_append.mp h with h | h
                    · exact wlr_44 w h
                    revert h
                    intro h
                    rcases List.mem_append.mp h with h | h
                    · exact wlr_45 w h
                    revert h
                    intro h
                    rcases List.mem_append.mp h with h | h
                    · exact wlr_46 w h
                    revert h
                    intro h
                    rcases List.mem_append.mp h with h | h
                    · exact wlr_47 w h
                    revert h
                    intro h
                    rcases List.mem_append.mp h with h | h
                    · exact wlr_48 w h
                    revert h
                    intro h
                    rcases List.mem_append.mp h with h | h
                    · exact wlr_49 w h
                    revert h
                    intro h
                    rcases List.mem_append.mp h with h | h
                    · exact wlr_50 w h
                    revert h
                    intro h
                    rcases List.mem_append.mp h with h | h
                    · exact wlr_51 w h
                    revert h
                    intro h
                    rcases List.mem_append.mp h with h | h
                    · exact wlr_52 w h
                    revert h
                    intro h
                    rcases List.mem_append.mp h with h | h
                    · exact wlr_53 w h
                    revert h
                    intro h
                    rcases List.mem_append.mp h with h | h
                    · exact wlr_54 w h
                    revert h
                    intro h
                    rcases List.mem_append.mp h with h | h
                    · exact wlr_55 w h
                    revert h
                    intro h
                    rcases List.mem_append.mp h with h | h
                    · exact wlr_56 w h
                    revert h
                    intro h
                    rcases List.mem_append.mp h with h | h
                    · exact wlr_57 w h
                    revert h
                    intro h
                    rcases List.mem_append.mp h with h | h
                    · exact wlr_58 w h
                    revert h
                    intro h
                    rcases List.mem_append.mp h with h | h
                    · exact wlr_59 w h
                    revert h
                    intro h
                    rcases List.mem_append.mp h with h | h
                    · exact wlr_60 w h
                    revert h
                    intro h
                    exact wlr_61 w h
                  · exact wlX6 w h
                · exact wlX7 w h
              · exact wlX5 w h
            · exact wlX3 w h
          · exact wlX4 w h
        · exact wlX0 w h
      · exact wlX1 w h
    · exact wlX2 w h
  · exact absurd h List.not_mem_nil
