/-! ===== the start of the law ===== -/
abbrev tmL : Nat → Term := fun i => .string RX1 (idxL.getD i 0)
theorem start_flat {args : Array Value} {s : State} (h : (Jvm.Cond.and given_1 narrow_1).before args s = true) (w : Cond) (hw : w ∈ flatC (Jvm.Cond.and given_1 narrow_1)) : w.before args s = true := flat_of_before _ h w hw
theorem sx_0 : (Cond.exactly (.string RX1 59) "java/lang/String") ∈ flatC (Jvm.Cond.and given_1 narrow_1) := by decide +kernel
theorem sc_0 : (Cond.eq (.field (.string RX1 59) "java/lang/String" "coder" "B") (.int 0)) ∈ flatC (Jvm.Cond.and given_1 narrow_1) := by decide +kernel
theorem sa_0 : (Cond.arrayOf (.field (.string RX1 59) "java/lang/String" "value" "[B") .byte) ∈ flatC (Jvm.Cond.and given_1 narrow_1) := by decide +kernel
theorem sl_0 : (Cond.eq (.length (.field (.string RX1 59) "java/lang/String" "value" "[B")) (.int 4)) ∈ flatC (Jvm.Cond.and given_1 narrow_1) := by decide +kernel
theorem se_0_0 : (Cond.eq (.elem (.field (.string RX1 59) "java/lang/String" "value" "[B") (.int 0)) (.int 48)) ∈ flatC (Jvm.Cond.and given_1 narrow_1) := by decide +kernel
theorem se_0_1 : (Cond.eq (.elem (.field (.string RX1 59) "java/lang/String" "value" "[B") (.int 1)) (.int 48)) ∈ flatC (Jvm.Cond.and given_1 narrow_1) := by decide +kernel
theorem se_0_2 : (Cond.eq (.elem (.field (.string RX1 59) "java/lang/String" "value" "[B") (.int 2)) (.int 48)) ∈ flatC (Jvm.Cond.and given_1 narrow_1) := by decide +kernel
theorem se_0_3 : (Cond.eq (.elem (.field (.string RX1 59) "java/lang/String" "value" "[B") (.int 3)) (.int 59)) ∈ flatC (Jvm.Cond.and given_1 narrow_1) := by decide +kernel
theorem sn_0_1 : (Cond.not (Cond.eq (.string RX1 59) (.string RX1 61))) ∈ flatC (Jvm.Cond.and given_1 narrow_1) := by decide +kernel
theorem sn_0_2 : (Cond.not (Cond.eq (.string RX1 59) (.string RX1 63))) ∈ flatC (Jvm.Cond.and given_1 narrow_1) := by decide +kernel
theorem sn_0_3 : (Cond.not (Cond.eq (.string RX1 59) (.string RX1 65))) ∈ flatC (Jvm.Cond.and given_1 narrow_1) := by decide +kernel
theorem sn_0_4 : (Cond.not (Cond.eq (.string RX1 59) (.string RX1 67))) ∈ flatC (Jvm.Cond.and given_1 narrow_1) := by decide +kernel
theorem sn_0_5 : (Cond.not (Cond.eq (.string RX1 59) (.string RX1 69))) ∈ flatC (Jvm.Cond.and given_1 narrow_1) := by decide +kernel
theorem sn_0_6 : (Cond.not (Cond.eq (.string RX1 59) (.string RX1 148))) ∈ flatC (Jvm.Cond.and given_1 narrow_1) := by decide +kernel
theorem sx_1 : (Cond.exactly (.string RX1 61) "java/lang/String") ∈ flatC (Jvm.Cond.and given_1 narrow_1) := by decide +kernel
theorem sc_1 : (Cond.eq (.field (.string RX1 61) "java/lang/String" "coder" "B") (.int 0)) ∈ flatC (Jvm.Cond.and given_1 narrow_1) := by decide +kernel
theorem sa_1 : (Cond.arrayOf (.field (.string RX1 61) "java/lang/String" "value" "[B") .byte) ∈ flatC (Jvm.Cond.and given_1 narrow_1) := by decide +kernel
theorem sl_1 : (Cond.eq (.length (.field (.string RX1 61) "java/lang/String" "value" "[B")) (.int 5)) ∈ flatC (Jvm.Cond.and given_1 narrow_1) := by decide +kernel
theorem se_1_0 : (Cond.eq (.elem (.field (.string RX1 61) "java/lang/String" "value" "[B") (.int 0)) (.int 107)) ∈ flatC (Jvm.Cond.and given_1 narrow_1) := by decide +kernel
theorem se_1_1 : (Cond.eq (.elem (.field (.string RX1 61) "java/lang/String" "value" "[B") (.int 1)) (.int 48)) ∈ flatC (Jvm.Cond.and given_1 narrow_1) := by decide +kernel
theorem se_1_2 : (Cond.eq (.elem (.field (.string RX1 61) "java/lang/String" "value" "[B") (.int 2)) (.int 48)) ∈ flatC (Jvm.Cond.and given_1 narrow_1) := by decide +kernel
theorem se_1_3 : (Cond.eq (.elem (.field (.string RX1 61) "java/lang/String" "value" "[B") (.int 3)) (.int 48)) ∈ flatC (Jvm.Cond.and given_1 narrow_1) := by decide +kernel
theorem se_1_4 : (Cond.eq (.elem (.field (.string RX1 61) "java/lang/String" "value" "[B") (.int 4)) (.int 59)) ∈ flatC (Jvm.Cond.and given_1 narrow_1) := by decide +kernel
theorem sn_1_2 : (Cond.not (Cond.eq (.string RX1 61) (.string RX1 63))) ∈ flatC (Jvm.Cond.and given_1 narrow_1) := by decide +kernel
theorem sn_1_3 : (Cond.not (Cond.eq (.string RX1 61) (.string RX1 65))) ∈ flatC (Jvm.Cond.and given_1 narrow_1) := by decide +kernel
theorem sn_1_4 : (Cond.not (Cond.eq (.string RX1 61) (.string RX1 67))) ∈ flatC (Jvm.Cond.and given_1 narrow_1) := by decide +kernel
theorem sn_1_5 : (Cond.not (Cond.eq (.string RX1 61) (.string RX1 69))) ∈ flatC (Jvm.Cond.and given_1 narrow_1) := by decide +kernel
theorem sn_1_6 : (Cond.not (Cond.eq (.string RX1 61) (.string RX1 148))) ∈ flatC (Jvm.Cond.and given_1 narrow_1) := by decide +kernel
theorem sx_2 : (Cond.exactly (.string RX1 63) "java/lang/String") ∈ flatC (Jvm.Cond.and given_1 narrow_1) := by decide +kernel
theorem sc_2 : (Cond.eq (.field (.string RX1 63) "java/lang/String" "coder" "B") (.int 0)) ∈ flatC (Jvm.Cond.and given_1 narrow_1) := by decide +kernel
theorem sa_2 : (Cond.arrayOf (.field (.string RX1 63) "java/lang/String" "value" "[B") .byte) ∈ flatC (Jvm.Cond.and given_1 narrow_1) := by decide +kernel
theorem sl_2 : (Cond.eq (.length (.field (.string RX1 63) "java/lang/String" "value" "[B")) (.int 4)) ∈ flatC (Jvm.Cond.and given_1 narrow_1) := by decide +kernel
theorem se_2_0 : (Cond.eq (.elem (.field (.string RX1 63) "java/lang/String" "value" "[B") (.int 0)) (.int 107)) ∈ flatC (Jvm.Cond.and given_1 narrow_1) := by decide +kernel
theorem se_2_1 : (Cond.eq (.elem (.field (.string RX1 63) "java/lang/String" "value" "[B") (.int 1)) (.int 48)) ∈ flatC (Jvm.Cond.and given_1 narrow_1) := by decide +kernel
theorem se_2_2 : (Cond.eq (.elem (.field (.string RX1 63) "java/lang/String" "value" "[B") (.int 2)) (.int 48)) ∈ flatC (Jvm.Cond.and given_1 narrow_1) := by decide +kernel
theorem se_2_3 : (Cond.eq (.elem (.field (.string RX1 63) "java/lang/String" "value" "[B") (.int 3)) (.int 59)) ∈ flatC (Jvm.Cond.and given_1 narrow_1) := by decide +kernel
theorem sn_2_3 : (Cond.not (Cond.eq (.string RX1 63) (.string RX1 65))) ∈ flatC (Jvm.Cond.and given_1 narrow_1) := by decide +kernel
theorem sn_2_4 : (Cond.not (Cond.eq (.string RX1 63) (.string RX1 67))) ∈ flatC (Jvm.Cond.and given_1 narrow_1) := by decide +kernel
theorem sn_2_5 : (Cond.not (Cond.eq (.string RX1 63) (.string RX1 69))) ∈ flatC (Jvm.Cond.and given_1 narrow_1) := by decide +kernel
theorem sn_2_6 : (Cond.not (Cond.eq (.string RX1 63) (.string RX1 148))) ∈ flatC (Jvm.Cond.and given_1 narrow_1) := by decide +kernel
theorem sx_3 : (Cond.exactly (.string RX1 65) "java/lang/String") ∈ flatC (Jvm.Cond.and given_1 narrow_1) := by decide +kernel
theorem sc_3 : (Cond.eq (.field (.string RX1 65) "java/lang/String" "coder" "B") (.int 0)) ∈ flatC (Jvm.Cond.and given_1 narrow_1) := by decide +kernel
theorem sa_3 : (Cond.arrayOf (.field (.string RX1 65) "java/lang/String" "value" "[B") .byte) ∈ flatC (Jvm.Cond.and given_1 narrow_1) := by decide +kernel
theorem sl_3 : (Cond.eq (.length (.field (.string RX1 65) "java/lang/String" "value" "[B")) (.int 3)) ∈ flatC (Jvm.Cond.and given_1 narrow_1) := by decide +kernel
theorem se_3_0 : (Cond.eq (.elem (.field (.string RX1 65) "java/lang/String" "value" "[B") (.int 0)) (.int 48)) ∈ flatC (Jvm.Cond.and given_1 narrow_1) := by decide +kernel
theorem se_3_1 : (Cond.eq (.elem (.field (.string RX1 65) "java/lang/String" "value" "[B") (.int 1)) (.int 48)) ∈ flatC (Jvm.Cond.and given_1 narrow_1) := by decide +kernel
theorem se_3_2 : (Cond.eq (.elem (.field (.string RX1 65) "java/lang/String" "value" "[B") (.int 2)) (.int 59)) ∈ flatC (Jvm.Cond.and given_1 narrow_1) := by decide +kernel
theorem sn_3_4 : (Cond.not (Cond.eq (.string RX1 65) (.string RX1 67))) ∈ flatC (Jvm.Cond.and given_1 narrow_1) := by decide +kernel
theorem sn_3_5 : (Cond.not (Cond.eq (.string RX1 65) (.string RX1 69))) ∈ flatC (Jvm.Cond.and given_1 narrow_1) := by decide +kernel
theorem sn_3_6 : (Cond.not (Cond.eq (.string RX1 65) (.string RX1 148))) ∈ flatC (Jvm.Cond.and given_1 narrow_1) := by decide +kernel
theorem sx_4 : (Cond.exactly (.string RX1 67) "java/lang/String") ∈ flatC (Jvm.Cond.and given_1 narrow_1) := by decide +kernel
theorem sc_4 : (Cond.eq (.field (.string RX1 67) "java/lang/String" "coder" "B") (.int 0)) ∈ flatC (Jvm.Cond.and given_1 narrow_1) := by decide +kernel
theorem sa_4 : (Cond.arrayOf (.field (.string RX1 67) "java/lang/String" "value" "[B") .byte) ∈ flatC (Jvm.Cond.and given_1 narrow_1) := by decide +kernel
theorem sl_4 : (Cond.eq (.length (.field (.string RX1 67) "java/lang/String" "value" "[B")) (.int 2)) ∈ flatC (Jvm.Cond.and given_1 narrow_1) := by decide +kernel
theorem se_4_0 : (Cond.eq (.elem (.field (.string RX1 67) "java/lang/String" "value" "[B") (.int 0)) (.int 48)) ∈ flatC (Jvm.Cond.and given_1 narrow_1) := by decide +kernel
theorem se_4_1 : (Cond.eq (.elem (.field (.string RX1 67) "java/lang/String" "value" "[B") (.int 1)) (.int 59)) ∈ flatC (Jvm.Cond.and given_1 narrow_1) := by decide +kernel
theorem sn_4_5 : (Cond.not (Cond.eq (.string RX1 67) (.string RX1 69))) ∈ flatC (Jvm.Cond.and given_1 narrow_1) := by decide +kernel
theorem sn_4_6 : (Cond.not (Cond.eq (.string RX1 67) (.string RX1 148))) ∈ flatC (Jvm.Cond.and given_1 narrow_1) := by decide +kernel
theorem sx_5 : (Cond.exactly (.string RX1 69) "java/lang/String") ∈ flatC (Jvm.Cond.and given_1 narrow_1) := by decide +kernel
theorem sc_5 : (Cond.eq (.field (.string RX1 69) "java/lang/String" "coder" "B") (.int 0)) ∈ flatC (Jvm.Cond.and given_1 narrow_1) := by decide +kernel
theorem sa_5 : (Cond.arrayOf (.field (.string RX1 69) "java/lang/String" "value" "[B") .byte) ∈ flatC (Jvm.Cond.and given_1 narrow_1) := by decide +kernel
theorem sl_5 : (Cond.eq (.length (.field (.string RX1 69) "java/lang/String" "value" "[B")) (.int 0)) ∈ flatC (Jvm.Cond.and given_1 narrow_1) := by decide +kernel
theorem sn_5_6 : (Cond.not (Cond.eq (.string RX1 69) (.string RX1 148))) ∈ flatC (Jvm.Cond.and given_1 narrow_1) := by decide +kernel
theorem sx_6 : (Cond.exactly (.string RX1 148) "java/lang/String") ∈ flatC (Jvm.Cond.and given_1 narrow_1) := by decide +kernel
theorem sc_6 : (Cond.eq (.field (.string RX1 148) "java/lang/String" "coder" "B") (.int 0)) ∈ flatC (Jvm.Cond.and given_1 narrow_1) := by decide +kernel
theorem sa_6 : (Cond.arrayOf (.field (.string RX1 148) "java/lang/String" "value" "[B") .byte) ∈ flatC (Jvm.Cond.and given_1 narrow_1) := by decide +kernel
theorem sl_6 : (Cond.eq (.length (.field (.string RX1 148) "java/lang/String" "value" "[B")) (.int 6)) ∈ flatC (Jvm.Cond.and given_1 narrow_1) := by decide +kernel
theorem se_6_0 : (Cond.eq (.elem (.field (.string RX1 148) "java/lang/String" "value" "[B") (.int 0)) (.int 116)) ∈ flatC (Jvm.Cond.and given_1 narrow_1) := by decide +kernel
theorem se_6_1 : (Cond.eq (.elem (.field (.string RX1 148) "java/lang/String" "value" "[B") (.int 1)) (.int 115)) ∈ flatC (Jvm.Cond.and given_1 narrow_1) := by decide +kernel
theorem se_6_2 : (Cond.eq (.elem (.field (.string RX1 148) "java/lang/String" "value" "[B") (.int 2)) (.int 104)) ∈ flatC (Jvm.Cond.and given_1 narrow_1) := by decide +kernel
theorem se_6_3 : (Cond.eq (.elem (.field (.string RX1 148) "java/lang/String" "value" "[B") (.int 3)) (.int 99)) ∈ flatC (Jvm.Cond.and given_1 narrow_1) := by decide +kernel
theorem se_6_4 : (Cond.eq (.elem (.field (.string RX1 148) "java/lang/String" "value" "[B") (.int 4)) (.int 98)) ∈ flatC (Jvm.Cond.and given_1 narrow_1) := by decide +kernel
theorem se_6_5 : (Cond.eq (.elem (.field (.string RX1 148) "java/lang/String" "value" "[B") (.int 5)) (.int 119)) ∈ flatC (Jvm.Cond.and given_1 narrow_1) := by decide +kernel
theorem s_cs : (Cond.eq (.static "java/lang/String" "COMPACT_STRINGS" "Z") (.int 1)) ∈ flatC (Jvm.Cond.and given_1 narrow_1) := by decide +kernel
theorem s_sf : (Cond.isRef (.static "jdk/internal/util/Preconditions" "SIOOBE_FORMATTER" "Ljava/util/function/BiFunction;")) ∈ flatC (Jvm.Cond.and given_1 narrow_1) := by decide +kernel
theorem tn_0 : (Cond.methodLinkNest RX0 52 yX3_isWithin "LawFromTheTree") ∈ lw_tbl := by decide +kernel
theorem tn_1 : (Cond.methodLinkNest RX1 55 yX3_isWithin "LawFromTheTree") ∈ lw_tbl := by decide +kernel
theorem tn_2 : (Cond.methodLinkNest RX1 97 yX3_isCell "LawFromTheTree") ∈ lw_tbl := by decide +kernel
theorem tn_3 : (Cond.methodLinkNest RX1 110 yX3_isKind "LawFromTheTree") ∈ lw_tbl := by decide +kernel
theorem tn_4 : (Cond.methodLinkNest RX1 117 yX3_isVerdict "LawFromTheTree") ∈ lw_tbl := by decide +kernel
theorem tn_5 : (Cond.methodLinkNest RX3 24 yX1_init "LawFromTheTree") ∈ lw_tbl := by decide +kernel
theorem tn_6 : (Cond.methodLinkNest RX3 31 yX2_init "LawFromTheTree") ∈ lw_tbl := by decide +kernel
theorem ts_0 : (Cond.stringRef RX1 59 "000;") ∈ lw_tbl := by decide +kernel
theorem ts_1 : (Cond.stringRef RX1 61 "k000;") ∈ lw_tbl := by decide +kernel
theorem ts_2 : (Cond.stringRef RX1 63 "k00;") ∈ lw_tbl := by decide +kernel
theorem ts_3 : (Cond.stringRef RX1 65 "00;") ∈ lw_tbl := by decide +kernel
theorem ts_4 : (Cond.stringRef RX1 67 "0;") ∈ lw_tbl := by decide +kernel
theorem ts_5 : (Cond.stringRef RX1 69 "") ∈ lw_tbl := by decide +kernel
theorem ts_6 : (Cond.stringRef RX1 148 "tshcbw") ∈ lw_tbl := by decide +kernel
theorem ta_i : (Cond.arrayClass .int) ∈ lw_tbl := by decide +kernel
theorem ta_j : (Cond.arrayClass .long) ∈ lw_tbl := by decide +kernel
theorem ta_q : (Cond.arrayOver (.array .int)) ∈ lw_tbl := by decide +kernel
theorem tl_c : (Cond.laysStatic "java/lang/String" "COMPACT_STRINGS" "Z") ∈ lw_tbl := by decide +kernel
theorem tl_f : (Cond.laysStatic "jdk/internal/util/Preconditions" "SIOOBE_FORMATTER" "Ljava/util/function/BiFunction;") ∈ lw_tbl := by decide +kernel
theorem ti_s : (Cond.initialized "java/lang/String") ∈ lw_tbl := by decide +kernel
theorem ti_p : (Cond.initialized "jdk/internal/util/Preconditions") ∈ lw_tbl := by decide +kernel
theorem tin_0 : (Cond.instantiable RX0 11) ∈ lw_tbl := by decide +kernel
theorem tin_1 : (Cond.instantiable RX1 2) ∈ lw_tbl := by decide +kernel
theorem tin_2 : (Cond.instantiable RX2 1) ∈ lw_tbl := by decide +kernel
theorem tin_3 : (Cond.instantiable RX3 12) ∈ lw_tbl := by decide +kernel
theorem tin_4 : (Cond.instantiable RX4 13) ∈ lw_tbl := by decide +kernel
theorem lm0 : (Cond.classLink RL 7 RX3) ∈ wsL_law := by decide +kernel
theorem lm1 : (Cond.instantiable RX3 12) ∈ wsL_law := by decide +kernel
theorem lm2 : (Cond.initialized RX3) ∈ wsL_law := by decide +kernel
theorem lm3 : (Cond.classLink RL 10 RX4) ∈ wsL_law := by decide +kernel
theorem lm4 : (Cond.instantiable RX4 13) ∈ wsL_law := by decide +kernel
theorem lm5 : (Cond.initialized RX4) ∈ wsL_law := by decide +kernel
theorem lm6 : (Cond.methodLink RL 9 yX3_init) ∈ wsL_law := by decide +kernel
theorem lm7 : (Cond.instanceMethod yX3_init) ∈ wsL_law := by decide +kernel
theorem lm8 : (Cond.methodLink RL 12 yX4_init) ∈ wsL_law := by decide +kernel
theorem lm9 : (Cond.instanceMethod yX4_init) ∈ wsL_law := by decide +kernel
set_option maxHeartbeats 4000000 in
set_option maxRecDepth 100000 in
theorem start_text {args : Array Value} {s : State} {A : Nat → Prop} (hgv : (Jvm.Cond.and given_1 narrow_1).before args s = true) (hts : ∀ w ∈ lw_tbl, w.before args s = true) (hA : ∀ a : Nat, a < s.heap.size → ¬ A a) : ∃ aK aV : Nat → Nat, TXF aK aV A s s.heap := by
  have hs := start_flat hgv
  obtain ⟨aK, aV, h1, h2⟩ := vk_Sof (N := 7) (tm := tmL) (len := lenL) (byt := bytL) (A := A)
    (fun i hi => by
      rcases (show i = 0 ∨ i = 1 ∨ i = 2 ∨ i = 3 ∨ i = 4 ∨ i = 5 ∨ i = 6 by omega) with rfl | rfl | rfl | rfl | rfl | rfl | rfl <;> decide)
    (fun i hi => by
      rcases (show i = 0 ∨ i = 1 ∨ i = 2 ∨ i = 3 ∨ i = 4 ∨ i = 5 ∨ i = 6 by omega) with rfl | rfl | rfl | rfl | rfl | rfl | rfl
      · exact hs _ sx_0
      · exact hs _ sx_1
      · exact hs _ sx_2
      · exact hs _ sx_3
      · exact hs _ sx_4
      · exact hs _ sx_5
      · exact hs _ sx_6)
    (fun i hi => by
      rcases (show i = 0 ∨ i = 1 ∨ i = 2 ∨ i = 3 ∨ i = 4 ∨ i = 5 ∨ i = 6 by omega) with rfl | rfl | rfl | rfl | rfl | rfl | rfl
      · exact hs _ sc_0
      · exact hs _ sc_1
      · exact hs _ sc_2
      · exact hs _ sc_3
      · exact hs _ sc_4
      · exact hs _ sc_5
      · exact hs _ sc_6)
    (fun i hi => by
      rcases (show i = 0 ∨ i = 1 ∨ i = 2 ∨ i = 3 ∨ i = 4 ∨ i = 5 ∨ i = 6 by omega) with rfl | rfl | rfl | rfl | rfl | rfl | rfl
      · exact hs _ sa_0
      · exact hs _ sa_1
      · exact hs _ sa_2
      · exact hs _ sa_3
      · exact hs _ sa_4
      · exact hs _ sa_5
      · exact hs _ sa_6)
    (fun i hi => by
      rcases (show i = 0 ∨ i = 1 ∨ i = 2 ∨ i = 3 ∨ i = 4 ∨ i = 5 ∨ i = 6 by omega) with rfl | rfl | rfl | rfl | rfl | rfl | rfl
      · exact hs _ sl_0
      · exact hs _ sl_1
      · exact hs _ sl_2
      · exact hs _ sl_3
      · exact hs _ sl_4
      · exact hs _ sl_5
      · exact hs _ sl_6)
    (fun i hi j hj => by
      rcases (show i = 0 ∨ i = 1 ∨ i = 2 ∨ i = 3 ∨ i = 4 ∨ i = 5 ∨ i = 6 by omega) with rfl | rfl | rfl | rfl | rfl | rfl | rfl
      · have hj2 : j < 4 := hj
        rcases (show j = 0 ∨ j = 1 ∨ j = 2 ∨ j = 3 by omega) with rfl | rfl | rfl | rfl
        · exact hs _ se_0_0
        · exact hs _ se_0_1
        · exact hs _ se_0_2
        · exact hs _ se_0_3
      · have hj2 : j < 5 := hj
        rcases (show j = 0 ∨ j = 1 ∨ j = 2 ∨ j = 3 ∨ j = 4 by omega) with rfl | rfl | rfl | rfl | rfl
        · exact hs _ se_1_0
        · exact hs _ se_1_1
        · exact hs _ se_1_2
        · exact hs _ se_1_3
        · exact hs _ se_1_4
      · have hj2 : j < 4 := hj
        rcases (show j = 0 ∨ j = 1 ∨ j = 2 ∨ j = 3 by omega) with rfl | rfl | rfl | rfl
        · exact hs _ se_2_0
        · exact hs _ se_2_1
        · exact hs _ se_2_2
        · exact hs _ se_2_3
      · have hj2 : j < 3 := hj
        rcases (show j = 0 ∨ j = 1 ∨ j = 2 by omega) with rfl | rfl | rfl
        · exact hs _ se_3_0
        · exact hs _ se_3_1
        · exact hs _ se_3_2
      · have hj2 : j < 2 := hj
        rcases (show j = 0 ∨ j = 1 by omega) with rfl | rfl
        · exact hs _ se_4_0
        · exact hs _ se_4_1
      · exact absurd hj (Nat.not_lt_zero j)
      · have hj2 : j < 6 := hj
        rcases (show j = 0 ∨ j = 1 ∨ j = 2 ∨ j = 3 ∨ j = 4 ∨ j = 5 by omega) with rfl | rfl | rfl | rfl | rfl | rfl
        · exact hs _ se_6_0
        · exact hs _ se_6_1
        · exact hs _ se_6_2
        · exact hs _ se_6_3
        · exact hs _ se_6_4
        · exact hs _ se_6_5)
    (fun i j hi hj hij => by
      rcases (show i = 0 ∨ i = 1 ∨ i = 2 ∨ i = 3 ∨ i = 4 ∨ i = 5 ∨ i = 6 by omega) with rfl | rfl | rfl | rfl | rfl | rfl | rfl
      · rcases (show j = 0 ∨ j = 1 ∨ j = 2 ∨ j = 3 ∨ j = 4 ∨ j = 5 ∨ j = 6 by omega) with rfl | rfl | rfl | rfl | rfl | rfl | rfl
        · exact absurd rfl hij
        · exact Or.inl (hs _ sn_0_1)
        · exact Or.inl (hs _ sn_0_2)
        · exact Or.inl (hs _ sn_0_3)
        · exact Or.inl (hs _ sn_0_4)
        · exact Or.inl (hs _ sn_0_5)
        · exact Or.inl (hs _ sn_0_6)
      · rcases (show j = 0 ∨ j = 1 ∨ j = 2 ∨ j = 3 ∨ j = 4 ∨ j = 5 ∨ j = 6 by omega) with rfl | rfl | rfl | rfl | rfl | rfl | rfl
        · exact Or.inr (hs _ sn_0_1)
        · exact absurd rfl hij
        · exact Or.inl (hs _ sn_1_2)
        · exact Or.inl (hs _ sn_1_3)
        · exact Or.inl (hs _ sn_1_4)
        · exact Or.inl (hs _ sn_1_5)
        · exact Or.inl (hs _ sn_1_6)
      · rcases (show j = 0 ∨ j = 1 ∨ j = 2 ∨ j = 3 ∨ j = 4 ∨ j = 5 ∨ j = 6 by omega) with rfl | rfl | rfl | rfl | rfl | rfl | rfl
        · exact Or.inr (hs _ sn_0_2)
        · exact Or.inr (hs _ sn_1_2)
        · exact absurd rfl hij
        · exact Or.inl (hs _ sn_2_3)
        · exact Or.inl (hs _ sn_2_4)
        · exact Or.inl (hs _ sn_2_5)
        · exact Or.inl (hs _ sn_2_6)
      · rcases (show j = 0 ∨ j = 1 ∨ j = 2 ∨ j = 3 ∨ j = 4 ∨ j = 5 ∨ j = 6 by omega) with rfl | rfl | rfl | rfl | rfl | rfl | rfl
        · exact Or.inr (hs _ sn_0_3)
        · exact Or.inr (hs _ sn_1_3)
        · exact Or.inr (hs _ sn_2_3)
        · exact absurd rfl hij
        · exact Or.inl (hs _ sn_3_4)
        · exact Or.inl (hs _ sn_3_5)
        · exact Or.inl (hs _ sn_3_6)
      · rcases (show j = 0 ∨ j = 1 ∨ j = 2 ∨ j = 3 ∨ j = 4 ∨ j = 5 ∨ j = 6 by omega) with rfl | rfl | rfl | rfl | rfl | rfl | rfl
        · exact Or.inr (hs _ sn_0_4)
        · exact Or.inr (hs _ sn_1_4)
        · exact Or.inr (hs _ sn_2_4)
        · exact Or.inr (hs _ sn_3_4)
        · exact absurd rfl hij
        · exact Or.inl (hs _ sn_4_5)
        · exact Or.inl (hs _ sn_4_6)
      · rcases (show j = 0 ∨ j = 1 ∨ j = 2 ∨ j = 3 ∨ j = 4 ∨ j = 5 ∨ j = 6 by omega) with rfl | rfl | rfl | rfl | rfl | rfl | rfl
        · exact Or.inr (hs _ sn_0_5)
        · exact Or.inr (hs _ sn_1_5)
        · exact Or.inr (hs _ sn_2_5)
        · exact Or.inr (hs _ sn_3_5)
        · exact Or.inr (hs _ sn_4_5)
        · exact absurd rfl hij
        · exact Or.inl (hs _ sn_5_6)
      · rcases (show j = 0 ∨ j = 1 ∨ j = 2 ∨ j = 3 ∨ j = 4 ∨ j = 5 ∨ j = 6 by omega) with rfl | rfl | rfl | rfl | rfl | rfl | rfl
        · exact Or.inr (hs _ sn_0_6)
        · exact Or.inr (hs _ sn_1_6)
        · exact Or.inr (hs _ sn_2_6)
        · exact Or.inr (hs _ sn_3_6)
        · exact Or.inr (hs _ sn_4_6)
        · exact Or.inr (hs _ sn_5_6)
        · exact absurd rfl hij) hA
  refine ⟨aK, aV, h1, ?_, va_Zof (hts _ tl_c) (hts _ ti_s) (va_eqi (hs _ s_cs)) hA, va_Zqof (hts _ tl_f) (hts _ ti_p) (hs _ s_sf) hA⟩
  intro i hi
  have h3 := h2 i hi
  rcases (show i = 0 ∨ i = 1 ∨ i = 2 ∨ i = 3 ∨ i = 4 ∨ i = 5 ∨ i = 6 by omega) with rfl | rfl | rfl | rfl | rfl | rfl | rfl
  · exact vk_R.of (hts _ ts_0) h3
  · exact vk_R.of (hts _ ts_1) h3
  · exact vk_R.of (hts _ ts_2) h3
  · exact vk_R.of (hts _ ts_3) h3
  · exact vk_R.of (hts _ ts_4) h3
  · exact vk_R.of (hts _ ts_5) h3
  · exact vk_R.of (hts _ ts_6) h3
set_option maxHeartbeats 4000000 in
set_option maxRecDepth 100000 in
theorem whole_start {p : Program} {e : Env} {s : State} {m : MethodId} {below : List Frame} {meth : Method} {c : Code} (l : Launch) (hflags : l.flags = flags0) {b L : Nat} {xs : Nat → Int32} (hL : L ≤ 3072) (C0 : lw_At p s m meth c b L xs) : W p l e room_1 s m #[Value.ref b] below meth c s.heap [] 0 0 (lw_Z below #[Value.ref b] s) (entryFrame m ([Value.ref b] : List Value).toArray 4) := by
  obtain ⟨hx, hb, hr, hml, hown, hts0, hX, hbl, hlocks, hgv⟩ := id C0
  have hts : ∀ w ∈ wsL_law, w.before #[Value.ref b] s = true := fun w h => hts0 w (wsL_law_in w h)
  have F : CallFix p m c cL_law 4 s #[Value.ref b] wsL_law RL := ⟨hx, hb, hml, hown, hts⟩
  have hA : ∀ q : Nat, s.heap.size ≤ q → (fun q : Nat => s.heap.size ≤ q) q := fun _ h => h
  have hbA : ¬ (fun q : Nat => s.heap.size ≤ q) b := Nat.not_le.mpr hbl
  obtain ⟨aK, aV, hT⟩ := start_text (A := (fun q : Nat => s.heap.size ≤ q)) hgv hts0 (fun a h1 h2 => absurd h2 (Nat.not_le.mpr h1))
  obtain ⟨c0, i0, k0⟩ := u_known (C := RX0) (T := TX0) (N := 11) (n := 11) hts0 inX0 (hts0 _ tin_0)
  obtain ⟨c1, i1, k1⟩ := u_known (C := RX1) (T := TX1) (N := 2) (n := 2) hts0 inX1 (hts0 _ tin_1)
  obtain ⟨c2, i2, k2⟩ := u_known (C := RX2) (T := TX2) (N := 1) (n := 1) hts0 inX2 (hts0 _ tin_2)
  obtain ⟨c3, i3, k3⟩ := u_known (C := RX3) (T := TX3) (N := 12) (n := 12) hts0 inX3 (hts0 _ tin_3)
  obtain ⟨c4, i4, k4⟩ := u_known (C := RX4) (T := TX4) (N := 13) (n := 13) hts0 inX4 (hts0 _ tin_4)
  obtain ⟨D, hKc⟩ : ∃ D : va_G, ∀ (k : Nat) (q : vw_C), vwCl[k]? = some q → u_Kn s q.1 q.2.1 q.2.2 (D.1 k) (D.2 k) := by
    refine ⟨(fun k => if k = 0 then c0 else if k = 1 then c1 else if k = 2 then c2 else if k = 3 then c3 else c4, fun k => if k = 0 then i0 else if k = 1 then i1 else if k = 2 then i2 else if k = 3 then i3 else i4), ?_⟩
    intro k q hq
    match k, hq with
    | 0, hq => cases hq; exact k0
    | 1, hq => cases hq; exact k1
    | 2, hq => cases hq; exact k2
    | 3, hq => cases hq; exact k3
    | 4, hq => cases hq; exact k4
    | k + 5, hq => simp [vwCl] at hq
  obtain ⟨cI, kI, cmI, fI1, fI2, fI3⟩ := Cond.arrayClass_spec (hts0 _ ta_i)
  obtain ⟨cJ, kJ, cmJ, fJ1, fJ2, fJ3⟩ := Cond.arrayClass_spec (hts0 _ ta_j)
  have hO : va_AOA .int s := hts0 _ ta_q
  obtain ⟨cmQ, cQ, kQ, -, fQ2, fQ3, fQ4⟩ := Cond.arrayOver_specA (hts0 _ ta_q)
  have hK : KK D cI cJ cQ s := by
    refine ⟨⟨hKc, fun k q h => ?_⟩, va_Nw.of rfl (hts0 _ tn_0), va_Nw.of rfl (hts0 _ tn_1), va_Nw.of rfl (hts0 _ tn_2), va_Nw.of rfl (hts0 _ tn_3), va_Nw.of rfl (hts0 _ tn_4), va_Nw.of rfl (hts0 _ tn_5), va_Nw.of rfl (hts0 _ tn_6)⟩
    match k, h with
    | 0, h => cases h; exact ⟨fun n z => ⟨fun q hq => (by cases hq), kI, fI2, cmI, fI3⟩, fI1⟩
    | 1, h => cases h; exact ⟨fun n z => ⟨fun q hq => (by cases hq), kJ, fJ2, cmJ, fJ3⟩, fJ1⟩
    | 2, h => cases h; exact ⟨fun n z => ⟨fun q hq => (by cases hq), kQ, fQ2, cmQ, fQ3⟩, fQ4⟩
    | k + 3, h => simp at h
  have hl := lv_entry ([.ref b]) (n := 4) (Nat.le_of_ble_eq_true rfl)
  rw [lg_entry_eq]
  generalize (lg_sl ([.ref b]) ++ List.replicate (4 - (lg_sl ([.ref b])).length) Slot.unset).toArray = ls at hl ⊢
  have hl : lv_has ls 4 [(0, .ref b)] := hl
  have hH : Hs D (fun q : Nat => s.heap.size ≤ q) s.heap [] s.heap [] := ⟨fun k q h => by simp at h, ⟨fun i j p q h => by simp at h, fun k q h => by simp at h⟩, va_S.rf⟩
  refine k_newC (ci := 3) (C := RX3) (T := TX3) (N := 12) F hK hH hA [.null, .null, .null, .null, .null, .null, .null, .null, .null, .null, .int 0, .int 0] inlX3 tyX3 tyX3_ok lm0 lm1 lm2 dL_law_0 rfl (fun j hj => by rcases (show j = 0 ∨ j = 1 ∨ j = 2 ∨ j = 3 ∨ j = 4 ∨ j = 5 ∨ j = 6 ∨ j = 7 ∨ j = 8 ∨ j = 9 ∨ j = 10 ∨ j = 11 by omega) with rfl | rfl | rfl | rfl | rfl | rfl | rfl | rfl | rfl | rfl | rfl | rfl <;> rfl) (Nat.le_of_ble_eq_true rfl) (Nat.le_of_ble_eq_true rfl) (fun q1 H hH => ?_)
  refine lv_dup hx hb dL_law_3 rfl ?_
  refine k_I F hK hO hA hl.1 [.ref q1] (wr := []) hH (ctX3_init q1) (cwI 0 hts gL_law_X3_init rfl rfl rfl (hts _ lm2) (hts _ lm6) (hts _ lm7) rfl hdIX3_init ⟨(Nat.le_of_ble_eq_true rfl), (Nat.le_of_ble_eq_true rfl)⟩) dL_law_4 rfl (Nat.le_of_ble_eq_true rfl) ⟨(Nat.le_of_ble_eq_true rfl), (Nat.le_of_ble_eq_true rfl)⟩ (fun u1 H locs hu hG => ?_)
  subst hu
  have hH : Hs D (fun q : Nat => s.heap.size ≤ q) s.heap (wMn cI cJ cQ u1 gI gI gI (fun _ => 0) 0 0 (fun _ => 0) (fun _ => 0) (fun _ => 0) (fun _ => 0) (fun _ => 0) (fun _ => 0) 0 0) H locs := hG
  refine lv_astore_n (lv' := [(1, .ref (u1 0)), (0, .ref b)]) hx hb dL_law_7 rfl hl (by decide) rfl (fun ls hl => ?_)
  refine k_newC (ci := 4) (C := RX4) (T := TX4) (N := 13) F hK hH hA [.null, .null, .null, .null, .int 0, .null, .null, .null, .int 0, .int 0, .int 0, .null, .int 0] inlX4 tyX4 tyX4_ok lm3 lm4 lm5 dL_law_8 rfl (fun j hj => by rcases (show j = 0 ∨ j = 1 ∨ j = 2 ∨ j = 3 ∨ j = 4 ∨ j = 5 ∨ j = 6 ∨ j = 7 ∨ j = 8 ∨ j = 9 ∨ j = 10 ∨ j = 11 ∨ j = 12 by omega) with rfl | rfl | rfl | rfl | rfl | rfl | rfl | rfl | rfl | rfl | rfl | rfl | rfl <;> rfl) (Nat.le_of_ble_eq_true rfl) (Nat.le_of_ble_eq_true rfl) (fun q2 H hH => ?_)
  refine lv_dup hx hb dL_law_11 rfl ?_
  refine k_I F hK hO hA hl.1 [.ref q2] (wr := wMn cI cJ cQ u1 gI gI gI (fun _ => 0) 0 0 (fun _ => 0) (fun _ => 0) (fun _ => 0) (fun _ => 0) (fun _ => 0) (fun _ => 0) 0 0) hH (ctX4_init q2) (cwI 0 hts gL_law_X4_init rfl rfl rfl (hts _ lm5) (hts _ lm8) (hts _ lm9) rfl hdIX4_init ⟨(Nat.le_of_ble_eq_true rfl), (Nat.le_of_ble_eq_true rfl)⟩) dL_law_12 rfl (Nat.le_of_ble_eq_true rfl) ⟨(Nat.le_of_ble_eq_true rfl), (Nat.le_of_ble_eq_true rfl)⟩ (fun u2 H locs hu hG => ?_)
  subst hu
  have hH : Hs D (fun q : Nat => s.heap.size ≤ q) s.heap (wMn cI cJ cQ u1 gI gI gI (fun _ => 0) 0 0 (fun _ => 0) (fun _ => 0) (fun _ => 0) (fun _ => 0) (fun _ => 0) (fun _ => 0) 0 0 ++ wMd cI u2 (upd (fun _ => 0) (Int32.toNatClampNeg 2) 16) (fun _ => 0) (fun _ => 0) (fun _ => 0) 0 (fun _ => 0) (fun _ => 0) (fun _ => 0) 0 0 0 (fun _ => 0) 0) H locs := hG
  refine lv_astore_n (lv' := [(2, .ref (u2 0)), (1, .ref (u1 0)), (0, .ref b)]) hx hb dL_law_15 rfl hl (by decide) rfl (fun ls hl => ?_)
  refine lv_iconst (v := 0) hx hb dL_law_16 (by decide) ?_
  refine lv_istore_n (lv' := [(3, .int 0), (2, .ref (u2 0)), (1, .ref (u1 0)), (0, .ref b)]) hx hb dL_law_17 rfl hl (by decide) rfl (fun ls hl => ?_)
  refine W.widen (k := 44) (n := 733) (Nat.le_of_ble_eq_true rfl) (Nat.le_of_ble_eq_true rfl) ?_
  exact law_loop F hK hT hX hbl hL hr hlocks (L + 7) 0 (Nat.zero_le L) (by omega) _ _ _ _ _ _ _ _ _ _ _ _ _ _ _ _ _ _ _ _ _ _ _ _ _ _ _ H locs ls st_init hH (lv_sub hl [3, 2, 1, 0] rfl)

-- ===== YOUR PART ENDS =====
set_option maxHeartbeats 4000000 in
theorem lw_walk (l : Launch) (hflags : l.flags = flags0) (b : Addr) (xs : List Int32) : MetFree l x (headSpec (Jvm.Cond.code x code maxLocals ret :: tables_1) room_1) (lw_P b xs) (fun _ _ _ _ _ => True) lw_Q := by
  refine MetFree.of_bodyS (code := code) (maxLocals := maxLocals) (ret := ret) (by decide) ?_ ?_
  · intro args s m h hn
    obtain ⟨meth, c, h1, h2, h3, h4, h5, h6, -, -⟩ := Cond.code_spec hn (atoms_spec (ws := Jvm.Cond.code x code maxLocals ret :: tables_1) h _ List.mem_cons_self)
    exact ⟨meth, c, h1, h2, h3, h4, h5, h6⟩
  · intro p e s m args below meth c s₁ B hml0 hP _
    obtain ⟨rfl, hx, hbd, hgv⟩ := hP
    obtain ⟨scr, harrAt, hlist, hof, hsmall⟩ := hx
    obtain ⟨hcb, hkn, -, -⟩ := State.arrayAt?_spec harrAt
    have hown : s.vm.findClass R_law = some m.cls := findClass_of_methodNamed B.named
    have hts0 : ∀ c ∈ (Jvm.Cond.code x code maxLocals ret :: tables_1), c.before #[Value.ref b] s = true := atoms_spec (ws := Jvm.Cond.code x code maxLocals ret :: tables_1) B.pre
    have hts : ∀ w ∈ lw_tbl, w.before #[Value.ref b] s = true := k2_hts_sels lw_privs (fun w hw => hts0 w (List.mem_cons_of_mem _ hw)) lw_privs_ok
    have hml : c.maxLocals = 4 := B.maxLocals_eq (hts0 _ List.mem_cons_self)
    have X₀ : Stand p l e room_1 s m #[Value.ref b] below meth c s₁ [] 0 0 := Stand.of_body B
    have hh0 : s₁.heap = s.heap := by rw [B.state]; rfl
    have hsz : scr.slots.size = xs.length := by rw [← Array.length_toList, hlist, List.length_map]
    have hval : ∀ j : Nat, j < xs.length → scr.slots[j]? = some (.int (xs.getD j 0)) := fun j hj => by
      rw [← Array.getElem?_toList, hlist]
      simp [hj]
    have hbl : b < s.heap.size := (Array.getElem?_eq_some_iff.mp hcb).1
    have hX : va_X b xs.length (fun j => xs.getD j 0) s s.heap := ⟨scr, hcb, hof, hkn, hsz, hval⟩
    have K : W p l e room_1 s m #[Value.ref b] below meth c s₁.heap [] 0 0 (lw_Z below #[Value.ref b] s) (entryFrame m ([Value.ref b] : List Value).toArray 4) := by
      rw [hh0]
      exact whole_start l hflags hbd ⟨B.exec, B.bytes, B.returns, hml, hown, hts, hX, hbl, B.notSynchronized, hgv⟩
    obtain ⟨t, a1, o, b1, b2, b3⟩ := K s₁ rfl X₀
    exact ⟨t, o, a1, b1, b2, b3⟩
theorem lw_pre_spec {args : Array Value} {s : State} (h : (Jvm.Cond.and given_1 narrow_1).before args s = true) (hr : rest_1_c.before args s = true) : ∃ (b : Addr) (xs : List Int32), lw_P b xs args s := by
  have hs := flat_of_before _ h
  have hq := flat_of_before _ hr
  have hc : (Cond.count 1).before args s = true := hs _ (by decide +kernel)
  have harr : (Cond.arrayOf (.arg 0) .int).before args s = true := hs _ (by decide +kernel)
  have hle : (Cond.le (.length (.arg 0)) (.int 3072)).before args s = true := hs _ (by decide +kernel)
  have hlen : (Cond.isInt (.length (.arg 0))).before args s = true := hq _ (by decide +kernel)
  have hall : (Cond.all (.arg 0) (.isInt (.elem (.arg 0) (.index 0)))).before args s = true := hq _ (by decide +kernel)
  obtain ⟨b, xs, hb, hx⟩ := State.ints_of_pre rfl harr hlen hall
  have hsm : xs.length < 2 ^ 31 := hx.choose_spec.2.2.2
  have hev : (Term.length (.arg 0)).eval args s none [] s = some (.int xs.length.toInt32) := hx.length_eval hb
  have hv := Cond.le_ints hev (show (Term.int 3072).eval args s none [] s = some (.int 3072) from rfl)
  have hd : xs.length.toInt32 ≤ 3072 := by
    simpa [Cond.before, Cond.holds, hv] using hle
  have hN : xs.length ≤ 3072 := (Int32.ofNat_le_ofNat hsm (by decide)).mp (show Int32.ofNat xs.length ≤ Int32.ofNat 3072 from hd)
  exact ⟨b, xs, Cond.one_arg hc (show args[0]? = some (.ref b) from hb), hx, hN, h⟩
theorem lw_comes (l : Launch) (hflags : l.flags = flags0) : Comes l x (Jvm.Cond.code x code maxLocals ret :: tables_1) room_1 (fun tb e args s => Calls_1 tb e args s ∧ rest_1 tb e args s ∧ Pre_1 tb e args s)
    (fun _ _ args s o t => lw_Q args s o t) := by
  intro p e ha hc hk s m args below hf hfit hheap happ hpre
  obtain ⟨b, xs, hP⟩ := lw_pre_spec hpre.2.2 hpre.2.1
  obtain ⟨k, o, h1, h2, h3, hQ⟩ := lw_walk l hflags b xs p e ha hc hk s m args below hf ((Spec.applies_iff_loose hf).mp happ).1 hP trivial
  exact ⟨k, o, h1, h2, h3, hQ⟩
theorem lw_frame {s t : State} {o : Outcome} {args : Array Value} (h : Framed s o t [] 600000 7302250) :
    Framed s o t (fieldLocs frame_1_writes args s ++ arrayLocs frame_1_arrays args s ++ staticLocs frame_1_statics s) 600000 7302250 := h
theorem lw_limb (L : Cond) (hL : ∀ (args : Array Value) (s t : State), L.after args s (.returned (some (.int 1))) t = true) :
    ArmFor flags0 classFile x code maxLocals ret World_1 tables_1 room_1 Calls_1 rest_1 Pre_1
      (fun tb e a s o t => postC L tb e a s o t ∧ Framed s o t (fieldLocs frame_1_writes a s ++ arrayLocs frame_1_arrays a s ++ staticLocs frame_1_statics s) 600000 7302250) := by
  intro l hflags _ _ p e ha hc hk s m args below hf hfit hheap happ hpre
  obtain ⟨k, o, h1, h2, h3, rfl, hF⟩ := lw_comes l hflags p e ha hc hk s m args below hf hfit hheap happ hpre
  exact ⟨k, _, h1, h2, h3, hL args s _, lw_frame hF⟩
theorem i_vc : Claimed_1_1 ∧ Claimed_1_2 := ⟨lw_limb limb_1_1 (fun args s t => by simp [limb_1_1, Cond.after, Cond.holds, Cond.value]), lw_limb limb_1_2 (fun args s t => Cond.after_iff.mpr (by
  first | (rw [show limb_1_2 = Cond.eq .result (.int 1) from rfl, Cond.eq_ints (x := 1) (y := 1) rfl rfl]; simp; done) | (simp [limb_1_2, Cond.value, Term.eval]; done)))⟩

