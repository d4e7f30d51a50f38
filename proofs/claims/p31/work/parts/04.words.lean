theorem tb0 {w : Cond} (h : w ∈ k2_sels lw_privs) : w ∈ lw_tbl := List.mem_append_left _ h
theorem tb1 {w : Cond} (h : w ∈ tables_1_1) : w ∈ lw_tbl := List.mem_append_right _ (List.mem_append_left _ h)
theorem tb2 {w : Cond} (h : w ∈ tables_1_2) : w ∈ lw_tbl := List.mem_append_right _ (List.mem_append_right _ (List.mem_append_left _ h))
theorem tb3 {w : Cond} (h : w ∈ tables_1_3) : w ∈ lw_tbl := List.mem_append_right _ (List.mem_append_right _ (List.mem_append_right _ (h)))
def xtb : List Cond := lw_tbl.filter goodWord
theorem tb_in {w : Cond} (h : w ∈ lw_tbl) (g : goodWord w = true) : w ∈ xtb := List.mem_filter.mpr ⟨h, g⟩
theorem xtb_good : ∀ w ∈ xtb, goodWord w = true := fun _ h => (List.mem_filter.mp h).2
theorem xtb_lw : ∀ w ∈ xtb, w ∈ lw_tbl := fun _ h => (List.mem_filter.mp h).1
theorem mw_0_0 : (.selects "SealedStores$History" yX1_spare yX1_spare : Cond) ∈ xtb := tb_in (tb0 (List.mem_of_getElem? (i := 0) (by decide +kernel))) rfl
theorem mw_0_1 : (.selects "SealedStores$Ship" yX6_putSeal yX6_putSeal : Cond) ∈ xtb := tb_in (tb0 (List.mem_of_getElem? (i := 1) (by decide +kernel))) rfl
theorem mw_0_2 : (.selects "SealedStores$Ship" yX6_sealByOfficer yX6_sealByOfficer : Cond) ∈ xtb := tb_in (tb0 (List.mem_of_getElem? (i := 2) (by decide +kernel))) rfl
theorem mw_0_3 : (.selects "SealedStores$Ship" yX6_release yX6_release : Cond) ∈ xtb := tb_in (tb0 (List.mem_of_getElem? (i := 3) (by decide +kernel))) rfl
theorem mw_0_4 : (.selects "SealedStores$Ship" yX6_taxesOf yX6_taxesOf : Cond) ∈ xtb := tb_in (tb0 (List.mem_of_getElem? (i := 4) (by decide +kernel))) rfl
theorem mw_0_5 : (.selects "SealedStores$Ship" yX6_sealOpenLockers yX6_sealOpenLockers : Cond) ∈ xtb := tb_in (tb0 (List.mem_of_getElem? (i := 5) (by decide +kernel))) rfl
theorem mw_0_6 : (.selects "SealedStores$Ship" yX6_openLockers yX6_openLockers : Cond) ∈ xtb := tb_in (tb0 (List.mem_of_getElem? (i := 6) (by decide +kernel))) rfl
theorem mw_0_7 : (.selects "SealedStores$Ship" yX6_runOutBonds yX6_runOutBonds : Cond) ∈ xtb := tb_in (tb0 (List.mem_of_getElem? (i := 7) (by decide +kernel))) rfl
theorem mw_0_8 : (.selects "SealedStores$Lockers" yX2_takeLowestFirst yX2_takeLowestFirst : Cond) ∈ xtb := tb_in (tb0 (List.mem_of_getElem? (i := 8) (by decide +kernel))) rfl
theorem mw_0_9 : (.selects "SealedStores$OrderLog" yX3_readOrder yX3_readOrder : Cond) ∈ xtb := tb_in (tb0 (List.mem_of_getElem? (i := 9) (by decide +kernel))) rfl
theorem mw_0_10 : (.selects "SealedStores$OrderLog" yX3_readSign yX3_readSign : Cond) ∈ xtb := tb_in (tb0 (List.mem_of_getElem? (i := 10) (by decide +kernel))) rfl
theorem mw_0_11 : (.selects "SealedStores$OrderLog" yX3_readNumber yX3_readNumber : Cond) ∈ xtb := tb_in (tb0 (List.mem_of_getElem? (i := 11) (by decide +kernel))) rfl
theorem mw_0_12 : (.selects "SealedStores$OrderLog" yX3_noteFault yX3_noteFault : Cond) ∈ xtb := tb_in (tb0 (List.mem_of_getElem? (i := 12) (by decide +kernel))) rfl
theorem mw_0_13 : (.selects "SealedStores$OrderLog" yX3_doOrder yX3_doOrder : Cond) ∈ xtb := tb_in (tb0 (List.mem_of_getElem? (i := 13) (by decide +kernel))) rfl
theorem mw_1_0 : (.initialized "SealedStoresLaw" : Cond) ∈ xtb := tb_in (tb1 (List.mem_of_getElem? (i := 0) (by decide +kernel))) rfl
theorem mw_1_1 : (.initialized "SealedStores" : Cond) ∈ xtb := tb_in (tb1 (List.mem_of_getElem? (i := 1) (by decide +kernel))) rfl
theorem mw_1_2 : (.initialized "SealedStores$Ship" : Cond) ∈ xtb := tb_in (tb1 (List.mem_of_getElem? (i := 2) (by decide +kernel))) rfl
theorem mw_1_3 : (.initialized "SealedStores$Lockers" : Cond) ∈ xtb := tb_in (tb1 (List.mem_of_getElem? (i := 3) (by decide +kernel))) rfl
theorem mw_1_4 : (.initialized "SealedStores$Seals" : Cond) ∈ xtb := tb_in (tb1 (List.mem_of_getElem? (i := 4) (by decide +kernel))) rfl
theorem mw_1_5 : (.initialized "SealedStores$Bonds" : Cond) ∈ xtb := tb_in (tb1 (List.mem_of_getElem? (i := 5) (by decide +kernel))) rfl
theorem mw_1_6 : (.initialized "SealedStores$Releases" : Cond) ∈ xtb := tb_in (tb1 (List.mem_of_getElem? (i := 6) (by decide +kernel))) rfl
theorem mw_1_7 : (.initialized "SealedStores$History" : Cond) ∈ xtb := tb_in (tb1 (List.mem_of_getElem? (i := 7) (by decide +kernel))) rfl
theorem mw_1_8 : (.initialized "SealedStores$OrderLog" : Cond) ∈ xtb := tb_in (tb1 (List.mem_of_getElem? (i := 8) (by decide +kernel))) rfl
theorem mw_1_9 : (.initialized "java/lang/System" : Cond) ∈ xtb := tb_in (tb1 (List.mem_of_getElem? (i := 9) (by decide +kernel))) rfl
theorem mw_1_10 : (.initialized "java/lang/Math" : Cond) ∈ xtb := tb_in (tb1 (List.mem_of_getElem? (i := 10) (by decide +kernel))) rfl
theorem mw_1_11 : (.classLink "SealedStoresLaw" 14 "SealedStores" : Cond) ∈ xtb := tb_in (tb1 (List.mem_of_getElem? (i := 11) (by decide +kernel))) rfl
theorem mw_1_12 : (.instantiable "SealedStores" 4 : Cond) ∈ xtb := tb_in (tb1 (List.mem_of_getElem? (i := 12) (by decide +kernel))) rfl
theorem mw_1_13 : (.methodLink "SealedStoresLaw" 110 yX7_init : Cond) ∈ xtb := tb_in (tb1 (List.mem_of_getElem? (i := 13) (by decide +kernel))) rfl
theorem mw_1_14 : (.instanceMethod yX7_init : Cond) ∈ xtb := tb_in (tb1 (List.mem_of_getElem? (i := 14) (by decide +kernel))) rfl
theorem mw_1_15 : (.code yX7_init cX7_init 1 none : Cond) ∈ xtb := tb_in (tb1 (List.mem_of_getElem? (i := 15) rfl)) rfl
theorem mw_1_16 : (.methodLink "SealedStores" 1 objectInit : Cond) ∈ xtb := tb_in (tb1 (List.mem_of_getElem? (i := 16) (by decide +kernel))) rfl
theorem mw_1_17 : (.instanceMethod objectInit : Cond) ∈ xtb := tb_in (tb1 (List.mem_of_getElem? (i := 17) (by decide +kernel))) rfl
theorem mw_1_18 : (.code objectInit ⟨#[0xb1]⟩ 1 none : Cond) ∈ xtb := tb_in (tb1 (List.mem_of_getElem? (i := 18) rfl)) rfl
theorem mw_1_19 : (.classLink "SealedStores" 7 "SealedStores$Ship" : Cond) ∈ xtb := tb_in (tb1 (List.mem_of_getElem? (i := 19) (by decide +kernel))) rfl
theorem mw_1_20 : (.instantiable "SealedStores$Ship" 9 : Cond) ∈ xtb := tb_in (tb1 (List.mem_of_getElem? (i := 20) (by decide +kernel))) rfl
theorem mw_1_21 : (.methodLink "SealedStores" 9 yX6_init : Cond) ∈ xtb := tb_in (tb1 (List.mem_of_getElem? (i := 21) (by decide +kernel))) rfl
theorem mw_1_22 : (.instanceMethod yX6_init : Cond) ∈ xtb := tb_in (tb1 (List.mem_of_getElem? (i := 22) (by decide +kernel))) rfl
theorem mw_1_23 : (.code yX6_init cX6_init 1 none : Cond) ∈ xtb := tb_in (tb1 (List.mem_of_getElem? (i := 23) rfl)) rfl
theorem mw_1_24 : (.methodLink "SealedStores$Ship" 3 objectInit : Cond) ∈ xtb := tb_in (tb1 (List.mem_of_getElem? (i := 24) (by decide +kernel))) rfl
theorem mw_1_25 : (.classLink "SealedStores$Ship" 28 "SealedStores$Lockers" : Cond) ∈ xtb := tb_in (tb1 (List.mem_of_getElem? (i := 25) (by decide +kernel))) rfl
theorem mw_1_26 : (.instantiable "SealedStores$Lockers" 5 : Cond) ∈ xtb := tb_in (tb1 (List.mem_of_getElem? (i := 26) (by decide +kernel))) rfl
theorem mw_1_27 : (.methodLink "SealedStores$Ship" 30 yX2_init : Cond) ∈ xtb := tb_in (tb1 (List.mem_of_getElem? (i := 27) (by decide +kernel))) rfl
theorem mw_1_28 : (.instanceMethod yX2_init : Cond) ∈ xtb := tb_in (tb1 (List.mem_of_getElem? (i := 28) (by decide +kernel))) rfl
theorem mw_1_29 : (.code yX2_init cX2_init 1 none : Cond) ∈ xtb := tb_in (tb1 (List.mem_of_getElem? (i := 29) rfl)) rfl
theorem mw_1_30 : (.methodLink "SealedStores$Lockers" 3 objectInit : Cond) ∈ xtb := tb_in (tb1 (List.mem_of_getElem? (i := 30) (by decide +kernel))) rfl
theorem mw_1_31 : (.fieldLink "SealedStores$Lockers" 9 "SealedStores$Lockers" "number" "I" : Cond) ∈ xtb := tb_in (tb1 (List.mem_of_getElem? (i := 31) (by decide +kernel))) rfl
theorem mw_1_32 : (.fieldLink "SealedStores$Ship" 75 "SealedStores$Lockers" "number" "I" : Cond) ∈ xtb := tb_in (tb1 (List.mem_of_getElem? (i := 32) (by decide +kernel))) rfl
theorem mw_1_33 : (.fieldLink "SealedStores" 197 "SealedStores$Lockers" "number" "I" : Cond) ∈ xtb := tb_in (tb1 (List.mem_of_getElem? (i := 33) (by decide +kernel))) rfl
theorem mw_1_34 : (.fieldLink "SealedStores$Lockers" 15 "SealedStores$Lockers" "state" "[I" : Cond) ∈ xtb := tb_in (tb1 (List.mem_of_getElem? (i := 34) (by decide +kernel))) rfl
theorem mw_1_35 : (.fieldLink "SealedStores" 64 "SealedStores$Lockers" "state" "[I" : Cond) ∈ xtb := tb_in (tb1 (List.mem_of_getElem? (i := 35) (by decide +kernel))) rfl
theorem mw_1_36 : (.fieldLink "SealedStores$Ship" 101 "SealedStores$Lockers" "state" "[I" : Cond) ∈ xtb := tb_in (tb1 (List.mem_of_getElem? (i := 36) (by decide +kernel))) rfl
theorem mw_1_37 : (.fieldLink "SealedStores$Lockers" 19 "SealedStores$Lockers" "seal" "[I" : Cond) ∈ xtb := tb_in (tb1 (List.mem_of_getElem? (i := 37) (by decide +kernel))) rfl
theorem mw_1_38 : (.fieldLink "SealedStores" 70 "SealedStores$Lockers" "seal" "[I" : Cond) ∈ xtb := tb_in (tb1 (List.mem_of_getElem? (i := 38) (by decide +kernel))) rfl
theorem mw_1_39 : (.fieldLink "SealedStores$Ship" 133 "SealedStores$Lockers" "seal" "[I" : Cond) ∈ xtb := tb_in (tb1 (List.mem_of_getElem? (i := 39) (by decide +kernel))) rfl
theorem mw_1_40 : (.fieldLink "SealedStores$Lockers" 22 "SealedStores$Lockers" "units" "[I" : Cond) ∈ xtb := tb_in (tb1 (List.mem_of_getElem? (i := 40) (by decide +kernel))) rfl
theorem mw_1_41 : (.fieldLink "SealedStores" 73 "SealedStores$Lockers" "units" "[I" : Cond) ∈ xtb := tb_in (tb1 (List.mem_of_getElem? (i := 41) (by decide +kernel))) rfl
theorem mw_1_42 : (.fieldLink "SealedStores$Ship" 109 "SealedStores$Lockers" "units" "[I" : Cond) ∈ xtb := tb_in (tb1 (List.mem_of_getElem? (i := 42) (by decide +kernel))) rfl
theorem mw_1_43 : (.fieldLink "SealedStores$Lockers" 25 "SealedStores$Lockers" "missing" "[I" : Cond) ∈ xtb := tb_in (tb1 (List.mem_of_getElem? (i := 43) (by decide +kernel))) rfl
theorem mw_1_44 : (.fieldLink "SealedStores" 80 "SealedStores$Lockers" "missing" "[I" : Cond) ∈ xtb := tb_in (tb1 (List.mem_of_getElem? (i := 44) (by decide +kernel))) rfl
theorem mw_1_45 : (.fieldLink "SealedStores$Ship" 130 "SealedStores$Lockers" "missing" "[I" : Cond) ∈ xtb := tb_in (tb1 (List.mem_of_getElem? (i := 45) (by decide +kernel))) rfl
theorem mw_1_57 : (.arrayClass .int : Cond) ∈ xtb := tb_in (tb1 (List.mem_of_getElem? (i := 57) (by decide +kernel))) rfl
theorem mw_1_58 : (.classLink "SealedStores$Ship" 35 "SealedStores$Seals" : Cond) ∈ xtb := tb_in (tb1 (List.mem_of_getElem? (i := 58) (by decide +kernel))) rfl
theorem mw_1_59 : (.instantiable "SealedStores$Seals" 4 : Cond) ∈ xtb := tb_in (tb1 (List.mem_of_getElem? (i := 59) (by decide +kernel))) rfl
theorem mw_1_60 : (.methodLink "SealedStores$Ship" 37 yX5_init : Cond) ∈ xtb := tb_in (tb1 (List.mem_of_getElem? (i := 60) (by decide +kernel))) rfl
theorem mw_1_61 : (.instanceMethod yX5_init : Cond) ∈ xtb := tb_in (tb1 (List.mem_of_getElem? (i := 61) (by decide +kernel))) rfl
theorem mw_1_62 : (.code yX5_init cX5_init 1 none : Cond) ∈ xtb := tb_in (tb1 (List.mem_of_getElem? (i := 62) rfl)) rfl
theorem mw_1_63 : (.methodLink "SealedStores$Seals" 3 objectInit : Cond) ∈ xtb := tb_in (tb1 (List.mem_of_getElem? (i := 63) (by decide +kernel))) rfl
theorem mw_1_64 : (.fieldLink "SealedStores$Seals" 9 "SealedStores$Seals" "used" "I" : Cond) ∈ xtb := tb_in (tb1 (List.mem_of_getElem? (i := 64) (by decide +kernel))) rfl
theorem mw_1_65 : (.fieldLink "SealedStores" 93 "SealedStores$Seals" "used" "I" : Cond) ∈ xtb := tb_in (tb1 (List.mem_of_getElem? (i := 65) (by decide +kernel))) rfl
theorem mw_1_66 : (.fieldLink "SealedStores$Seals" 15 "SealedStores$Seals" "locker" "[I" : Cond) ∈ xtb := tb_in (tb1 (List.mem_of_getElem? (i := 66) (by decide +kernel))) rfl
theorem mw_1_67 : (.fieldLink "SealedStores" 99 "SealedStores$Seals" "locker" "[I" : Cond) ∈ xtb := tb_in (tb1 (List.mem_of_getElem? (i := 67) (by decide +kernel))) rfl
theorem mw_1_68 : (.fieldLink "SealedStores$Seals" 19 "SealedStores$Seals" "day" "[I" : Cond) ∈ xtb := tb_in (tb1 (List.mem_of_getElem? (i := 68) (by decide +kernel))) rfl
theorem mw_1_69 : (.fieldLink "SealedStores" 102 "SealedStores$Seals" "day" "[I" : Cond) ∈ xtb := tb_in (tb1 (List.mem_of_getElem? (i := 69) (by decide +kernel))) rfl
theorem mw_1_70 : (.fieldLink "SealedStores$Seals" 22 "SealedStores$Seals" "fate" "[I" : Cond) ∈ xtb := tb_in (tb1 (List.mem_of_getElem? (i := 70) (by decide +kernel))) rfl
theorem mw_1_71 : (.fieldLink "SealedStores" 105 "SealedStores$Seals" "fate" "[I" : Cond) ∈ xtb := tb_in (tb1 (List.mem_of_getElem? (i := 71) (by decide +kernel))) rfl
theorem mw_1_81 : (.classLink "SealedStores$Ship" 42 "SealedStores$Bonds" : Cond) ∈ xtb := tb_in (tb1 (List.mem_of_getElem? (i := 81) (by decide +kernel))) rfl
theorem mw_1_82 : (.instantiable "SealedStores$Bonds" 7 : Cond) ∈ xtb := tb_in (tb1 (List.mem_of_getElem? (i := 82) (by decide +kernel))) rfl
theorem mw_1_83 : (.methodLink "SealedStores$Ship" 44 yX0_init : Cond) ∈ xtb := tb_in (tb1 (List.mem_of_getElem? (i := 83) (by decide +kernel))) rfl
theorem mw_1_84 : (.instanceMethod yX0_init : Cond) ∈ xtb := tb_in (tb1 (List.mem_of_getElem? (i := 84) (by decide +kernel))) rfl
theorem mw_1_85 : (.code yX0_init cX0_init 1 none : Cond) ∈ xtb := tb_in (tb1 (List.mem_of_getElem? (i := 85) rfl)) rfl
theorem mw_1_86 : (.methodLink "SealedStores$Bonds" 3 objectInit : Cond) ∈ xtb := tb_in (tb1 (List.mem_of_getElem? (i := 86) (by decide +kernel))) rfl
theorem mw_1_87 : (.fieldLink "SealedStores$Bonds" 9 "SealedStores$Bonds" "number" "I" : Cond) ∈ xtb := tb_in (tb1 (List.mem_of_getElem? (i := 87) (by decide +kernel))) rfl
theorem mw_1_88 : (.fieldLink "SealedStores" 112 "SealedStores$Bonds" "number" "I" : Cond) ∈ xtb := tb_in (tb1 (List.mem_of_getElem? (i := 88) (by decide +kernel))) rfl
theorem mw_1_89 : (.fieldLink "SealedStores$Ship" 108 "SealedStores$Bonds" "number" "I" : Cond) ∈ xtb := tb_in (tb1 (List.mem_of_getElem? (i := 89) (by decide +kernel))) rfl
theorem mw_1_90 : (.fieldLink "SealedStores$Bonds" 15 "SealedStores$Bonds" "amountMade" "J" : Cond) ∈ xtb := tb_in (tb1 (List.mem_of_getElem? (i := 90) (by decide +kernel))) rfl
theorem mw_1_91 : (.fieldLink "SealedStores$Ship" 113 "SealedStores$Bonds" "amountMade" "J" : Cond) ∈ xtb := tb_in (tb1 (List.mem_of_getElem? (i := 91) (by decide +kernel))) rfl
theorem mw_1_92 : (.fieldLink "SealedStores" 178 "SealedStores$Bonds" "amountMade" "J" : Cond) ∈ xtb := tb_in (tb1 (List.mem_of_getElem? (i := 92) (by decide +kernel))) rfl
theorem mw_1_93 : (.fieldLink "SealedStores$Bonds" 19 "SealedStores$Bonds" "good" "[I" : Cond) ∈ xtb := tb_in (tb1 (List.mem_of_getElem? (i := 93) (by decide +kernel))) rfl
theorem mw_1_94 : (.fieldLink "SealedStores" 117 "SealedStores$Bonds" "good" "[I" : Cond) ∈ xtb := tb_in (tb1 (List.mem_of_getElem? (i := 94) (by decide +kernel))) rfl
theorem mw_1_95 : (.fieldLink "SealedStores$Ship" 179 "SealedStores$Bonds" "good" "[I" : Cond) ∈ xtb := tb_in (tb1 (List.mem_of_getElem? (i := 95) (by decide +kernel))) rfl
theorem mw_1_96 : (.fieldLink "SealedStores$Bonds" 23 "SealedStores$Bonds" "made" "[I" : Cond) ∈ xtb := tb_in (tb1 (List.mem_of_getElem? (i := 96) (by decide +kernel))) rfl
theorem mw_1_97 : (.fieldLink "SealedStores" 120 "SealedStores$Bonds" "made" "[I" : Cond) ∈ xtb := tb_in (tb1 (List.mem_of_getElem? (i := 97) (by decide +kernel))) rfl
theorem mw_1_98 : (.fieldLink "SealedStores$Bonds" 26 "SealedStores$Bonds" "left" "[I" : Cond) ∈ xtb := tb_in (tb1 (List.mem_of_getElem? (i := 98) (by decide +kernel))) rfl
theorem mw_1_99 : (.fieldLink "SealedStores" 123 "SealedStores$Bonds" "left" "[I" : Cond) ∈ xtb := tb_in (tb1 (List.mem_of_getElem? (i := 99) (by decide +kernel))) rfl
theorem mw_1_100 : (.fieldLink "SealedStores$Ship" 182 "SealedStores$Bonds" "left" "[I" : Cond) ∈ xtb := tb_in (tb1 (List.mem_of_getElem? (i := 100) (by decide +kernel))) rfl
theorem mw_1_101 : (.fieldLink "SealedStores$Bonds" 29 "SealedStores$Bonds" "duty" "[I" : Cond) ∈ xtb := tb_in (tb1 (List.mem_of_getElem? (i := 101) (by decide +kernel))) rfl
theorem mw_1_102 : (.fieldLink "SealedStores" 126 "SealedStores$Bonds" "duty" "[I" : Cond) ∈ xtb := tb_in (tb1 (List.mem_of_getElem? (i := 102) (by decide +kernel))) rfl
theorem mw_1_103 : (.fieldLink "SealedStores$Bonds" 32 "SealedStores$Bonds" "due" "[I" : Cond) ∈ xtb := tb_in (tb1 (List.mem_of_getElem? (i := 103) (by decide +kernel))) rfl
theorem mw_1_104 : (.fieldLink "SealedStores" 133 "SealedStores$Bonds" "due" "[I" : Cond) ∈ xtb := tb_in (tb1 (List.mem_of_getElem? (i := 104) (by decide +kernel))) rfl
theorem mw_1_105 : (.fieldLink "SealedStores$Ship" 176 "SealedStores$Bonds" "due" "[I" : Cond) ∈ xtb := tb_in (tb1 (List.mem_of_getElem? (i := 105) (by decide +kernel))) rfl
theorem mw_1_121 : (.classLink "SealedStores$Ship" 49 "SealedStores$Releases" : Cond) ∈ xtb := tb_in (tb1 (List.mem_of_getElem? (i := 121) (by decide +kernel))) rfl
theorem mw_1_122 : (.instantiable "SealedStores$Releases" 3 : Cond) ∈ xtb := tb_in (tb1 (List.mem_of_getElem? (i := 122) (by decide +kernel))) rfl
theorem mw_1_123 : (.methodLink "SealedStores$Ship" 51 yX4_init : Cond) ∈ xtb := tb_in (tb1 (List.mem_of_getElem? (i := 123) (by decide +kernel))) rfl
theorem mw_1_124 : (.instanceMethod yX4_init : Cond) ∈ xtb := tb_in (tb1 (List.mem_of_getElem? (i := 124) (by decide +kernel))) rfl
theorem mw_1_125 : (.code yX4_init cX4_init 1 none : Cond) ∈ xtb := tb_in (tb1 (List.mem_of_getElem? (i := 125) rfl)) rfl
theorem mw_1_126 : (.methodLink "SealedStores$Releases" 3 objectInit : Cond) ∈ xtb := tb_in (tb1 (List.mem_of_getElem? (i := 126) (by decide +kernel))) rfl
theorem mw_1_127 : (.fieldLink "SealedStores$Releases" 9 "SealedStores$Releases" "fines" "J" : Cond) ∈ xtb := tb_in (tb1 (List.mem_of_getElem? (i := 127) (by decide +kernel))) rfl
theorem mw_1_128 : (.fieldLink "SealedStores$Ship" 144 "SealedStores$Releases" "fines" "J" : Cond) ∈ xtb := tb_in (tb1 (List.mem_of_getElem? (i := 128) (by decide +kernel))) rfl
theorem mw_1_129 : (.fieldLink "SealedStores" 186 "SealedStores$Releases" "fines" "J" : Cond) ∈ xtb := tb_in (tb1 (List.mem_of_getElem? (i := 129) (by decide +kernel))) rfl
theorem mw_1_130 : (.fieldLink "SealedStores$Releases" 15 "SealedStores$Releases" "units" "[I" : Cond) ∈ xtb := tb_in (tb1 (List.mem_of_getElem? (i := 130) (by decide +kernel))) rfl
theorem mw_1_131 : (.fieldLink "SealedStores" 174 "SealedStores$Releases" "units" "[I" : Cond) ∈ xtb := tb_in (tb1 (List.mem_of_getElem? (i := 131) (by decide +kernel))) rfl
theorem mw_1_132 : (.fieldLink "SealedStores$Releases" 19 "SealedStores$Releases" "cents" "[J" : Cond) ∈ xtb := tb_in (tb1 (List.mem_of_getElem? (i := 132) (by decide +kernel))) rfl
theorem mw_1_133 : (.fieldLink "SealedStores" 193 "SealedStores$Releases" "cents" "[J" : Cond) ∈ xtb := tb_in (tb1 (List.mem_of_getElem? (i := 133) (by decide +kernel))) rfl
theorem mw_1_141 : (.arrayClass .long : Cond) ∈ xtb := tb_in (tb1 (List.mem_of_getElem? (i := 141) (by decide +kernel))) rfl
theorem mw_1_142 : (.fieldLink "SealedStores$Ship" 9 "SealedStores$Ship" "zone" "I" : Cond) ∈ xtb := tb_in (tb1 (List.mem_of_getElem? (i := 142) (by decide +kernel))) rfl
theorem mw_1_143 : (.fieldLink "SealedStores" 204 "SealedStores$Ship" "zone" "I" : Cond) ∈ xtb := tb_in (tb1 (List.mem_of_getElem? (i := 143) (by decide +kernel))) rfl
theorem mw_1_144 : (.fieldLink "SealedStores$Ship" 15 "SealedStores$Ship" "day" "I" : Cond) ∈ xtb := tb_in (tb1 (List.mem_of_getElem? (i := 144) (by decide +kernel))) rfl
theorem mw_1_145 : (.fieldLink "SealedStores" 207 "SealedStores$Ship" "day" "I" : Cond) ∈ xtb := tb_in (tb1 (List.mem_of_getElem? (i := 145) (by decide +kernel))) rfl
theorem mw_1_146 : (.fieldLink "SealedStores$Ship" 18 "SealedStores$Ship" "goods" "I" : Cond) ∈ xtb := tb_in (tb1 (List.mem_of_getElem? (i := 146) (by decide +kernel))) rfl
theorem mw_1_147 : (.fieldLink "SealedStores" 198 "SealedStores$Ship" "goods" "I" : Cond) ∈ xtb := tb_in (tb1 (List.mem_of_getElem? (i := 147) (by decide +kernel))) rfl
theorem mw_1_148 : (.fieldLink "SealedStores$Ship" 21 "SealedStores$Ship" "duties" "[I" : Cond) ∈ xtb := tb_in (tb1 (List.mem_of_getElem? (i := 148) (by decide +kernel))) rfl
theorem mw_1_149 : (.fieldLink "SealedStores$Ship" 25 "SealedStores$Ship" "settings" "[I" : Cond) ∈ xtb := tb_in (tb1 (List.mem_of_getElem? (i := 149) (by decide +kernel))) rfl
theorem mw_1_150 : (.fieldLink "SealedStores" 216 "SealedStores$Ship" "settings" "[I" : Cond) ∈ xtb := tb_in (tb1 (List.mem_of_getElem? (i := 150) (by decide +kernel))) rfl
theorem mw_1_151 : (.fieldLink "SealedStores$Ship" 31 "SealedStores$Ship" "lockers" "LSealedStores$Lockers;" : Cond) ∈ xtb := tb_in (tb1 (List.mem_of_getElem? (i := 151) (by decide +kernel))) rfl
theorem mw_1_152 : (.fieldLink "SealedStores" 60 "SealedStores$Ship" "lockers" "LSealedStores$Lockers;" : Cond) ∈ xtb := tb_in (tb1 (List.mem_of_getElem? (i := 152) (by decide +kernel))) rfl
theorem mw_1_153 : (.fieldLink "SealedStores$Ship" 38 "SealedStores$Ship" "seals" "LSealedStores$Seals;" : Cond) ∈ xtb := tb_in (tb1 (List.mem_of_getElem? (i := 153) (by decide +kernel))) rfl
theorem mw_1_154 : (.fieldLink "SealedStores" 89 "SealedStores$Ship" "seals" "LSealedStores$Seals;" : Cond) ∈ xtb := tb_in (tb1 (List.mem_of_getElem? (i := 154) (by decide +kernel))) rfl
theorem mw_1_155 : (.fieldLink "SealedStores$Ship" 45 "SealedStores$Ship" "bonds" "LSealedStores$Bonds;" : Cond) ∈ xtb := tb_in (tb1 (List.mem_of_getElem? (i := 155) (by decide +kernel))) rfl
theorem mw_1_156 : (.fieldLink "SealedStores" 108 "SealedStores$Ship" "bonds" "LSealedStores$Bonds;" : Cond) ∈ xtb := tb_in (tb1 (List.mem_of_getElem? (i := 156) (by decide +kernel))) rfl
theorem mw_1_157 : (.fieldLink "SealedStores$Ship" 52 "SealedStores$Ship" "releases" "LSealedStores$Releases;" : Cond) ∈ xtb := tb_in (tb1 (List.mem_of_getElem? (i := 157) (by decide +kernel))) rfl
theorem mw_1_158 : (.fieldLink "SealedStores" 170 "SealedStores$Ship" "releases" "LSealedStores$Releases;" : Cond) ∈ xtb := tb_in (tb1 (List.mem_of_getElem? (i := 158) (by decide +kernel))) rfl
theorem mw_1_178 : (.classLink "SealedStores" 19 "SealedStores$History" : Cond) ∈ xtb := tb_in (tb1 (List.mem_of_getElem? (i := 178) (by decide +kernel))) rfl
theorem mw_1_179 : (.instantiable "SealedStores$History" 3 : Cond) ∈ xtb := tb_in (tb1 (List.mem_of_getElem? (i := 179) (by decide +kernel))) rfl
theorem mw_1_180 : (.methodLink "SealedStores" 21 yX1_init : Cond) ∈ xtb := tb_in (tb1 (List.mem_of_getElem? (i := 180) (by decide +kernel))) rfl
theorem mw_1_181 : (.instanceMethod yX1_init : Cond) ∈ xtb := tb_in (tb1 (List.mem_of_getElem? (i := 181) (by decide +kernel))) rfl
theorem mw_1_182 : (.code yX1_init cX1_init 2 none : Cond) ∈ xtb := tb_in (tb1 (List.mem_of_getElem? (i := 182) rfl)) rfl
theorem mw_1_183 : (.methodLink "SealedStores$History" 3 objectInit : Cond) ∈ xtb := tb_in (tb1 (List.mem_of_getElem? (i := 183) (by decide +kernel))) rfl
theorem mw_1_184 : (.classLink "SealedStores$History" 18 "SealedStores$Ship" : Cond) ∈ xtb := tb_in (tb1 (List.mem_of_getElem? (i := 184) (by decide +kernel))) rfl
theorem mw_1_185 : (.arrayOver (.object "SealedStores$Ship") : Cond) ∈ lw_tbl := tb1 (List.mem_of_getElem? (i := 185) (by decide +kernel))
theorem mw_1_186 : (.methodLink "SealedStores$History" 24 yX6_init : Cond) ∈ xtb := tb_in (tb1 (List.mem_of_getElem? (i := 186) (by decide +kernel))) rfl
theorem mw_1_187 : (.fieldLink "SealedStores$History" 9 "SealedStores$History" "number" "I" : Cond) ∈ xtb := tb_in (tb1 (List.mem_of_getElem? (i := 187) (by decide +kernel))) rfl
theorem mw_1_188 : (.fieldLink "SealedStores" 212 "SealedStores$History" "number" "I" : Cond) ∈ xtb := tb_in (tb1 (List.mem_of_getElem? (i := 188) (by decide +kernel))) rfl
theorem mw_1_189 : (.fieldLink "SealedStores$History" 15 "SealedStores$History" "latest" "I" : Cond) ∈ xtb := tb_in (tb1 (List.mem_of_getElem? (i := 189) (by decide +kernel))) rfl
theorem mw_1_190 : (.fieldLink "SealedStores$History" 20 "SealedStores$History" "states" "[LSealedStores$Ship;" : Cond) ∈ xtb := tb_in (tb1 (List.mem_of_getElem? (i := 190) (by decide +kernel))) rfl
theorem mw_1_198 : (.classLink "SealedStores" 26 "SealedStores$OrderLog" : Cond) ∈ xtb := tb_in (tb1 (List.mem_of_getElem? (i := 198) (by decide +kernel))) rfl
theorem mw_1_199 : (.instantiable "SealedStores$OrderLog" 9 : Cond) ∈ xtb := tb_in (tb1 (List.mem_of_getElem? (i := 199) (by decide +kernel))) rfl
theorem mw_1_200 : (.methodLink "SealedStores" 28 yX3_init : Cond) ∈ xtb := tb_in (tb1 (List.mem_of_getElem? (i := 200) (by decide +kernel))) rfl
theorem mw_1_201 : (.instanceMethod yX3_init : Cond) ∈ xtb := tb_in (tb1 (List.mem_of_getElem? (i := 201) (by decide +kernel))) rfl
theorem mw_1_202 : (.code yX3_init cX3_init 1 none : Cond) ∈ xtb := tb_in (tb1 (List.mem_of_getElem? (i := 202) rfl)) rfl
theorem mw_1_203 : (.methodLink "SealedStores$OrderLog" 3 objectInit : Cond) ∈ xtb := tb_in (tb1 (List.mem_of_getElem? (i := 203) (by decide +kernel))) rfl
theorem mw_1_204 : (.fieldLink "SealedStores$OrderLog" 9 "SealedStores$OrderLog" "length" "I" : Cond) ∈ xtb := tb_in (tb1 (List.mem_of_getElem? (i := 204) (by decide +kernel))) rfl
theorem mw_1_205 : (.fieldLink "SealedStores" 213 "SealedStores$OrderLog" "length" "I" : Cond) ∈ xtb := tb_in (tb1 (List.mem_of_getElem? (i := 205) (by decide +kernel))) rfl
theorem mw_1_206 : (.fieldLink "SealedStores$OrderLog" 50 "SealedStores$OrderLog" "faultPosition" "I" : Cond) ∈ xtb := tb_in (tb1 (List.mem_of_getElem? (i := 206) (by decide +kernel))) rfl
theorem mw_1_207 : (.fieldLink "SealedStores" 247 "SealedStores$OrderLog" "faultPosition" "I" : Cond) ∈ xtb := tb_in (tb1 (List.mem_of_getElem? (i := 207) (by decide +kernel))) rfl
theorem mw_1_208 : (.fieldLink "SealedStores$OrderLog" 29 "SealedStores$OrderLog" "faultReason" "I" : Cond) ∈ xtb := tb_in (tb1 (List.mem_of_getElem? (i := 208) (by decide +kernel))) rfl
theorem mw_1_209 : (.fieldLink "SealedStores" 244 "SealedStores$OrderLog" "faultReason" "I" : Cond) ∈ xtb := tb_in (tb1 (List.mem_of_getElem? (i := 209) (by decide +kernel))) rfl
theorem mw_1_210 : (.fieldLink "SealedStores$OrderLog" 53 "SealedStores$OrderLog" "faultCause" "I" : Cond) ∈ xtb := tb_in (tb1 (List.mem_of_getElem? (i := 210) (by decide +kernel))) rfl
theorem mw_1_211 : (.fieldLink "SealedStores" 250 "SealedStores$OrderLog" "faultCause" "I" : Cond) ∈ xtb := tb_in (tb1 (List.mem_of_getElem? (i := 211) (by decide +kernel))) rfl
theorem mw_1_212 : (.fieldLink "SealedStores$OrderLog" 32 "SealedStores$OrderLog" "ordersDone" "I" : Cond) ∈ xtb := tb_in (tb1 (List.mem_of_getElem? (i := 212) (by decide +kernel))) rfl
theorem mw_1_213 : (.fieldLink "SealedStores$OrderLog" 35 "SealedStores$OrderLog" "position" "I" : Cond) ∈ xtb := tb_in (tb1 (List.mem_of_getElem? (i := 213) (by decide +kernel))) rfl
theorem mw_1_214 : (.fieldLink "SealedStores$OrderLog" 56 "SealedStores$OrderLog" "kind" "C" : Cond) ∈ xtb := tb_in (tb1 (List.mem_of_getElem? (i := 214) (by decide +kernel))) rfl
theorem mw_1_215 : (.fieldLink "SealedStores$OrderLog" 15 "SealedStores$OrderLog" "numbers" "[I" : Cond) ∈ xtb := tb_in (tb1 (List.mem_of_getElem? (i := 215) (by decide +kernel))) rfl
theorem mw_1_216 : (.fieldLink "SealedStores$OrderLog" 19 "SealedStores$OrderLog" "signs" "[C" : Cond) ∈ xtb := tb_in (tb1 (List.mem_of_getElem? (i := 216) (by decide +kernel))) rfl
theorem mw_1_236 : (.arrayClass .char : Cond) ∈ xtb := tb_in (tb1 (List.mem_of_getElem? (i := 236) (by decide +kernel))) rfl
theorem mw_1_237 : (.fieldLink "SealedStores" 10 "SealedStores" "ship" "LSealedStores$Ship;" : Cond) ∈ xtb := tb_in (tb1 (List.mem_of_getElem? (i := 237) (by decide +kernel))) rfl
theorem mw_1_238 : (.fieldLink "SealedStores" 16 "SealedStores" "trial" "LSealedStores$Ship;" : Cond) ∈ xtb := tb_in (tb1 (List.mem_of_getElem? (i := 238) (by decide +kernel))) rfl
theorem mw_1_239 : (.fieldLink "SealedStores" 22 "SealedStores" "history" "LSealedStores$History;" : Cond) ∈ xtb := tb_in (tb1 (List.mem_of_getElem? (i := 239) (by decide +kernel))) rfl
theorem mw_2_0 : (.fieldLink "SealedStores" 29 "SealedStores" "log" "LSealedStores$OrderLog;" : Cond) ∈ xtb := tb_in (tb2 (List.mem_of_getElem? (i := 0) (by decide +kernel))) rfl
theorem mw_2_10 : (.methodLink "SealedStoresLaw" 96 yX7_locker : Cond) ∈ xtb := tb_in (tb2 (List.mem_of_getElem? (i := 10) (by decide +kernel))) rfl
theorem mw_2_11 : (.instanceMethod yX7_locker : Cond) ∈ xtb := tb_in (tb2 (List.mem_of_getElem? (i := 11) (by decide +kernel))) rfl
theorem mw_2_12 : (.selects "SealedStores" yX7_locker yX7_locker : Cond) ∈ xtb := tb_in (tb2 (List.mem_of_getElem? (i := 12) (by decide +kernel))) rfl
theorem mw_2_13 : (.code yX7_locker cX7_locker 1 (some .int) : Cond) ∈ xtb := tb_in (tb2 (List.mem_of_getElem? (i := 13) rfl)) rfl
theorem mw_2_14 : (.methodLink "SealedStores" 33 yX1_prepare : Cond) ∈ xtb := tb_in (tb2 (List.mem_of_getElem? (i := 14) (by decide +kernel))) rfl
theorem mw_2_15 : (.instanceMethod yX1_prepare : Cond) ∈ xtb := tb_in (tb2 (List.mem_of_getElem? (i := 15) (by decide +kernel))) rfl
theorem mw_2_16 : (.selects "SealedStores$History" yX1_prepare yX1_prepare : Cond) ∈ xtb := tb_in (tb2 (List.mem_of_getElem? (i := 16) (by decide +kernel))) rfl
theorem mw_2_17 : (.code yX1_prepare cX1_prepare 2 none : Cond) ∈ xtb := tb_in (tb2 (List.mem_of_getElem? (i := 17) rfl)) rfl
theorem mw_2_18 : (.methodLink "SealedStores$History" 25 yX1_spare : Cond) ∈ xtb := tb_in (tb2 (List.mem_of_getElem? (i := 18) (by decide +kernel))) rfl
theorem mw_2_20 : (.instanceMethod yX1_spare : Cond) ∈ xtb := tb_in (tb2 (List.mem_of_getElem? (i := 20) (by decide +kernel))) rfl
theorem mw_2_21 : (.code yX1_spare cX1_spare 1 (some .int) : Cond) ∈ xtb := tb_in (tb2 (List.mem_of_getElem? (i := 21) rfl)) rfl
theorem mw_2_22 : (.methodLink "SealedStores$History" 29 yX6_become : Cond) ∈ xtb := tb_in (tb2 (List.mem_of_getElem? (i := 22) (by decide +kernel))) rfl
theorem mw_2_23 : (.instanceMethod yX6_become : Cond) ∈ xtb := tb_in (tb2 (List.mem_of_getElem? (i := 23) (by decide +kernel))) rfl
theorem mw_2_24 : (.selects "SealedStores$Ship" yX6_become yX6_become : Cond) ∈ xtb := tb_in (tb2 (List.mem_of_getElem? (i := 24) (by decide +kernel))) rfl
theorem mw_2_25 : (.code yX6_become cX6_become 2 none : Cond) ∈ xtb := tb_in (tb2 (List.mem_of_getElem? (i := 25) rfl)) rfl
theorem mw_2_26 : (.methodLink "SealedStores$Ship" 56 arraycopyName : Cond) ∈ xtb := tb_in (tb2 (List.mem_of_getElem? (i := 26) (by decide +kernel))) rfl
theorem mw_2_27 : (.static arraycopyName : Cond) ∈ xtb := tb_in (tb2 (List.mem_of_getElem? (i := 27) (by decide +kernel))) rfl
theorem mw_2_28 : (.native arraycopyName : Cond) ∈ xtb := tb_in (tb2 (List.mem_of_getElem? (i := 28) (by decide +kernel))) rfl
theorem mw_2_29 : (.methodLink "SealedStores$Ship" 62 yX2_become : Cond) ∈ xtb := tb_in (tb2 (List.mem_of_getElem? (i := 29) (by decide +kernel))) rfl
theorem mw_2_30 : (.instanceMethod yX2_become : Cond) ∈ xtb := tb_in (tb2 (List.mem_of_getElem? (i := 30) (by decide +kernel))) rfl
theorem mw_2_31 : (.selects "SealedStores$Lockers" yX2_become yX2_become : Cond) ∈ xtb := tb_in (tb2 (List.mem_of_getElem? (i := 31) (by decide +kernel))) rfl
theorem mw_2_32 : (.code yX2_become cX2_become 2 none : Cond) ∈ xtb := tb_in (tb2 (List.mem_of_getElem? (i := 32) rfl)) rfl
theorem mw_2_33 : (.methodLink "SealedStores$Lockers" 28 arraycopyName : Cond) ∈ xtb := tb_in (tb2 (List.mem_of_getElem? (i := 33) (by decide +kernel))) rfl
theorem mw_2_34 : (.methodLink "SealedStores$Ship" 66 yX5_become : Cond) ∈ xtb := tb_in (tb2 (List.mem_of_getElem? (i := 34) (by decide +kernel))) rfl
theorem mw_2_35 : (.instanceMethod yX5_become : Cond) ∈ xtb := tb_in (tb2 (List.mem_of_getElem? (i := 35) (by decide +kernel))) rfl
theorem mw_2_36 : (.selects "SealedStores$Seals" yX5_become yX5_become : Cond) ∈ xtb := tb_in (tb2 (List.mem_of_getElem? (i := 36) (by decide +kernel))) rfl
theorem mw_2_37 : (.code yX5_become cX5_become 2 none : Cond) ∈ xtb := tb_in (tb2 (List.mem_of_getElem? (i := 37) rfl)) rfl
theorem mw_2_38 : (.methodLink "SealedStores$Seals" 25 arraycopyName : Cond) ∈ xtb := tb_in (tb2 (List.mem_of_getElem? (i := 38) (by decide +kernel))) rfl
theorem mw_2_39 : (.methodLink "SealedStores$Ship" 69 yX0_become : Cond) ∈ xtb := tb_in (tb2 (List.mem_of_getElem? (i := 39) (by decide +kernel))) rfl
theorem mw_2_40 : (.instanceMethod yX0_become : Cond) ∈ xtb := tb_in (tb2 (List.mem_of_getElem? (i := 40) (by decide +kernel))) rfl
theorem mw_2_41 : (.selects "SealedStores$Bonds" yX0_become yX0_become : Cond) ∈ xtb := tb_in (tb2 (List.mem_of_getElem? (i := 41) (by decide +kernel))) rfl
theorem mw_2_42 : (.code yX0_become cX0_become 2 none : Cond) ∈ xtb := tb_in (tb2 (List.mem_of_getElem? (i := 42) rfl)) rfl
theorem mw_2_43 : (.methodLink "SealedStores$Bonds" 35 arraycopyName : Cond) ∈ xtb := tb_in (tb2 (List.mem_of_getElem? (i := 43) (by decide +kernel))) rfl
theorem mw_2_44 : (.methodLink "SealedStores$Ship" 72 yX4_become : Cond) ∈ xtb := tb_in (tb2 (List.mem_of_getElem? (i := 44) (by decide +kernel))) rfl
theorem mw_2_45 : (.instanceMethod yX4_become : Cond) ∈ xtb := tb_in (tb2 (List.mem_of_getElem? (i := 45) (by decide +kernel))) rfl
theorem mw_2_46 : (.selects "SealedStores$Releases" yX4_become yX4_become : Cond) ∈ xtb := tb_in (tb2 (List.mem_of_getElem? (i := 46) (by decide +kernel))) rfl
theorem mw_2_47 : (.code yX4_become cX4_become 2 none : Cond) ∈ xtb := tb_in (tb2 (List.mem_of_getElem? (i := 47) rfl)) rfl
theorem mw_2_48 : (.methodLink "SealedStores$Releases" 23 arraycopyName : Cond) ∈ xtb := tb_in (tb2 (List.mem_of_getElem? (i := 48) (by decide +kernel))) rfl
theorem mw_2_49 : (.methodLink "SealedStores" 37 yX6_addLocker : Cond) ∈ xtb := tb_in (tb2 (List.mem_of_getElem? (i := 49) (by decide +kernel))) rfl
theorem mw_2_50 : (.instanceMethod yX6_addLocker : Cond) ∈ xtb := tb_in (tb2 (List.mem_of_getElem? (i := 50) (by decide +kernel))) rfl
theorem mw_2_51 : (.selects "SealedStores$Ship" yX6_addLocker yX6_addLocker : Cond) ∈ xtb := tb_in (tb2 (List.mem_of_getElem? (i := 51) (by decide +kernel))) rfl
theorem mw_2_52 : (.code yX6_addLocker cX6_addLocker 2 (some .int) : Cond) ∈ xtb := tb_in (tb2 (List.mem_of_getElem? (i := 52) rfl)) rfl
theorem mw_2_53 : (.methodLink "SealedStores$Ship" 86 yX5_left : Cond) ∈ xtb := tb_in (tb2 (List.mem_of_getElem? (i := 53) (by decide +kernel))) rfl
theorem mw_2_54 : (.instanceMethod yX5_left : Cond) ∈ xtb := tb_in (tb2 (List.mem_of_getElem? (i := 54) (by decide +kernel))) rfl
theorem mw_2_55 : (.selects "SealedStores$Seals" yX5_left yX5_left : Cond) ∈ xtb := tb_in (tb2 (List.mem_of_getElem? (i := 55) (by decide +kernel))) rfl
theorem mw_2_56 : (.code yX5_left cX5_left 1 (some .int) : Cond) ∈ xtb := tb_in (tb2 (List.mem_of_getElem? (i := 56) rfl)) rfl
theorem mw_2_57 : (.methodLink "SealedStores$Ship" 90 yX6_putSeal : Cond) ∈ xtb := tb_in (tb2 (List.mem_of_getElem? (i := 57) (by decide +kernel))) rfl
theorem mw_2_59 : (.instanceMethod yX6_putSeal : Cond) ∈ xtb := tb_in (tb2 (List.mem_of_getElem? (i := 59) (by decide +kernel))) rfl
theorem mw_2_60 : (.code yX6_putSeal cX6_putSeal 2 none : Cond) ∈ xtb := tb_in (tb2 (List.mem_of_getElem? (i := 60) rfl)) rfl
theorem mw_2_61 : (.methodLink "SealedStores$Ship" 190 yX5_putOn : Cond) ∈ xtb := tb_in (tb2 (List.mem_of_getElem? (i := 61) (by decide +kernel))) rfl
theorem mw_2_62 : (.instanceMethod yX5_putOn : Cond) ∈ xtb := tb_in (tb2 (List.mem_of_getElem? (i := 62) (by decide +kernel))) rfl
theorem mw_2_63 : (.selects "SealedStores$Seals" yX5_putOn yX5_putOn : Cond) ∈ xtb := tb_in (tb2 (List.mem_of_getElem? (i := 63) (by decide +kernel))) rfl
theorem mw_2_64 : (.code yX5_putOn cX5_putOn 3 (some .int) : Cond) ∈ xtb := tb_in (tb2 (List.mem_of_getElem? (i := 64) rfl)) rfl
theorem mw_2_65 : (.methodLink "SealedStores" 41 yX1_finish : Cond) ∈ xtb := tb_in (tb2 (List.mem_of_getElem? (i := 65) (by decide +kernel))) rfl
theorem mw_2_66 : (.instanceMethod yX1_finish : Cond) ∈ xtb := tb_in (tb2 (List.mem_of_getElem? (i := 66) (by decide +kernel))) rfl
theorem mw_2_67 : (.selects "SealedStores$History" yX1_finish yX1_finish : Cond) ∈ xtb := tb_in (tb2 (List.mem_of_getElem? (i := 67) (by decide +kernel))) rfl
theorem mw_2_68 : (.code yX1_finish cX1_finish 2 (some .int) : Cond) ∈ xtb := tb_in (tb2 (List.mem_of_getElem? (i := 68) rfl)) rfl
theorem mw_2_69 : (.methodLink "SealedStores$History" 33 Lib.Math.min.name : Cond) ∈ xtb := tb_in (tb2 (List.mem_of_getElem? (i := 69) (by decide +kernel))) rfl
theorem mw_2_70 : (.static Lib.Math.min.name : Cond) ∈ xtb := tb_in (tb2 (List.mem_of_getElem? (i := 70) (by decide +kernel))) rfl
theorem mw_2_71 : (.code Lib.Math.min.name Lib.Math.min.code 2 (some .int) : Cond) ∈ xtb := tb_in (tb2 (List.mem_of_getElem? (i := 71) rfl)) rfl
theorem mw_2_72 : (.methodLink "SealedStoresLaw" 49 yX7_good : Cond) ∈ xtb := tb_in (tb2 (List.mem_of_getElem? (i := 72) (by decide +kernel))) rfl
theorem mw_2_73 : (.instanceMethod yX7_good : Cond) ∈ xtb := tb_in (tb2 (List.mem_of_getElem? (i := 73) (by decide +kernel))) rfl
theorem mw_2_74 : (.selects "SealedStores" yX7_good yX7_good : Cond) ∈ xtb := tb_in (tb2 (List.mem_of_getElem? (i := 74) (by decide +kernel))) rfl
theorem mw_2_75 : (.code yX7_good cX7_good 2 (some .int) : Cond) ∈ xtb := tb_in (tb2 (List.mem_of_getElem? (i := 75) rfl)) rfl
theorem mw_2_76 : (.methodLink "SealedStores" 45 yX6_addGood : Cond) ∈ xtb := tb_in (tb2 (List.mem_of_getElem? (i := 76) (by decide +kernel))) rfl
theorem mw_2_77 : (.instanceMethod yX6_addGood : Cond) ∈ xtb := tb_in (tb2 (List.mem_of_getElem? (i := 77) (by decide +kernel))) rfl
theorem mw_2_78 : (.selects "SealedStores$Ship" yX6_addGood yX6_addGood : Cond) ∈ xtb := tb_in (tb2 (List.mem_of_getElem? (i := 78) (by decide +kernel))) rfl
theorem mw_2_79 : (.code yX6_addGood cX6_addGood 2 (some .int) : Cond) ∈ xtb := tb_in (tb2 (List.mem_of_getElem? (i := 79) rfl)) rfl
theorem mw_2_80 : (.methodLink "SealedStores$Ship" 94 yX6_isDuty : Cond) ∈ xtb := tb_in (tb2 (List.mem_of_getElem? (i := 80) (by decide +kernel))) rfl
theorem mw_2_81 : (.instanceMethod yX6_isDuty : Cond) ∈ xtb := tb_in (tb2 (List.mem_of_getElem? (i := 81) (by decide +kernel))) rfl
theorem mw_2_82 : (.selects "SealedStores$Ship" yX6_isDuty yX6_isDuty : Cond) ∈ xtb := tb_in (tb2 (List.mem_of_getElem? (i := 82) (by decide +kernel))) rfl
theorem mw_2_83 : (.code yX6_isDuty cX6_isDuty 2 (some .boolean) : Cond) ∈ xtb := tb_in (tb2 (List.mem_of_getElem? (i := 83) rfl)) rfl
theorem mw_2_84 : (.constant "SealedStores$Ship" 78 (1000000) : Cond) ∈ xtb := tb_in (tb2 (List.mem_of_getElem? (i := 84) (by decide +kernel))) rfl
theorem mw_2_85 : (.methodLink "SealedStoresLaw" 56 yX7_load : Cond) ∈ xtb := tb_in (tb2 (List.mem_of_getElem? (i := 85) (by decide +kernel))) rfl
theorem mw_2_86 : (.instanceMethod yX7_load : Cond) ∈ xtb := tb_in (tb2 (List.mem_of_getElem? (i := 86) (by decide +kernel))) rfl
theorem mw_2_87 : (.selects "SealedStores" yX7_load yX7_load : Cond) ∈ xtb := tb_in (tb2 (List.mem_of_getElem? (i := 87) (by decide +kernel))) rfl
theorem mw_2_88 : (.code yX7_load cX7_load 4 (some .int) : Cond) ∈ xtb := tb_in (tb2 (List.mem_of_getElem? (i := 88) rfl)) rfl
theorem mw_2_89 : (.methodLink "SealedStores" 52 yX6_loadUnits : Cond) ∈ xtb := tb_in (tb2 (List.mem_of_getElem? (i := 89) (by decide +kernel))) rfl
theorem mw_2_90 : (.instanceMethod yX6_loadUnits : Cond) ∈ xtb := tb_in (tb2 (List.mem_of_getElem? (i := 90) (by decide +kernel))) rfl
theorem mw_2_91 : (.selects "SealedStores$Ship" yX6_loadUnits yX6_loadUnits : Cond) ∈ xtb := tb_in (tb2 (List.mem_of_getElem? (i := 91) (by decide +kernel))) rfl
theorem mw_2_92 : (.code yX6_loadUnits cX6_loadUnits 7 (some .int) : Cond) ∈ xtb := tb_in (tb2 (List.mem_of_getElem? (i := 92) rfl)) rfl
theorem mw_2_93 : (.methodLink "SealedStores$Ship" 97 yX6_canMove : Cond) ∈ xtb := tb_in (tb2 (List.mem_of_getElem? (i := 93) (by decide +kernel))) rfl
theorem mw_2_94 : (.instanceMethod yX6_canMove : Cond) ∈ xtb := tb_in (tb2 (List.mem_of_getElem? (i := 94) (by decide +kernel))) rfl
theorem mw_2_95 : (.selects "SealedStores$Ship" yX6_canMove yX6_canMove : Cond) ∈ xtb := tb_in (tb2 (List.mem_of_getElem? (i := 95) (by decide +kernel))) rfl
theorem mw_2_96 : (.code yX6_canMove cX6_canMove 4 (some .boolean) : Cond) ∈ xtb := tb_in (tb2 (List.mem_of_getElem? (i := 96) rfl)) rfl
theorem mw_2_97 : (.methodLink "SealedStores$Ship" 79 yX6_hasLocker : Cond) ∈ xtb := tb_in (tb2 (List.mem_of_getElem? (i := 97) (by decide +kernel))) rfl
theorem mw_2_98 : (.instanceMethod yX6_hasLocker : Cond) ∈ xtb := tb_in (tb2 (List.mem_of_getElem? (i := 98) (by decide +kernel))) rfl
theorem mw_2_99 : (.selects "SealedStores$Ship" yX6_hasLocker yX6_hasLocker : Cond) ∈ xtb := tb_in (tb2 (List.mem_of_getElem? (i := 99) (by decide +kernel))) rfl
theorem mw_2_100 : (.code yX6_hasLocker cX6_hasLocker 2 (some .boolean) : Cond) ∈ xtb := tb_in (tb2 (List.mem_of_getElem? (i := 100) rfl)) rfl
theorem mw_2_101 : (.methodLink "SealedStores$Ship" 83 yX6_hasGood : Cond) ∈ xtb := tb_in (tb2 (List.mem_of_getElem? (i := 101) (by decide +kernel))) rfl
theorem mw_2_102 : (.instanceMethod yX6_hasGood : Cond) ∈ xtb := tb_in (tb2 (List.mem_of_getElem? (i := 102) (by decide +kernel))) rfl
theorem mw_2_103 : (.selects "SealedStores$Ship" yX6_hasGood yX6_hasGood : Cond) ∈ xtb := tb_in (tb2 (List.mem_of_getElem? (i := 103) (by decide +kernel))) rfl
theorem mw_2_104 : (.code yX6_hasGood cX6_hasGood 2 (some .boolean) : Cond) ∈ xtb := tb_in (tb2 (List.mem_of_getElem? (i := 104) rfl)) rfl
theorem mw_2_105 : (.methodLink "SealedStores$Ship" 104 yX2_place : Cond) ∈ xtb := tb_in (tb2 (List.mem_of_getElem? (i := 105) (by decide +kernel))) rfl
theorem mw_2_106 : (.instanceMethod yX2_place : Cond) ∈ xtb := tb_in (tb2 (List.mem_of_getElem? (i := 106) (by decide +kernel))) rfl
theorem mw_2_107 : (.selects "SealedStores$Lockers" yX2_place yX2_place : Cond) ∈ xtb := tb_in (tb2 (List.mem_of_getElem? (i := 107) (by decide +kernel))) rfl
theorem mw_2_108 : (.code yX2_place cX2_place 3 (some .int) : Cond) ∈ xtb := tb_in (tb2 (List.mem_of_getElem? (i := 108) rfl)) rfl
theorem mw_2_109 : (.constant "SealedStores$Ship" 112 (99999) : Cond) ∈ xtb := tb_in (tb2 (List.mem_of_getElem? (i := 109) (by decide +kernel))) rfl
theorem mw_2_110 : (.constantLong "SealedStores$Ship" 117 (2147483647) : Cond) ∈ xtb := tb_in (tb2 (List.mem_of_getElem? (i := 110) (by decide +kernel))) rfl
theorem mw_2_111 : (.methodLink "SealedStores$Ship" 119 yX6_sealByOfficer : Cond) ∈ xtb := tb_in (tb2 (List.mem_of_getElem? (i := 111) (by decide +kernel))) rfl
theorem mw_2_113 : (.instanceMethod yX6_sealByOfficer : Cond) ∈ xtb := tb_in (tb2 (List.mem_of_getElem? (i := 113) (by decide +kernel))) rfl
theorem mw_2_114 : (.code yX6_sealByOfficer cX6_sealByOfficer 2 none : Cond) ∈ xtb := tb_in (tb2 (List.mem_of_getElem? (i := 114) rfl)) rfl
theorem mw_2_115 : (.methodLink "SealedStores$Ship" 136 yX5_end : Cond) ∈ xtb := tb_in (tb2 (List.mem_of_getElem? (i := 115) (by decide +kernel))) rfl
theorem mw_2_116 : (.instanceMethod yX5_end : Cond) ∈ xtb := tb_in (tb2 (List.mem_of_getElem? (i := 116) (by decide +kernel))) rfl
theorem mw_2_117 : (.selects "SealedStores$Seals" yX5_end yX5_end : Cond) ∈ xtb := tb_in (tb2 (List.mem_of_getElem? (i := 117) (by decide +kernel))) rfl
theorem mw_2_118 : (.code yX5_end cX5_end 3 none : Cond) ∈ xtb := tb_in (tb2 (List.mem_of_getElem? (i := 118) rfl)) rfl
theorem mw_2_119 : (.methodLink "SealedStores$Ship" 122 yX0_add : Cond) ∈ xtb := tb_in (tb2 (List.mem_of_getElem? (i := 119) (by decide +kernel))) rfl
theorem mw_2_120 : (.instanceMethod yX0_add : Cond) ∈ xtb := tb_in (tb2 (List.mem_of_getElem? (i := 120) (by decide +kernel))) rfl
theorem mw_2_121 : (.selects "SealedStores$Bonds" yX0_add yX0_add : Cond) ∈ xtb := tb_in (tb2 (List.mem_of_getElem? (i := 121) (by decide +kernel))) rfl
theorem mw_2_122 : (.code yX0_add cX0_add 6 (some .int) : Cond) ∈ xtb := tb_in (tb2 (List.mem_of_getElem? (i := 122) rfl)) rfl
theorem mw_2_123 : (.methodLink "SealedStoresLaw" 21 yX7_lockerOf : Cond) ∈ xtb := tb_in (tb2 (List.mem_of_getElem? (i := 123) (by decide +kernel))) rfl
theorem mw_2_124 : (.instanceMethod yX7_lockerOf : Cond) ∈ xtb := tb_in (tb2 (List.mem_of_getElem? (i := 124) (by decide +kernel))) rfl
theorem mw_2_125 : (.selects "SealedStores" yX7_lockerOf yX7_lockerOf : Cond) ∈ xtb := tb_in (tb2 (List.mem_of_getElem? (i := 125) (by decide +kernel))) rfl
theorem mw_2_126 : (.code yX7_lockerOf cX7_lockerOf 4 (some .int) : Cond) ∈ xtb := tb_in (tb2 (List.mem_of_getElem? (i := 126) rfl)) rfl
theorem mw_2_127 : (.methodLink "SealedStores" 56 yX6_hasLocker : Cond) ∈ xtb := tb_in (tb2 (List.mem_of_getElem? (i := 127) (by decide +kernel))) rfl
theorem mw_2_128 : (.methodLink "SealedStores" 76 yX2_sumOfLocker : Cond) ∈ xtb := tb_in (tb2 (List.mem_of_getElem? (i := 128) (by decide +kernel))) rfl
theorem mw_2_129 : (.instanceMethod yX2_sumOfLocker : Cond) ∈ xtb := tb_in (tb2 (List.mem_of_getElem? (i := 129) (by decide +kernel))) rfl
theorem mw_2_130 : (.selects "SealedStores$Lockers" yX2_sumOfLocker yX2_sumOfLocker : Cond) ∈ xtb := tb_in (tb2 (List.mem_of_getElem? (i := 130) (by decide +kernel))) rfl
theorem mw_2_131 : (.code yX2_sumOfLocker cX2_sumOfLocker 5 (some .int) : Cond) ∈ xtb := tb_in (tb2 (List.mem_of_getElem? (i := 131) rfl)) rfl
theorem mw_2_132 : (.methodLink "SealedStores$Lockers" 34 yX2_place : Cond) ∈ xtb := tb_in (tb2 (List.mem_of_getElem? (i := 132) (by decide +kernel))) rfl
theorem mw_2_133 : (.methodLink "SealedStores" 83 yX6_hasGood : Cond) ∈ xtb := tb_in (tb2 (List.mem_of_getElem? (i := 133) (by decide +kernel))) rfl
theorem mw_2_134 : (.methodLink "SealedStores" 86 yX2_place : Cond) ∈ xtb := tb_in (tb2 (List.mem_of_getElem? (i := 134) (by decide +kernel))) rfl
theorem mw_2_135 : (.methodLink "SealedStoresLaw" 37 yX7_seal : Cond) ∈ xtb := tb_in (tb2 (List.mem_of_getElem? (i := 135) (by decide +kernel))) rfl
theorem mw_2_136 : (.instanceMethod yX7_seal : Cond) ∈ xtb := tb_in (tb2 (List.mem_of_getElem? (i := 136) (by decide +kernel))) rfl
theorem mw_2_137 : (.selects "SealedStores" yX7_seal yX7_seal : Cond) ∈ xtb := tb_in (tb2 (List.mem_of_getElem? (i := 137) (by decide +kernel))) rfl
theorem mw_2_138 : (.code yX7_seal cX7_seal 4 (some .int) : Cond) ∈ xtb := tb_in (tb2 (List.mem_of_getElem? (i := 138) rfl)) rfl
theorem mw_2_139 : (.methodLink "SealedStoresLaw" 34 yX7_bond : Cond) ∈ xtb := tb_in (tb2 (List.mem_of_getElem? (i := 139) (by decide +kernel))) rfl
theorem mw_2_140 : (.instanceMethod yX7_bond : Cond) ∈ xtb := tb_in (tb2 (List.mem_of_getElem? (i := 140) (by decide +kernel))) rfl
theorem mw_2_141 : (.selects "SealedStores" yX7_bond yX7_bond : Cond) ∈ xtb := tb_in (tb2 (List.mem_of_getElem? (i := 141) (by decide +kernel))) rfl
theorem mw_2_142 : (.code yX7_bond cX7_bond 4 (some .int) : Cond) ∈ xtb := tb_in (tb2 (List.mem_of_getElem? (i := 142) rfl)) rfl
theorem mw_2_143 : (.methodLink "SealedStores" 129 yX0_held : Cond) ∈ xtb := tb_in (tb2 (List.mem_of_getElem? (i := 143) (by decide +kernel))) rfl
theorem mw_2_144 : (.instanceMethod yX0_held : Cond) ∈ xtb := tb_in (tb2 (List.mem_of_getElem? (i := 144) (by decide +kernel))) rfl
theorem mw_2_145 : (.selects "SealedStores$Bonds" yX0_held yX0_held : Cond) ∈ xtb := tb_in (tb2 (List.mem_of_getElem? (i := 145) (by decide +kernel))) rfl
theorem mw_2_146 : (.code yX0_held cX0_held 2 (some .long) : Cond) ∈ xtb := tb_in (tb2 (List.mem_of_getElem? (i := 146) rfl)) rfl
theorem mw_2_147 : (.methodLink "SealedStoresLaw" 60 yX7_use : Cond) ∈ xtb := tb_in (tb2 (List.mem_of_getElem? (i := 147) (by decide +kernel))) rfl
theorem mw_2_148 : (.instanceMethod yX7_use : Cond) ∈ xtb := tb_in (tb2 (List.mem_of_getElem? (i := 148) (by decide +kernel))) rfl
theorem mw_2_149 : (.selects "SealedStores" yX7_use yX7_use : Cond) ∈ xtb := tb_in (tb2 (List.mem_of_getElem? (i := 149) (by decide +kernel))) rfl
theorem mw_2_150 : (.code yX7_use cX7_use 4 (some .int) : Cond) ∈ xtb := tb_in (tb2 (List.mem_of_getElem? (i := 150) rfl)) rfl
theorem mw_2_151 : (.methodLink "SealedStores" 139 yX6_useUnits : Cond) ∈ xtb := tb_in (tb2 (List.mem_of_getElem? (i := 151) (by decide +kernel))) rfl
theorem mw_2_152 : (.instanceMethod yX6_useUnits : Cond) ∈ xtb := tb_in (tb2 (List.mem_of_getElem? (i := 152) (by decide +kernel))) rfl
theorem mw_2_153 : (.selects "SealedStores$Ship" yX6_useUnits yX6_useUnits : Cond) ∈ xtb := tb_in (tb2 (List.mem_of_getElem? (i := 153) (by decide +kernel))) rfl
theorem mw_2_154 : (.code yX6_useUnits cX6_useUnits 5 (some .int) : Cond) ∈ xtb := tb_in (tb2 (List.mem_of_getElem? (i := 154) rfl)) rfl
theorem mw_2_155 : (.methodLink "SealedStores$Ship" 126 yX6_release : Cond) ∈ xtb := tb_in (tb2 (List.mem_of_getElem? (i := 155) (by decide +kernel))) rfl
theorem mw_2_157 : (.instanceMethod yX6_release : Cond) ∈ xtb := tb_in (tb2 (List.mem_of_getElem? (i := 157) (by decide +kernel))) rfl
theorem mw_2_158 : (.code yX6_release cX6_release 6 (some .long) : Cond) ∈ xtb := tb_in (tb2 (List.mem_of_getElem? (i := 158) rfl)) rfl
theorem mw_2_159 : (.methodLink "SealedStores$Ship" 166 yX0_amountOf : Cond) ∈ xtb := tb_in (tb2 (List.mem_of_getElem? (i := 159) (by decide +kernel))) rfl
theorem mw_2_160 : (.instanceMethod yX0_amountOf : Cond) ∈ xtb := tb_in (tb2 (List.mem_of_getElem? (i := 160) (by decide +kernel))) rfl
theorem mw_2_161 : (.selects "SealedStores$Bonds" yX0_amountOf yX0_amountOf : Cond) ∈ xtb := tb_in (tb2 (List.mem_of_getElem? (i := 161) (by decide +kernel))) rfl
theorem mw_2_162 : (.code yX0_amountOf cX0_amountOf 10 (some .long) : Cond) ∈ xtb := tb_in (tb2 (List.mem_of_getElem? (i := 162) rfl)) rfl
theorem mw_2_163 : (.methodLink "SealedStores$Bonds" 45 yX0_nextAfter : Cond) ∈ xtb := tb_in (tb2 (List.mem_of_getElem? (i := 163) (by decide +kernel))) rfl
theorem mw_2_164 : (.instanceMethod yX0_nextAfter : Cond) ∈ xtb := tb_in (tb2 (List.mem_of_getElem? (i := 164) (by decide +kernel))) rfl
theorem mw_2_165 : (.selects "SealedStores$Bonds" yX0_nextAfter yX0_nextAfter : Cond) ∈ xtb := tb_in (tb2 (List.mem_of_getElem? (i := 165) (by decide +kernel))) rfl
theorem mw_2_166 : (.code yX0_nextAfter cX0_nextAfter 10 (some .int) : Cond) ∈ xtb := tb_in (tb2 (List.mem_of_getElem? (i := 166) rfl)) rfl
theorem mw_2_167 : (.methodLink "SealedStores$Bonds" 49 Lib.Math.min.name : Cond) ∈ xtb := tb_in (tb2 (List.mem_of_getElem? (i := 167) (by decide +kernel))) rfl
theorem mw_2_168 : (.methodLink "SealedStores$Ship" 170 yX4_add : Cond) ∈ xtb := tb_in (tb2 (List.mem_of_getElem? (i := 168) (by decide +kernel))) rfl
theorem mw_2_169 : (.instanceMethod yX4_add : Cond) ∈ xtb := tb_in (tb2 (List.mem_of_getElem? (i := 169) (by decide +kernel))) rfl
theorem mw_2_170 : (.selects "SealedStores$Releases" yX4_add yX4_add : Cond) ∈ xtb := tb_in (tb2 (List.mem_of_getElem? (i := 170) (by decide +kernel))) rfl
theorem mw_2_171 : (.code yX4_add cX4_add 6 none : Cond) ∈ xtb := tb_in (tb2 (List.mem_of_getElem? (i := 171) rfl)) rfl
theorem mw_2_172 : (.methodLink "SealedStores$Releases" 29 yX4_place : Cond) ∈ xtb := tb_in (tb2 (List.mem_of_getElem? (i := 172) (by decide +kernel))) rfl
theorem mw_2_173 : (.instanceMethod yX4_place : Cond) ∈ xtb := tb_in (tb2 (List.mem_of_getElem? (i := 173) (by decide +kernel))) rfl
theorem mw_2_174 : (.selects "SealedStores$Releases" yX4_place yX4_place : Cond) ∈ xtb := tb_in (tb2 (List.mem_of_getElem? (i := 174) (by decide +kernel))) rfl
theorem mw_2_175 : (.code yX4_place cX4_place 3 (some .int) : Cond) ∈ xtb := tb_in (tb2 (List.mem_of_getElem? (i := 175) rfl)) rfl
theorem mw_2_176 : (.methodLink "SealedStoresLaw" 63 yX7_bring : Cond) ∈ xtb := tb_in (tb2 (List.mem_of_getElem? (i := 176) (by decide +kernel))) rfl
theorem mw_2_177 : (.instanceMethod yX7_bring : Cond) ∈ xtb := tb_in (tb2 (List.mem_of_getElem? (i := 177) (by decide +kernel))) rfl
theorem mw_2_178 : (.selects "SealedStores" yX7_bring yX7_bring : Cond) ∈ xtb := tb_in (tb2 (List.mem_of_getElem? (i := 178) (by decide +kernel))) rfl
theorem mw_2_179 : (.code yX7_bring cX7_bring 4 (some .int) : Cond) ∈ xtb := tb_in (tb2 (List.mem_of_getElem? (i := 179) rfl)) rfl
theorem mw_2_180 : (.methodLink "SealedStores" 142 yX6_returnUnits : Cond) ∈ xtb := tb_in (tb2 (List.mem_of_getElem? (i := 180) (by decide +kernel))) rfl
theorem mw_2_181 : (.instanceMethod yX6_returnUnits : Cond) ∈ xtb := tb_in (tb2 (List.mem_of_getElem? (i := 181) (by decide +kernel))) rfl
theorem mw_2_182 : (.selects "SealedStores$Ship" yX6_returnUnits yX6_returnUnits : Cond) ∈ xtb := tb_in (tb2 (List.mem_of_getElem? (i := 182) (by decide +kernel))) rfl
theorem mw_2_183 : (.code yX6_returnUnits cX6_returnUnits 5 (some .int) : Cond) ∈ xtb := tb_in (tb2 (List.mem_of_getElem? (i := 183) rfl)) rfl
theorem mw_2_184 : (.methodLink "SealedStoresLaw" 66 yX7_smash : Cond) ∈ xtb := tb_in (tb2 (List.mem_of_getElem? (i := 184) (by decide +kernel))) rfl
theorem mw_2_185 : (.instanceMethod yX7_smash : Cond) ∈ xtb := tb_in (tb2 (List.mem_of_getElem? (i := 185) (by decide +kernel))) rfl
theorem mw_2_186 : (.selects "SealedStores" yX7_smash yX7_smash : Cond) ∈ xtb := tb_in (tb2 (List.mem_of_getElem? (i := 186) (by decide +kernel))) rfl
theorem mw_2_187 : (.code yX7_smash cX7_smash 5 (some .int) : Cond) ∈ xtb := tb_in (tb2 (List.mem_of_getElem? (i := 187) rfl)) rfl
theorem mw_2_188 : (.methodLink "SealedStores" 145 yX6_breakUnits : Cond) ∈ xtb := tb_in (tb2 (List.mem_of_getElem? (i := 188) (by decide +kernel))) rfl
theorem mw_2_189 : (.instanceMethod yX6_breakUnits : Cond) ∈ xtb := tb_in (tb2 (List.mem_of_getElem? (i := 189) (by decide +kernel))) rfl
theorem mw_2_190 : (.selects "SealedStores$Ship" yX6_breakUnits yX6_breakUnits : Cond) ∈ xtb := tb_in (tb2 (List.mem_of_getElem? (i := 190) (by decide +kernel))) rfl
theorem mw_2_191 : (.code yX6_breakUnits cX6_breakUnits 6 (some .int) : Cond) ∈ xtb := tb_in (tb2 (List.mem_of_getElem? (i := 191) rfl)) rfl
theorem mw_2_192 : (.methodLink "SealedStoresLaw" 70 yX7_tear : Cond) ∈ xtb := tb_in (tb2 (List.mem_of_getElem? (i := 192) (by decide +kernel))) rfl
theorem mw_2_193 : (.instanceMethod yX7_tear : Cond) ∈ xtb := tb_in (tb2 (List.mem_of_getElem? (i := 193) (by decide +kernel))) rfl
theorem mw_2_194 : (.selects "SealedStores" yX7_tear yX7_tear : Cond) ∈ xtb := tb_in (tb2 (List.mem_of_getElem? (i := 194) (by decide +kernel))) rfl
theorem mw_2_195 : (.code yX7_tear cX7_tear 2 (some .int) : Cond) ∈ xtb := tb_in (tb2 (List.mem_of_getElem? (i := 195) rfl)) rfl
theorem mw_2_196 : (.methodLink "SealedStores" 149 yX6_tearSeal : Cond) ∈ xtb := tb_in (tb2 (List.mem_of_getElem? (i := 196) (by decide +kernel))) rfl
theorem mw_2_197 : (.instanceMethod yX6_tearSeal : Cond) ∈ xtb := tb_in (tb2 (List.mem_of_getElem? (i := 197) (by decide +kernel))) rfl
theorem mw_2_198 : (.selects "SealedStores$Ship" yX6_tearSeal yX6_tearSeal : Cond) ∈ xtb := tb_in (tb2 (List.mem_of_getElem? (i := 198) (by decide +kernel))) rfl
theorem mw_2_199 : (.code yX6_tearSeal cX6_tearSeal 2 (some .int) : Cond) ∈ xtb := tb_in (tb2 (List.mem_of_getElem? (i := 199) rfl)) rfl
theorem mw_2_200 : (.methodLink "SealedStoresLaw" 73 yX7_inspect : Cond) ∈ xtb := tb_in (tb2 (List.mem_of_getElem? (i := 200) (by decide +kernel))) rfl
theorem mw_2_201 : (.instanceMethod yX7_inspect : Cond) ∈ xtb := tb_in (tb2 (List.mem_of_getElem? (i := 201) (by decide +kernel))) rfl
theorem mw_2_202 : (.selects "SealedStores" yX7_inspect yX7_inspect : Cond) ∈ xtb := tb_in (tb2 (List.mem_of_getElem? (i := 202) (by decide +kernel))) rfl
theorem mw_2_203 : (.code yX7_inspect cX7_inspect 2 (some .int) : Cond) ∈ xtb := tb_in (tb2 (List.mem_of_getElem? (i := 203) rfl)) rfl
theorem mw_2_204 : (.methodLink "SealedStores" 152 yX6_countLocker : Cond) ∈ xtb := tb_in (tb2 (List.mem_of_getElem? (i := 204) (by decide +kernel))) rfl
theorem mw_2_205 : (.instanceMethod yX6_countLocker : Cond) ∈ xtb := tb_in (tb2 (List.mem_of_getElem? (i := 205) (by decide +kernel))) rfl
theorem mw_2_206 : (.selects "SealedStores$Ship" yX6_countLocker yX6_countLocker : Cond) ∈ xtb := tb_in (tb2 (List.mem_of_getElem? (i := 206) (by decide +kernel))) rfl
theorem mw_2_207 : (.code yX6_countLocker cX6_countLocker 7 (some .int) : Cond) ∈ xtb := tb_in (tb2 (List.mem_of_getElem? (i := 207) rfl)) rfl
theorem mw_2_208 : (.methodLink "SealedStores$Ship" 140 yX6_taxesOf : Cond) ∈ xtb := tb_in (tb2 (List.mem_of_getElem? (i := 208) (by decide +kernel))) rfl
theorem mw_2_210 : (.instanceMethod yX6_taxesOf : Cond) ∈ xtb := tb_in (tb2 (List.mem_of_getElem? (i := 210) (by decide +kernel))) rfl
theorem mw_2_211 : (.code yX6_taxesOf cX6_taxesOf 5 (some .long) : Cond) ∈ xtb := tb_in (tb2 (List.mem_of_getElem? (i := 211) rfl)) rfl
theorem mw_2_212 : (.methodLink "SealedStoresLaw" 76 yX7_cross : Cond) ∈ xtb := tb_in (tb2 (List.mem_of_getElem? (i := 212) (by decide +kernel))) rfl
theorem mw_2_213 : (.instanceMethod yX7_cross : Cond) ∈ xtb := tb_in (tb2 (List.mem_of_getElem? (i := 213) (by decide +kernel))) rfl
theorem mw_2_214 : (.selects "SealedStores" yX7_cross yX7_cross : Cond) ∈ xtb := tb_in (tb2 (List.mem_of_getElem? (i := 214) (by decide +kernel))) rfl
theorem mw_2_215 : (.code yX7_cross cX7_cross 2 (some .int) : Cond) ∈ xtb := tb_in (tb2 (List.mem_of_getElem? (i := 215) rfl)) rfl
theorem mw_2_216 : (.methodLink "SealedStores" 155 yX6_crossTo : Cond) ∈ xtb := tb_in (tb2 (List.mem_of_getElem? (i := 216) (by decide +kernel))) rfl
theorem mw_2_217 : (.instanceMethod yX6_crossTo : Cond) ∈ xtb := tb_in (tb2 (List.mem_of_getElem? (i := 217) (by decide +kernel))) rfl
theorem mw_2_218 : (.selects "SealedStores$Ship" yX6_crossTo yX6_crossTo : Cond) ∈ xtb := tb_in (tb2 (List.mem_of_getElem? (i := 218) (by decide +kernel))) rfl
theorem mw_2_219 : (.code yX6_crossTo cX6_crossTo 3 (some .int) : Cond) ∈ xtb := tb_in (tb2 (List.mem_of_getElem? (i := 219) rfl)) rfl
theorem mw_2_220 : (.methodLink "SealedStores$Ship" 147 yX2_inState : Cond) ∈ xtb := tb_in (tb2 (List.mem_of_getElem? (i := 220) (by decide +kernel))) rfl
theorem mw_2_221 : (.instanceMethod yX2_inState : Cond) ∈ xtb := tb_in (tb2 (List.mem_of_getElem? (i := 221) (by decide +kernel))) rfl
theorem mw_2_222 : (.selects "SealedStores$Lockers" yX2_inState yX2_inState : Cond) ∈ xtb := tb_in (tb2 (List.mem_of_getElem? (i := 222) (by decide +kernel))) rfl
theorem mw_2_223 : (.code yX2_inState cX2_inState 4 (some .int) : Cond) ∈ xtb := tb_in (tb2 (List.mem_of_getElem? (i := 223) rfl)) rfl
theorem mw_2_224 : (.methodLink "SealedStores$Ship" 151 yX6_sealOpenLockers : Cond) ∈ xtb := tb_in (tb2 (List.mem_of_getElem? (i := 224) (by decide +kernel))) rfl
theorem mw_2_226 : (.instanceMethod yX6_sealOpenLockers : Cond) ∈ xtb := tb_in (tb2 (List.mem_of_getElem? (i := 226) (by decide +kernel))) rfl
theorem mw_2_227 : (.code yX6_sealOpenLockers cX6_sealOpenLockers 3 (some .int) : Cond) ∈ xtb := tb_in (tb2 (List.mem_of_getElem? (i := 227) rfl)) rfl
theorem mw_2_228 : (.methodLink "SealedStores$Ship" 154 yX6_openLockers : Cond) ∈ xtb := tb_in (tb2 (List.mem_of_getElem? (i := 228) (by decide +kernel))) rfl
theorem mw_2_230 : (.instanceMethod yX6_openLockers : Cond) ∈ xtb := tb_in (tb2 (List.mem_of_getElem? (i := 230) (by decide +kernel))) rfl
theorem mw_2_231 : (.code yX6_openLockers cX6_openLockers 3 (some .int) : Cond) ∈ xtb := tb_in (tb2 (List.mem_of_getElem? (i := 231) rfl)) rfl
theorem mw_2_232 : (.methodLink "SealedStoresLaw" 79 yX7_pass : Cond) ∈ xtb := tb_in (tb2 (List.mem_of_getElem? (i := 232) (by decide +kernel))) rfl
theorem mw_2_233 : (.instanceMethod yX7_pass : Cond) ∈ xtb := tb_in (tb2 (List.mem_of_getElem? (i := 233) (by decide +kernel))) rfl
theorem mw_2_234 : (.selects "SealedStores" yX7_pass yX7_pass : Cond) ∈ xtb := tb_in (tb2 (List.mem_of_getElem? (i := 234) (by decide +kernel))) rfl
theorem mw_2_235 : (.code yX7_pass cX7_pass 2 (some .int) : Cond) ∈ xtb := tb_in (tb2 (List.mem_of_getElem? (i := 235) rfl)) rfl
theorem mw_2_236 : (.methodLink "SealedStores" 158 yX6_passDays : Cond) ∈ xtb := tb_in (tb2 (List.mem_of_getElem? (i := 236) (by decide +kernel))) rfl
theorem mw_2_237 : (.instanceMethod yX6_passDays : Cond) ∈ xtb := tb_in (tb2 (List.mem_of_getElem? (i := 237) (by decide +kernel))) rfl
theorem mw_2_238 : (.selects "SealedStores$Ship" yX6_passDays yX6_passDays : Cond) ∈ xtb := tb_in (tb2 (List.mem_of_getElem? (i := 238) (by decide +kernel))) rfl
theorem mw_2_239 : (.code yX6_passDays cX6_passDays 2 (some .int) : Cond) ∈ xtb := tb_in (tb2 (List.mem_of_getElem? (i := 239) rfl)) rfl
theorem mw_3_0 : (.methodLink "SealedStores$Ship" 157 yX6_runOutBonds : Cond) ∈ xtb := tb_in (tb3 (List.mem_of_getElem? (i := 0) (by decide +kernel))) rfl
theorem mw_3_2 : (.instanceMethod yX6_runOutBonds : Cond) ∈ xtb := tb_in (tb3 (List.mem_of_getElem? (i := 2) (by decide +kernel))) rfl
theorem mw_3_3 : (.code yX6_runOutBonds cX6_runOutBonds 9 (some .long) : Cond) ∈ xtb := tb_in (tb3 (List.mem_of_getElem? (i := 3) rfl)) rfl
theorem mw_3_4 : (.methodLink "SealedStores$Ship" 173 yX0_nextAfter : Cond) ∈ xtb := tb_in (tb3 (List.mem_of_getElem? (i := 4) (by decide +kernel))) rfl
theorem mw_3_5 : (.methodLink "SealedStores$Ship" 184 yX0_held : Cond) ∈ xtb := tb_in (tb3 (List.mem_of_getElem? (i := 5) (by decide +kernel))) rfl
theorem mw_3_6 : (.methodLink "SealedStores$Ship" 187 yX2_takeFromAny : Cond) ∈ xtb := tb_in (tb3 (List.mem_of_getElem? (i := 6) (by decide +kernel))) rfl
theorem mw_3_7 : (.instanceMethod yX2_takeFromAny : Cond) ∈ xtb := tb_in (tb3 (List.mem_of_getElem? (i := 7) (by decide +kernel))) rfl
theorem mw_3_8 : (.selects "SealedStores$Lockers" yX2_takeFromAny yX2_takeFromAny : Cond) ∈ xtb := tb_in (tb3 (List.mem_of_getElem? (i := 8) (by decide +kernel))) rfl
theorem mw_3_9 : (.code yX2_takeFromAny cX2_takeFromAny 4 none : Cond) ∈ xtb := tb_in (tb3 (List.mem_of_getElem? (i := 9) rfl)) rfl
theorem mw_3_10 : (.methodLink "SealedStores$Lockers" 38 yX2_takeLowestFirst : Cond) ∈ xtb := tb_in (tb3 (List.mem_of_getElem? (i := 10) (by decide +kernel))) rfl
theorem mw_3_12 : (.instanceMethod yX2_takeLowestFirst : Cond) ∈ xtb := tb_in (tb3 (List.mem_of_getElem? (i := 12) (by decide +kernel))) rfl
theorem mw_3_13 : (.code yX2_takeLowestFirst cX2_takeLowestFirst 8 (some .int) : Cond) ∈ xtb := tb_in (tb3 (List.mem_of_getElem? (i := 13) rfl)) rfl
theorem mw_3_14 : (.methodLink "SealedStores$Lockers" 42 Lib.Math.min.name : Cond) ∈ xtb := tb_in (tb3 (List.mem_of_getElem? (i := 14) (by decide +kernel))) rfl
theorem mw_3_15 : (.methodLink "SealedStoresLaw" 82 yX7_set : Cond) ∈ xtb := tb_in (tb3 (List.mem_of_getElem? (i := 15) (by decide +kernel))) rfl
theorem mw_3_16 : (.instanceMethod yX7_set : Cond) ∈ xtb := tb_in (tb3 (List.mem_of_getElem? (i := 16) (by decide +kernel))) rfl
theorem mw_3_17 : (.selects "SealedStores" yX7_set yX7_set : Cond) ∈ xtb := tb_in (tb3 (List.mem_of_getElem? (i := 17) (by decide +kernel))) rfl
theorem mw_3_18 : (.code yX7_set cX7_set 3 (some .int) : Cond) ∈ xtb := tb_in (tb3 (List.mem_of_getElem? (i := 18) rfl)) rfl
theorem mw_3_19 : (.methodLink "SealedStores" 161 yX6_changeSetting : Cond) ∈ xtb := tb_in (tb3 (List.mem_of_getElem? (i := 19) (by decide +kernel))) rfl
theorem mw_3_20 : (.instanceMethod yX6_changeSetting : Cond) ∈ xtb := tb_in (tb3 (List.mem_of_getElem? (i := 20) (by decide +kernel))) rfl
theorem mw_3_21 : (.selects "SealedStores$Ship" yX6_changeSetting yX6_changeSetting : Cond) ∈ xtb := tb_in (tb3 (List.mem_of_getElem? (i := 21) (by decide +kernel))) rfl
theorem mw_3_22 : (.code yX6_changeSetting cX6_changeSetting 6 (some .int) : Cond) ∈ xtb := tb_in (tb3 (List.mem_of_getElem? (i := 22) rfl)) rfl
theorem mw_3_23 : (.constant "SealedStores$Ship" 161 (100000) : Cond) ∈ xtb := tb_in (tb3 (List.mem_of_getElem? (i := 23) (by decide +kernel))) rfl
theorem mw_3_24 : (.methodLink "SealedStoresLaw" 28 yX7_account : Cond) ∈ xtb := tb_in (tb3 (List.mem_of_getElem? (i := 24) (by decide +kernel))) rfl
theorem mw_3_25 : (.instanceMethod yX7_account : Cond) ∈ xtb := tb_in (tb3 (List.mem_of_getElem? (i := 25) (by decide +kernel))) rfl
theorem mw_3_26 : (.selects "SealedStores" yX7_account yX7_account : Cond) ∈ xtb := tb_in (tb3 (List.mem_of_getElem? (i := 26) (by decide +kernel))) rfl
theorem mw_3_27 : (.code yX7_account cX7_account 4 (some .int) : Cond) ∈ xtb := tb_in (tb3 (List.mem_of_getElem? (i := 27) rfl)) rfl
theorem mw_3_28 : (.methodLink "SealedStores" 164 yX0_loaded : Cond) ∈ xtb := tb_in (tb3 (List.mem_of_getElem? (i := 28) (by decide +kernel))) rfl
theorem mw_3_29 : (.instanceMethod yX0_loaded : Cond) ∈ xtb := tb_in (tb3 (List.mem_of_getElem? (i := 29) (by decide +kernel))) rfl
theorem mw_3_30 : (.selects "SealedStores$Bonds" yX0_loaded yX0_loaded : Cond) ∈ xtb := tb_in (tb3 (List.mem_of_getElem? (i := 30) (by decide +kernel))) rfl
theorem mw_3_31 : (.code yX0_loaded cX0_loaded 4 (some .int) : Cond) ∈ xtb := tb_in (tb3 (List.mem_of_getElem? (i := 31) rfl)) rfl
theorem mw_3_32 : (.methodLink "SealedStores" 167 yX2_sumOfGood : Cond) ∈ xtb := tb_in (tb3 (List.mem_of_getElem? (i := 32) (by decide +kernel))) rfl
theorem mw_3_33 : (.instanceMethod yX2_sumOfGood : Cond) ∈ xtb := tb_in (tb3 (List.mem_of_getElem? (i := 33) (by decide +kernel))) rfl
theorem mw_3_34 : (.selects "SealedStores$Lockers" yX2_sumOfGood yX2_sumOfGood : Cond) ∈ xtb := tb_in (tb3 (List.mem_of_getElem? (i := 34) (by decide +kernel))) rfl
theorem mw_3_35 : (.code yX2_sumOfGood cX2_sumOfGood 5 (some .int) : Cond) ∈ xtb := tb_in (tb3 (List.mem_of_getElem? (i := 35) rfl)) rfl
theorem mw_3_36 : (.methodLink "SealedStores" 177 yX4_place : Cond) ∈ xtb := tb_in (tb3 (List.mem_of_getElem? (i := 36) (by decide +kernel))) rfl
theorem mw_3_37 : (.methodLink "SealedStoresLaw" 40 yX7_cents : Cond) ∈ xtb := tb_in (tb3 (List.mem_of_getElem? (i := 37) (by decide +kernel))) rfl
theorem mw_3_38 : (.instanceMethod yX7_cents : Cond) ∈ xtb := tb_in (tb3 (List.mem_of_getElem? (i := 38) (by decide +kernel))) rfl
theorem mw_3_39 : (.selects "SealedStores" yX7_cents yX7_cents : Cond) ∈ xtb := tb_in (tb3 (List.mem_of_getElem? (i := 39) (by decide +kernel))) rfl
theorem mw_3_40 : (.code yX7_cents cX7_cents 2 (some .int) : Cond) ∈ xtb := tb_in (tb3 (List.mem_of_getElem? (i := 40) rfl)) rfl
theorem mw_3_41 : (.methodLink "SealedStores" 182 yX0_heldByAll : Cond) ∈ xtb := tb_in (tb3 (List.mem_of_getElem? (i := 41) (by decide +kernel))) rfl
theorem mw_3_42 : (.instanceMethod yX0_heldByAll : Cond) ∈ xtb := tb_in (tb3 (List.mem_of_getElem? (i := 42) (by decide +kernel))) rfl
theorem mw_3_43 : (.selects "SealedStores$Bonds" yX0_heldByAll yX0_heldByAll : Cond) ∈ xtb := tb_in (tb3 (List.mem_of_getElem? (i := 43) (by decide +kernel))) rfl
theorem mw_3_44 : (.code yX0_heldByAll cX0_heldByAll 4 (some .long) : Cond) ∈ xtb := tb_in (tb3 (List.mem_of_getElem? (i := 44) rfl)) rfl
theorem mw_3_45 : (.methodLink "SealedStores$Bonds" 41 yX0_held : Cond) ∈ xtb := tb_in (tb3 (List.mem_of_getElem? (i := 45) (by decide +kernel))) rfl
theorem mw_3_46 : (.methodLink "SealedStores" 189 yX7_centsOrLimit : Cond) ∈ xtb := tb_in (tb3 (List.mem_of_getElem? (i := 46) (by decide +kernel))) rfl
theorem mw_3_47 : (.static yX7_centsOrLimit : Cond) ∈ xtb := tb_in (tb3 (List.mem_of_getElem? (i := 47) (by decide +kernel))) rfl
theorem mw_3_48 : (.code yX7_centsOrLimit cX7_centsOrLimit 2 (some .int) : Cond) ∈ xtb := tb_in (tb3 (List.mem_of_getElem? (i := 48) rfl)) rfl
theorem mw_3_49 : (.constantLong "SealedStores" 259 (2147483647) : Cond) ∈ xtb := tb_in (tb3 (List.mem_of_getElem? (i := 49) (by decide +kernel))) rfl
theorem mw_3_50 : (.methodLink "SealedStoresLaw" 13 yX7_count : Cond) ∈ xtb := tb_in (tb3 (List.mem_of_getElem? (i := 50) (by decide +kernel))) rfl
theorem mw_3_51 : (.instanceMethod yX7_count : Cond) ∈ xtb := tb_in (tb3 (List.mem_of_getElem? (i := 51) (by decide +kernel))) rfl
theorem mw_3_52 : (.selects "SealedStores" yX7_count yX7_count : Cond) ∈ xtb := tb_in (tb3 (List.mem_of_getElem? (i := 52) (by decide +kernel))) rfl
theorem mw_3_53 : (.code yX7_count cX7_count 2 (some .int) : Cond) ∈ xtb := tb_in (tb3 (List.mem_of_getElem? (i := 53) rfl)) rfl
theorem mw_3_54 : (.methodLink "SealedStores" 201 yX0_withUnits : Cond) ∈ xtb := tb_in (tb3 (List.mem_of_getElem? (i := 54) (by decide +kernel))) rfl
theorem mw_3_55 : (.instanceMethod yX0_withUnits : Cond) ∈ xtb := tb_in (tb3 (List.mem_of_getElem? (i := 55) (by decide +kernel))) rfl
theorem mw_3_56 : (.selects "SealedStores$Bonds" yX0_withUnits yX0_withUnits : Cond) ∈ xtb := tb_in (tb3 (List.mem_of_getElem? (i := 56) (by decide +kernel))) rfl
theorem mw_3_57 : (.code yX0_withUnits cX0_withUnits 3 (some .int) : Cond) ∈ xtb := tb_in (tb3 (List.mem_of_getElem? (i := 57) rfl)) rfl
theorem mw_3_58 : (.methodLink "SealedStores" 209 yX2_inState : Cond) ∈ xtb := tb_in (tb3 (List.mem_of_getElem? (i := 58) (by decide +kernel))) rfl
theorem mw_3_59 : (.methodLink "SealedStoresLaw" 104 yX7_undo : Cond) ∈ xtb := tb_in (tb3 (List.mem_of_getElem? (i := 59) (by decide +kernel))) rfl
theorem mw_3_60 : (.instanceMethod yX7_undo : Cond) ∈ xtb := tb_in (tb3 (List.mem_of_getElem? (i := 60) (by decide +kernel))) rfl
theorem mw_3_61 : (.selects "SealedStores" yX7_undo yX7_undo : Cond) ∈ xtb := tb_in (tb3 (List.mem_of_getElem? (i := 61) (by decide +kernel))) rfl
theorem mw_3_62 : (.code yX7_undo cX7_undo 1 (some .int) : Cond) ∈ xtb := tb_in (tb3 (List.mem_of_getElem? (i := 62) rfl)) rfl
theorem mw_3_63 : (.methodLink "SealedStores" 219 yX1_restore : Cond) ∈ xtb := tb_in (tb3 (List.mem_of_getElem? (i := 63) (by decide +kernel))) rfl
theorem mw_3_64 : (.instanceMethod yX1_restore : Cond) ∈ xtb := tb_in (tb3 (List.mem_of_getElem? (i := 64) (by decide +kernel))) rfl
theorem mw_3_65 : (.selects "SealedStores$History" yX1_restore yX1_restore : Cond) ∈ xtb := tb_in (tb3 (List.mem_of_getElem? (i := 65) (by decide +kernel))) rfl
theorem mw_3_66 : (.code yX1_restore cX1_restore 2 (some .int) : Cond) ∈ xtb := tb_in (tb3 (List.mem_of_getElem? (i := 66) rfl)) rfl
theorem mw_3_67 : (.methodLink "SealedStoresLaw" 86 yX7_worth : Cond) ∈ xtb := tb_in (tb3 (List.mem_of_getElem? (i := 67) (by decide +kernel))) rfl
theorem mw_3_68 : (.instanceMethod yX7_worth : Cond) ∈ xtb := tb_in (tb3 (List.mem_of_getElem? (i := 68) (by decide +kernel))) rfl
theorem mw_3_69 : (.selects "SealedStores" yX7_worth yX7_worth : Cond) ∈ xtb := tb_in (tb3 (List.mem_of_getElem? (i := 69) (by decide +kernel))) rfl
theorem mw_3_70 : (.code yX7_worth cX7_worth 3 (some .int) : Cond) ∈ xtb := tb_in (tb3 (List.mem_of_getElem? (i := 70) rfl)) rfl
theorem mw_3_71 : (.constant "SealedStores" 223 (99999) : Cond) ∈ xtb := tb_in (tb3 (List.mem_of_getElem? (i := 71) (by decide +kernel))) rfl
theorem mw_3_72 : (.methodLink "SealedStores" 224 yX0_leftOf : Cond) ∈ xtb := tb_in (tb3 (List.mem_of_getElem? (i := 72) (by decide +kernel))) rfl
theorem mw_3_73 : (.instanceMethod yX0_leftOf : Cond) ∈ xtb := tb_in (tb3 (List.mem_of_getElem? (i := 73) (by decide +kernel))) rfl
theorem mw_3_74 : (.selects "SealedStores$Bonds" yX0_leftOf yX0_leftOf : Cond) ∈ xtb := tb_in (tb3 (List.mem_of_getElem? (i := 74) (by decide +kernel))) rfl
theorem mw_3_75 : (.code yX0_leftOf cX0_leftOf 4 (some .int) : Cond) ∈ xtb := tb_in (tb3 (List.mem_of_getElem? (i := 75) rfl)) rfl
theorem mw_3_76 : (.methodLink "SealedStores" 227 yX0_amountOf : Cond) ∈ xtb := tb_in (tb3 (List.mem_of_getElem? (i := 76) (by decide +kernel))) rfl
theorem mw_3_77 : (.methodLink "SealedStoresLaw" 107 yX7_toPay : Cond) ∈ xtb := tb_in (tb3 (List.mem_of_getElem? (i := 77) (by decide +kernel))) rfl
theorem mw_3_78 : (.instanceMethod yX7_toPay : Cond) ∈ xtb := tb_in (tb3 (List.mem_of_getElem? (i := 78) (by decide +kernel))) rfl
theorem mw_3_79 : (.selects "SealedStores" yX7_toPay yX7_toPay : Cond) ∈ xtb := tb_in (tb3 (List.mem_of_getElem? (i := 79) (by decide +kernel))) rfl
theorem mw_3_80 : (.code yX7_toPay cX7_toPay 1 (some .int) : Cond) ∈ xtb := tb_in (tb3 (List.mem_of_getElem? (i := 80) rfl)) rfl
theorem mw_3_81 : (.methodLink "SealedStores" 231 yX6_toPayForAll : Cond) ∈ xtb := tb_in (tb3 (List.mem_of_getElem? (i := 81) (by decide +kernel))) rfl
theorem mw_3_82 : (.instanceMethod yX6_toPayForAll : Cond) ∈ xtb := tb_in (tb3 (List.mem_of_getElem? (i := 82) (by decide +kernel))) rfl
theorem mw_3_83 : (.selects "SealedStores$Ship" yX6_toPayForAll yX6_toPayForAll : Cond) ∈ xtb := tb_in (tb3 (List.mem_of_getElem? (i := 83) (by decide +kernel))) rfl
theorem mw_3_84 : (.code yX6_toPayForAll cX6_toPayForAll 4 (some .long) : Cond) ∈ xtb := tb_in (tb3 (List.mem_of_getElem? (i := 84) rfl)) rfl
theorem mw_3_85 : (.methodLink "SealedStores$Ship" 162 yX2_sumOfGood : Cond) ∈ xtb := tb_in (tb3 (List.mem_of_getElem? (i := 85) (by decide +kernel))) rfl
theorem mw_3_86 : (.methodLink "SealedStoresLaw" 100 yX7_runsOut : Cond) ∈ xtb := tb_in (tb3 (List.mem_of_getElem? (i := 86) (by decide +kernel))) rfl
theorem mw_3_87 : (.instanceMethod yX7_runsOut : Cond) ∈ xtb := tb_in (tb3 (List.mem_of_getElem? (i := 87) (by decide +kernel))) rfl
theorem mw_3_88 : (.selects "SealedStores" yX7_runsOut yX7_runsOut : Cond) ∈ xtb := tb_in (tb3 (List.mem_of_getElem? (i := 88) (by decide +kernel))) rfl
theorem mw_3_89 : (.code yX7_runsOut cX7_runsOut 2 (some .int) : Cond) ∈ xtb := tb_in (tb3 (List.mem_of_getElem? (i := 89) rfl)) rfl
theorem mw_3_90 : (.methodLink "SealedStores" 136 yX0_nextAfter : Cond) ∈ xtb := tb_in (tb3 (List.mem_of_getElem? (i := 90) (by decide +kernel))) rfl
theorem mw_3_91 : (.methodLink "SealedStoresLaw" 92 yX7_fault : Cond) ∈ xtb := tb_in (tb3 (List.mem_of_getElem? (i := 91) (by decide +kernel))) rfl
theorem mw_3_92 : (.instanceMethod yX7_fault : Cond) ∈ xtb := tb_in (tb3 (List.mem_of_getElem? (i := 92) (by decide +kernel))) rfl
theorem mw_3_93 : (.selects "SealedStores" yX7_fault yX7_fault : Cond) ∈ xtb := tb_in (tb3 (List.mem_of_getElem? (i := 93) (by decide +kernel))) rfl
theorem mw_3_94 : (.code yX7_fault cX7_fault 2 (some .int) : Cond) ∈ xtb := tb_in (tb3 (List.mem_of_getElem? (i := 94) rfl)) rfl
theorem mw_3_95 : (.methodLink "SealedStores" 240 yX3_tryOn : Cond) ∈ xtb := tb_in (tb3 (List.mem_of_getElem? (i := 95) (by decide +kernel))) rfl
theorem mw_3_96 : (.instanceMethod yX3_tryOn : Cond) ∈ xtb := tb_in (tb3 (List.mem_of_getElem? (i := 96) (by decide +kernel))) rfl
theorem mw_3_97 : (.selects "SealedStores$OrderLog" yX3_tryOn yX3_tryOn : Cond) ∈ xtb := tb_in (tb3 (List.mem_of_getElem? (i := 97) (by decide +kernel))) rfl
theorem mw_3_98 : (.code yX3_tryOn cX3_tryOn 6 none : Cond) ∈ xtb := tb_in (tb3 (List.mem_of_getElem? (i := 98) rfl)) rfl
theorem mw_3_99 : (.methodLink "SealedStores$OrderLog" 23 yX6_become : Cond) ∈ xtb := tb_in (tb3 (List.mem_of_getElem? (i := 99) (by decide +kernel))) rfl
theorem mw_3_100 : (.methodLink "SealedStores$OrderLog" 38 yX3_readOrder : Cond) ∈ xtb := tb_in (tb3 (List.mem_of_getElem? (i := 100) (by decide +kernel))) rfl
theorem mw_3_102 : (.instanceMethod yX3_readOrder : Cond) ∈ xtb := tb_in (tb3 (List.mem_of_getElem? (i := 102) (by decide +kernel))) rfl
theorem mw_3_103 : (.code yX3_readOrder cX3_readOrder 3 (some .boolean) : Cond) ∈ xtb := tb_in (tb3 (List.mem_of_getElem? (i := 103) rfl)) rfl
theorem mw_3_104 : (.methodLink "SealedStores$OrderLog" 60 yX3_numbersOf : Cond) ∈ xtb := tb_in (tb3 (List.mem_of_getElem? (i := 104) (by decide +kernel))) rfl
theorem mw_3_105 : (.static yX3_numbersOf : Cond) ∈ xtb := tb_in (tb3 (List.mem_of_getElem? (i := 105) (by decide +kernel))) rfl
theorem mw_3_106 : (.code yX3_numbersOf cX3_numbersOf 1 (some .int) : Cond) ∈ xtb := tb_in (tb3 (List.mem_of_getElem? (i := 106) rfl)) rfl
theorem mw_3_107 : (.methodLink "SealedStores$OrderLog" 64 yX3_readSign : Cond) ∈ xtb := tb_in (tb3 (List.mem_of_getElem? (i := 107) (by decide +kernel))) rfl
theorem mw_3_109 : (.instanceMethod yX3_readSign : Cond) ∈ xtb := tb_in (tb3 (List.mem_of_getElem? (i := 109) (by decide +kernel))) rfl
theorem mw_3_110 : (.code yX3_readSign cX3_readSign 2 (some .boolean) : Cond) ∈ xtb := tb_in (tb3 (List.mem_of_getElem? (i := 110) rfl)) rfl
theorem mw_3_111 : (.methodLink "SealedStores$OrderLog" 68 yX3_readNumber : Cond) ∈ xtb := tb_in (tb3 (List.mem_of_getElem? (i := 111) (by decide +kernel))) rfl
theorem mw_3_113 : (.instanceMethod yX3_readNumber : Cond) ∈ xtb := tb_in (tb3 (List.mem_of_getElem? (i := 113) (by decide +kernel))) rfl
theorem mw_3_114 : (.code yX3_readNumber cX3_readNumber 4 (some .boolean) : Cond) ∈ xtb := tb_in (tb3 (List.mem_of_getElem? (i := 114) rfl)) rfl
theorem mw_3_115 : (.methodLink "SealedStores$OrderLog" 42 yX3_noteFault : Cond) ∈ xtb := tb_in (tb3 (List.mem_of_getElem? (i := 115) (by decide +kernel))) rfl
theorem mw_3_117 : (.instanceMethod yX3_noteFault : Cond) ∈ xtb := tb_in (tb3 (List.mem_of_getElem? (i := 117) (by decide +kernel))) rfl
theorem mw_3_118 : (.code yX3_noteFault cX3_noteFault 4 none : Cond) ∈ xtb := tb_in (tb3 (List.mem_of_getElem? (i := 118) rfl)) rfl
theorem mw_3_119 : (.methodLink "SealedStores$OrderLog" 46 yX3_doOrder : Cond) ∈ xtb := tb_in (tb3 (List.mem_of_getElem? (i := 119) (by decide +kernel))) rfl
theorem mw_3_121 : (.instanceMethod yX3_doOrder : Cond) ∈ xtb := tb_in (tb3 (List.mem_of_getElem? (i := 121) (by decide +kernel))) rfl
theorem mw_3_122 : (.code yX3_doOrder cX3_doOrder 2 (some .int) : Cond) ∈ xtb := tb_in (tb3 (List.mem_of_getElem? (i := 122) rfl)) rfl
theorem mw_3_123 : (.methodLink "SealedStores$OrderLog" 72 yX6_crossTo : Cond) ∈ xtb := tb_in (tb3 (List.mem_of_getElem? (i := 123) (by decide +kernel))) rfl
theorem mw_3_124 : (.methodLink "SealedStores$OrderLog" 76 yX6_useUnits : Cond) ∈ xtb := tb_in (tb3 (List.mem_of_getElem? (i := 124) (by decide +kernel))) rfl
theorem mw_3_125 : (.methodLink "SealedStores$OrderLog" 80 yX6_returnUnits : Cond) ∈ xtb := tb_in (tb3 (List.mem_of_getElem? (i := 125) (by decide +kernel))) rfl
theorem mw_3_126 : (.methodLink "SealedStores$OrderLog" 83 yX6_breakUnits : Cond) ∈ xtb := tb_in (tb3 (List.mem_of_getElem? (i := 126) (by decide +kernel))) rfl
theorem mw_3_127 : (.methodLink "SealedStores$OrderLog" 87 yX6_tearSeal : Cond) ∈ xtb := tb_in (tb3 (List.mem_of_getElem? (i := 127) (by decide +kernel))) rfl
theorem mw_3_128 : (.methodLink "SealedStores$OrderLog" 90 yX6_countLocker : Cond) ∈ xtb := tb_in (tb3 (List.mem_of_getElem? (i := 128) (by decide +kernel))) rfl
theorem mw_3_129 : (.methodLink "SealedStores$OrderLog" 93 yX6_passDays : Cond) ∈ xtb := tb_in (tb3 (List.mem_of_getElem? (i := 129) (by decide +kernel))) rfl
theorem mw_3_130 : (.methodLink "SealedStoresLaw" 115 yL_cell : Cond) ∈ xtb := tb_in (tb3 (List.mem_of_getElem? (i := 130) (by decide +kernel))) rfl
theorem mw_3_131 : (.static yL_cell : Cond) ∈ xtb := tb_in (tb3 (List.mem_of_getElem? (i := 131) (by decide +kernel))) rfl
theorem mw_3_132 : (.code yL_cell cL_cell 2 (some .int) : Cond) ∈ xtb := tb_in (tb3 (List.mem_of_getElem? (i := 132) rfl)) rfl
theorem mw_3_133 : (.constant "SealedStoresLaw" 7 (1779033703) : Cond) ∈ xtb := tb_in (tb3 (List.mem_of_getElem? (i := 133) (by decide +kernel))) rfl
theorem mw_3_134 : (.methodLink "SealedStoresLaw" 119 yL_low : Cond) ∈ xtb := tb_in (tb3 (List.mem_of_getElem? (i := 134) (by decide +kernel))) rfl
theorem mw_3_135 : (.static yL_low : Cond) ∈ xtb := tb_in (tb3 (List.mem_of_getElem? (i := 135) (by decide +kernel))) rfl
theorem mw_3_136 : (.code yL_low cL_low 2 (some .int) : Cond) ∈ xtb := tb_in (tb3 (List.mem_of_getElem? (i := 136) rfl)) rfl
theorem mw_3_137 : (.constant "SealedStoresLaw" 8 (2147483647) : Cond) ∈ xtb := tb_in (tb3 (List.mem_of_getElem? (i := 137) (by decide +kernel))) rfl
theorem mw_3_138 : (.methodLink "SealedStoresLaw" 111 yL_refused : Cond) ∈ xtb := tb_in (tb3 (List.mem_of_getElem? (i := 138) (by decide +kernel))) rfl
theorem mw_3_139 : (.static yL_refused : Cond) ∈ xtb := tb_in (tb3 (List.mem_of_getElem? (i := 139) (by decide +kernel))) rfl
theorem mw_3_140 : (.code yL_refused cL_refused 7 (some .boolean) : Cond) ∈ xtb := tb_in (tb3 (List.mem_of_getElem? (i := 140) rfl)) rfl
theorem mw_3_141 : (.methodLink "SealedStoresLaw" 43 yL_print : Cond) ∈ xtb := tb_in (tb3 (List.mem_of_getElem? (i := 141) (by decide +kernel))) rfl
theorem mw_3_142 : (.static yL_print : Cond) ∈ xtb := tb_in (tb3 (List.mem_of_getElem? (i := 142) (by decide +kernel))) rfl
theorem mw_3_143 : (.code yL_print cL_print 5 (some .long) : Cond) ∈ xtb := tb_in (tb3 (List.mem_of_getElem? (i := 143) rfl)) rfl
theorem mw_3_144 : (.constantLong "SealedStoresLaw" 9 (7) : Cond) ∈ xtb := tb_in (tb3 (List.mem_of_getElem? (i := 144) (by decide +kernel))) rfl
theorem mw_3_145 : (.constantLong "SealedStoresLaw" 11 (31) : Cond) ∈ xtb := tb_in (tb3 (List.mem_of_getElem? (i := 145) (by decide +kernel))) rfl
theorem mw_3_146 : (.constantLong "SealedStoresLaw" 19 (1000003) : Cond) ∈ xtb := tb_in (tb3 (List.mem_of_getElem? (i := 146) (by decide +kernel))) rfl
theorem mw_3_147 : (.methodLink "SealedStoresLaw" 25 yX7_missing : Cond) ∈ xtb := tb_in (tb3 (List.mem_of_getElem? (i := 147) (by decide +kernel))) rfl
theorem mw_3_148 : (.instanceMethod yX7_missing : Cond) ∈ xtb := tb_in (tb3 (List.mem_of_getElem? (i := 148) (by decide +kernel))) rfl
theorem mw_3_149 : (.selects "SealedStores" yX7_missing yX7_missing : Cond) ∈ xtb := tb_in (tb3 (List.mem_of_getElem? (i := 149) (by decide +kernel))) rfl
theorem mw_3_150 : (.code yX7_missing cX7_missing 3 (some .int) : Cond) ∈ xtb := tb_in (tb3 (List.mem_of_getElem? (i := 150) rfl)) rfl
theorem mw_3_151 : (.methodLink "SealedStoresLaw" 31 yX7_nextBond : Cond) ∈ xtb := tb_in (tb3 (List.mem_of_getElem? (i := 151) (by decide +kernel))) rfl
theorem mw_3_152 : (.instanceMethod yX7_nextBond : Cond) ∈ xtb := tb_in (tb3 (List.mem_of_getElem? (i := 152) (by decide +kernel))) rfl
theorem mw_3_153 : (.selects "SealedStores" yX7_nextBond yX7_nextBond : Cond) ∈ xtb := tb_in (tb3 (List.mem_of_getElem? (i := 153) (by decide +kernel))) rfl
theorem mw_3_154 : (.code yX7_nextBond cX7_nextBond 3 (some .int) : Cond) ∈ xtb := tb_in (tb3 (List.mem_of_getElem? (i := 154) rfl)) rfl
theorem mw_3_155 : (.constant "SealedStoresLaw" 52 (1000001) : Cond) ∈ xtb := tb_in (tb3 (List.mem_of_getElem? (i := 155) (by decide +kernel))) rfl
theorem mw_3_156 : (.methodLink "SealedStoresLaw" 53 yX7_duty : Cond) ∈ xtb := tb_in (tb3 (List.mem_of_getElem? (i := 156) (by decide +kernel))) rfl
theorem mw_3_157 : (.instanceMethod yX7_duty : Cond) ∈ xtb := tb_in (tb3 (List.mem_of_getElem? (i := 157) (by decide +kernel))) rfl
theorem mw_3_158 : (.selects "SealedStores" yX7_duty yX7_duty : Cond) ∈ xtb := tb_in (tb3 (List.mem_of_getElem? (i := 158) (by decide +kernel))) rfl
theorem mw_3_159 : (.code yX7_duty cX7_duty 3 (some .int) : Cond) ∈ xtb := tb_in (tb3 (List.mem_of_getElem? (i := 159) rfl)) rfl
theorem mw_3_160 : (.methodLink "SealedStores" 48 yX6_changeDuty : Cond) ∈ xtb := tb_in (tb3 (List.mem_of_getElem? (i := 160) (by decide +kernel))) rfl
theorem mw_3_161 : (.instanceMethod yX6_changeDuty : Cond) ∈ xtb := tb_in (tb3 (List.mem_of_getElem? (i := 161) (by decide +kernel))) rfl
theorem mw_3_162 : (.selects "SealedStores$Ship" yX6_changeDuty yX6_changeDuty : Cond) ∈ xtb := tb_in (tb3 (List.mem_of_getElem? (i := 162) (by decide +kernel))) rfl
theorem mw_3_163 : (.code yX6_changeDuty cX6_changeDuty 4 (some .int) : Cond) ∈ xtb := tb_in (tb3 (List.mem_of_getElem? (i := 163) rfl)) rfl
theorem mw_3_164 : (.constant "SealedStoresLaw" 85 (100001) : Cond) ∈ xtb := tb_in (tb3 (List.mem_of_getElem? (i := 164) (by decide +kernel))) rfl
theorem mw_3_165 : (.methodLink "SealedStoresLaw" 89 yX7_type : Cond) ∈ xtb := tb_in (tb3 (List.mem_of_getElem? (i := 165) (by decide +kernel))) rfl
theorem mw_3_166 : (.instanceMethod yX7_type : Cond) ∈ xtb := tb_in (tb3 (List.mem_of_getElem? (i := 166) (by decide +kernel))) rfl
theorem mw_3_167 : (.selects "SealedStores" yX7_type yX7_type : Cond) ∈ xtb := tb_in (tb3 (List.mem_of_getElem? (i := 167) (by decide +kernel))) rfl
theorem mw_3_168 : (.code yX7_type cX7_type 2 (some .int) : Cond) ∈ xtb := tb_in (tb3 (List.mem_of_getElem? (i := 168) rfl)) rfl
theorem mw_3_169 : (.methodLink "SealedStores" 234 yX3_append : Cond) ∈ xtb := tb_in (tb3 (List.mem_of_getElem? (i := 169) (by decide +kernel))) rfl
theorem mw_3_170 : (.instanceMethod yX3_append : Cond) ∈ xtb := tb_in (tb3 (List.mem_of_getElem? (i := 170) (by decide +kernel))) rfl
theorem mw_3_171 : (.selects "SealedStores$OrderLog" yX3_append yX3_append : Cond) ∈ xtb := tb_in (tb3 (List.mem_of_getElem? (i := 171) (by decide +kernel))) rfl
theorem mw_3_172 : (.code yX3_append cX3_append 2 (some .int) : Cond) ∈ xtb := tb_in (tb3 (List.mem_of_getElem? (i := 172) rfl)) rfl
theorem mw_3_173 : (.constant "SealedStoresLaw" 95 (100000) : Cond) ∈ xtb := tb_in (tb3 (List.mem_of_getElem? (i := 173) (by decide +kernel))) rfl
theorem mw_3_174 : (.methodLink "SealedStoresLaw" 122 yL_addsUp : Cond) ∈ xtb := tb_in (tb3 (List.mem_of_getElem? (i := 174) (by decide +kernel))) rfl
theorem mw_3_175 : (.static yL_addsUp : Cond) ∈ xtb := tb_in (tb3 (List.mem_of_getElem? (i := 175) (by decide +kernel))) rfl
theorem mw_3_176 : (.code yL_addsUp cL_addsUp 15 (some .boolean) : Cond) ∈ xtb := tb_in (tb3 (List.mem_of_getElem? (i := 176) rfl)) rfl
theorem mw_3_177 : (.constant "SealedStoresLaw" 103 (99999) : Cond) ∈ xtb := tb_in (tb3 (List.mem_of_getElem? (i := 177) (by decide +kernel))) rfl
theorem mw_3_178 : (.methodLink "SealedStoresLaw" 125 yL_isAhead : Cond) ∈ xtb := tb_in (tb3 (List.mem_of_getElem? (i := 178) (by decide +kernel))) rfl
theorem mw_3_179 : (.static yL_isAhead : Cond) ∈ xtb := tb_in (tb3 (List.mem_of_getElem? (i := 179) (by decide +kernel))) rfl
theorem mw_3_180 : (.code yL_isAhead cL_isAhead 9 (some .boolean) : Cond) ∈ xtb := tb_in (tb3 (List.mem_of_getElem? (i := 180) rfl)) rfl
theorem inX0 : ∀ w ∈ wsX00, w ∈ xtb := by decide +kernel
theorem inX1 : ∀ w ∈ wsX10, w ∈ xtb := by decide +kernel
theorem inX2 : ∀ w ∈ wsX20, w ∈ xtb := by decide +kernel
theorem inX3 : ∀ w ∈ wsX30, w ∈ xtb := by decide +kernel
theorem inX4 : ∀ w ∈ wsX40, w ∈ xtb := by decide +kernel
theorem inX5 : ∀ w ∈ wsX50, w ∈ xtb := by decide +kernel
theorem inX6 : ∀ w ∈ wsX60, w ∈ xtb := by decide +kernel
theorem inX7 : ∀ w ∈ wsX70, w ∈ xtb := by decide +kernel
