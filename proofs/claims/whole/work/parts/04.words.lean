/-- all words of the tables that hold wherever the tables are alike: every method's list is its own code and these -/
def lw_all : List Cond := lw_tbl.filter goodWord
theorem lw_all_in : ∀ w ∈ lw_all, w ∈ lw_tbl := fun w h => (List.mem_filter.mp h).1
theorem lw_all_good : GoodIn lw_all lw_all := fun w h => ⟨h, good_of_word (List.mem_filter.mp h).2⟩
theorem lw_gc {w : Cond} {ws : List Cond} (hw : w ∈ lw_all) (h : GoodIn lw_all ws) : GoodIn lw_all (w :: ws) := fun x hx => (List.mem_cons.mp hx).elim (fun e => e ▸ lw_all_good w hw) (h x)
theorem lw_tt {w : Cond} (h : w ∈ tables_1) (g : goodWord w = true) : w ∈ lw_all := List.mem_filter.mpr ⟨List.mem_append_right _ h, g⟩
theorem lw_ts {w : Cond} (h : w ∈ k2_sels lw_privs) (g : goodWord w = true) : w ∈ lw_all := List.mem_filter.mpr ⟨List.mem_append_left _ h, g⟩
theorem kt_1 {w : Cond} (h : w ∈ tables_1_1) (g : goodWord w = true) : w ∈ lw_all := lw_tt (List.mem_append_left _ h) g
theorem kt_2 {w : Cond} (h : w ∈ tables_1_2) (g : goodWord w = true) : w ∈ lw_all := lw_tt (List.mem_append_right _ (List.mem_append_left _ h)) g
theorem kt_3 {w : Cond} (h : w ∈ tables_1_3) (g : goodWord w = true) : w ∈ lw_all := lw_tt (List.mem_append_right _ (List.mem_append_right _ (List.mem_append_left _ h))) g
theorem kt_4 {w : Cond} (h : w ∈ tables_1_4) (g : goodWord w = true) : w ∈ lw_all := lw_tt (List.mem_append_right _ (List.mem_append_right _ (List.mem_append_right _ (List.mem_append_left _ h)))) g
theorem kt_5 {w : Cond} (h : w ∈ tables_1_5) (g : goodWord w = true) : w ∈ lw_all := lw_tt (List.mem_append_right _ (List.mem_append_right _ (List.mem_append_right _ (List.mem_append_right _ (h))))) g
theorem ks_map {q : MethodName × Nat} {L : List (MethodName × Nat)} (h : q ∈ L) : Cond.selects q.1.cls q.1 q.1 ∈ k2_sels L := List.mem_map.mpr ⟨q, h, rfl⟩
theorem ks_1 {q : MethodName × Nat} (h : q ∈ lw_privs_1) : Cond.selects q.1.cls q.1 q.1 ∈ lw_all := lw_ts (ks_map (List.mem_append_left _ h)) rfl
theorem ks_2 {q : MethodName × Nat} (h : q ∈ lw_privs_2) : Cond.selects q.1.cls q.1 q.1 ∈ lw_all := lw_ts (ks_map (List.mem_append_right _ (List.mem_append_left _ h))) rfl
theorem ks_3 {q : MethodName × Nat} (h : q ∈ lw_privs_3) : Cond.selects q.1.cls q.1 q.1 ∈ lw_all := lw_ts (ks_map (List.mem_append_right _ (List.mem_append_right _ (List.mem_append_left _ h)))) rfl
theorem ks_4 {q : MethodName × Nat} (h : q ∈ lw_privs_4) : Cond.selects q.1.cls q.1 q.1 ∈ lw_all := lw_ts (ks_map (List.mem_append_right _ (List.mem_append_right _ (List.mem_append_right _ (List.mem_append_left _ h))))) rfl
theorem ks_5 {q : MethodName × Nat} (h : q ∈ lw_privs_5) : Cond.selects q.1.cls q.1 q.1 ∈ lw_all := lw_ts (ks_map (List.mem_append_right _ (List.mem_append_right _ (List.mem_append_right _ (List.mem_append_right _ (List.mem_append_left _ h)))))) rfl
theorem ks_6 {q : MethodName × Nat} (h : q ∈ lw_privs_6) : Cond.selects q.1.cls q.1 q.1 ∈ lw_all := lw_ts (ks_map (List.mem_append_right _ (List.mem_append_right _ (List.mem_append_right _ (List.mem_append_right _ (List.mem_append_right _ (h))))))) rfl
theorem kw_0 : Cond.classLink RL 8 RX10 ∈ lw_all := kt_1 (List.mem_of_getElem? (i := 19) (by decide +kernel)) rfl
theorem kw_1 : Cond.instantiable RX10 3 ∈ lw_all := kt_1 (List.mem_of_getElem? (i := 20) (by decide +kernel)) rfl
theorem kw_2 : Cond.initialized RX10 ∈ lw_all := kt_1 (List.mem_of_getElem? (i := 1) (by decide +kernel)) rfl
theorem kw_3 : Cond.classLink RL 42 RX11 ∈ lw_all := kt_4 (List.mem_of_getElem? (i := 95) (by decide +kernel)) rfl
theorem kw_4 : Cond.instantiable RX11 14 ∈ lw_all := kt_4 (List.mem_of_getElem? (i := 96) (by decide +kernel)) rfl
theorem kw_5 : Cond.initialized RX11 ∈ lw_all := kt_1 (List.mem_of_getElem? (i := 10) (by decide +kernel)) rfl
theorem kw_6 : Cond.arrayClass .long ∈ lw_all := kt_5 (List.mem_of_getElem? (i := 198) (by decide +kernel)) rfl
theorem kw_7 : Cond.methodLink RL 41 yX10_init ∈ lw_all := kt_1 (List.mem_of_getElem? (i := 21) (by decide +kernel)) rfl
theorem kw_8 : Cond.instanceMethod yX10_init ∈ lw_all := kt_1 (List.mem_of_getElem? (i := 22) (by decide +kernel)) rfl
theorem kw_9 : Cond.code yX10_init cX10_init 1 none ∈ lw_all := kt_1 (List.mem_of_getElem? (i := 23) rfl) rfl
theorem kw_10 : Cond.methodLink RX10 1 objectInit ∈ lw_all := kt_1 (List.mem_of_getElem? (i := 24) (by decide +kernel)) rfl
theorem kw_11 : Cond.instanceMethod objectInit ∈ lw_all := kt_1 (List.mem_of_getElem? (i := 25) (by decide +kernel)) rfl
theorem kw_12 : Cond.code objectInit ⟨#[0xb1]⟩ 1 none ∈ lw_all := kt_1 (List.mem_of_getElem? (i := 26) rfl) rfl
theorem kw_13 : Cond.classLink RX10 7 RX4 ∈ lw_all := kt_1 (List.mem_of_getElem? (i := 27) (by decide +kernel)) rfl
theorem kw_14 : Cond.instantiable RX4 1 ∈ lw_all := kt_1 (List.mem_of_getElem? (i := 28) (by decide +kernel)) rfl
theorem kw_15 : Cond.initialized RX4 ∈ lw_all := kt_1 (List.mem_of_getElem? (i := 2) (by decide +kernel)) rfl
theorem kw_16 : Cond.fieldLink RX10 10 "TwoSetMachine" "memory" "LTwoSetMachine$Memory;" ∈ lw_all := kt_1 (List.mem_of_getElem? (i := 166) (by decide +kernel)) rfl
theorem kw_17 : Cond.classLink RX10 16 RX6 ∈ lw_all := kt_1 (List.mem_of_getElem? (i := 39) (by decide +kernel)) rfl
theorem kw_18 : Cond.instantiable RX6 5 ∈ lw_all := kt_1 (List.mem_of_getElem? (i := 40) (by decide +kernel)) rfl
theorem kw_19 : Cond.initialized RX6 ∈ lw_all := kt_1 (List.mem_of_getElem? (i := 3) (by decide +kernel)) rfl
theorem kw_20 : Cond.fieldLink RX10 19 "TwoSetMachine" "registers" "LTwoSetMachine$Registers;" ∈ lw_all := kt_1 (List.mem_of_getElem? (i := 167) (by decide +kernel)) rfl
theorem kw_21 : Cond.classLink RX10 23 RX5 ∈ lw_all := kt_1 (List.mem_of_getElem? (i := 61) (by decide +kernel)) rfl
theorem kw_22 : Cond.instantiable RX5 8 ∈ lw_all := kt_1 (List.mem_of_getElem? (i := 62) (by decide +kernel)) rfl
theorem kw_23 : Cond.initialized RX5 ∈ lw_all := kt_1 (List.mem_of_getElem? (i := 4) (by decide +kernel)) rfl
theorem kw_24 : Cond.fieldLink RX10 28 "TwoSetMachine" "processor" "LTwoSetMachine$Processor;" ∈ lw_all := kt_1 (List.mem_of_getElem? (i := 168) (by decide +kernel)) rfl
theorem kw_25 : Cond.methodLink RX10 9 yX4_init ∈ lw_all := kt_1 (List.mem_of_getElem? (i := 29) (by decide +kernel)) rfl
theorem kw_26 : Cond.instanceMethod yX4_init ∈ lw_all := kt_1 (List.mem_of_getElem? (i := 30) (by decide +kernel)) rfl
theorem kw_27 : Cond.code yX4_init cX4_init 1 none ∈ lw_all := kt_1 (List.mem_of_getElem? (i := 31) rfl) rfl
theorem kw_28 : Cond.methodLink RX4 1 objectInit ∈ lw_all := kt_1 (List.mem_of_getElem? (i := 32) (by decide +kernel)) rfl
theorem kw_29 : Cond.constant RX4 9 (65536) ∈ lw_all := kt_1 (List.mem_of_getElem? (i := 33) (by decide +kernel)) rfl
theorem kw_30 : Cond.arrayClass .int ∈ lw_all := kt_1 (List.mem_of_getElem? (i := 38) (by decide +kernel)) rfl
theorem kw_31 : Cond.fieldLink RX4 10 "TwoSetMachine$Memory" "words" "[I" ∈ lw_all := kt_1 (List.mem_of_getElem? (i := 34) (by decide +kernel)) rfl
theorem kw_32 : Cond.methodLink RX10 18 yX6_init ∈ lw_all := kt_1 (List.mem_of_getElem? (i := 41) (by decide +kernel)) rfl
theorem kw_33 : Cond.instanceMethod yX6_init ∈ lw_all := kt_1 (List.mem_of_getElem? (i := 42) (by decide +kernel)) rfl
theorem kw_34 : Cond.code yX6_init cX6_init 1 none ∈ lw_all := kt_1 (List.mem_of_getElem? (i := 43) rfl) rfl
theorem kw_35 : Cond.methodLink RX6 3 objectInit ∈ lw_all := kt_1 (List.mem_of_getElem? (i := 44) (by decide +kernel)) rfl
theorem kw_36 : Cond.fieldLink RX6 11 "TwoSetMachine$Registers" "held" "[I" ∈ lw_all := kt_1 (List.mem_of_getElem? (i := 45) (by decide +kernel)) rfl
theorem kw_37 : Cond.fieldLink RX6 15 "TwoSetMachine$Registers" "spsrs" "[I" ∈ lw_all := kt_1 (List.mem_of_getElem? (i := 46) (by decide +kernel)) rfl
theorem kw_38 : Cond.fieldLink RX6 18 "TwoSetMachine$Registers" "cpsr" "I" ∈ lw_all := kt_1 (List.mem_of_getElem? (i := 47) (by decide +kernel)) rfl
theorem kw_39 : Cond.fieldLink RX6 22 "TwoSetMachine$Registers" "bank" "I" ∈ lw_all := kt_1 (List.mem_of_getElem? (i := 48) (by decide +kernel)) rfl
theorem kw_40 : Cond.fieldLink RX6 25 "TwoSetMachine$Registers" "here" "I" ∈ lw_all := kt_1 (List.mem_of_getElem? (i := 49) (by decide +kernel)) rfl
theorem kw_41 : Cond.methodLink RX10 25 yX5_init ∈ lw_all := kt_1 (List.mem_of_getElem? (i := 63) (by decide +kernel)) rfl
theorem kw_42 : Cond.instanceMethod yX5_init ∈ lw_all := kt_1 (List.mem_of_getElem? (i := 64) (by decide +kernel)) rfl
theorem kw_43 : Cond.code yX5_init cX5_init 6 none ∈ lw_all := kt_1 (List.mem_of_getElem? (i := 65) rfl) rfl
theorem kw_44 : Cond.methodLink RX5 1 objectInit ∈ lw_all := kt_1 (List.mem_of_getElem? (i := 66) (by decide +kernel)) rfl
theorem kw_45 : Cond.fieldLink RX5 7 "TwoSetMachine$Processor" "memory" "LTwoSetMachine$Memory;" ∈ lw_all := kt_1 (List.mem_of_getElem? (i := 141) (by decide +kernel)) rfl
theorem kw_46 : Cond.fieldLink RX5 13 "TwoSetMachine$Processor" "registers" "LTwoSetMachine$Registers;" ∈ lw_all := kt_1 (List.mem_of_getElem? (i := 142) (by decide +kernel)) rfl
theorem kw_47 : Cond.classLink RX5 17 RX7 ∈ lw_all := kt_1 (List.mem_of_getElem? (i := 67) (by decide +kernel)) rfl
theorem kw_48 : Cond.instantiable RX7 1 ∈ lw_all := kt_1 (List.mem_of_getElem? (i := 68) (by decide +kernel)) rfl
theorem kw_49 : Cond.initialized RX7 ∈ lw_all := kt_1 (List.mem_of_getElem? (i := 5) (by decide +kernel)) rfl
theorem kw_50 : Cond.classLink RX5 20 RX0 ∈ lw_all := kt_1 (List.mem_of_getElem? (i := 77) (by decide +kernel)) rfl
theorem kw_51 : Cond.instantiable RX0 2 ∈ lw_all := kt_1 (List.mem_of_getElem? (i := 78) (by decide +kernel)) rfl
theorem kw_52 : Cond.initialized RX0 ∈ lw_all := kt_1 (List.mem_of_getElem? (i := 6) (by decide +kernel)) rfl
theorem kw_53 : Cond.classLink RX5 25 RX9 ∈ lw_all := kt_1 (List.mem_of_getElem? (i := 90) (by decide +kernel)) rfl
theorem kw_54 : Cond.instantiable RX9 2 ∈ lw_all := kt_1 (List.mem_of_getElem? (i := 91) (by decide +kernel)) rfl
theorem kw_55 : Cond.initialized RX9 ∈ lw_all := kt_1 (List.mem_of_getElem? (i := 7) (by decide +kernel)) rfl
theorem kw_56 : Cond.classLink RX5 30 RX1 ∈ lw_all := kt_1 (List.mem_of_getElem? (i := 103) (by decide +kernel)) rfl
theorem kw_57 : Cond.instantiable RX1 4 ∈ lw_all := kt_1 (List.mem_of_getElem? (i := 104) (by decide +kernel)) rfl
theorem kw_58 : Cond.initialized RX1 ∈ lw_all := kt_1 (List.mem_of_getElem? (i := 8) (by decide +kernel)) rfl
theorem kw_59 : Cond.fieldLink RX5 35 "TwoSetMachine$Processor" "arm" "LTwoSetMachine$ArmSet;" ∈ lw_all := kt_1 (List.mem_of_getElem? (i := 143) (by decide +kernel)) rfl
theorem kw_60 : Cond.classLink RX5 39 RX8 ∈ lw_all := kt_1 (List.mem_of_getElem? (i := 122) (by decide +kernel)) rfl
theorem kw_61 : Cond.instantiable RX8 4 ∈ lw_all := kt_1 (List.mem_of_getElem? (i := 123) (by decide +kernel)) rfl
theorem kw_62 : Cond.initialized RX8 ∈ lw_all := kt_1 (List.mem_of_getElem? (i := 9) (by decide +kernel)) rfl
theorem kw_63 : Cond.fieldLink RX5 42 "TwoSetMachine$Processor" "thumb" "LTwoSetMachine$ThumbSet;" ∈ lw_all := kt_1 (List.mem_of_getElem? (i := 144) (by decide +kernel)) rfl
theorem kw_64 : Cond.fieldLink RX5 48 "TwoSetMachine$Processor" "faults" "[I" ∈ lw_all := kt_1 (List.mem_of_getElem? (i := 145) (by decide +kernel)) rfl
theorem kw_65 : Cond.fieldLink RX5 52 "TwoSetMachine$Processor" "steps" "I" ∈ lw_all := kt_1 (List.mem_of_getElem? (i := 146) (by decide +kernel)) rfl
theorem kw_66 : Cond.fieldLink RX5 56 "TwoSetMachine$Processor" "irqOn" "Z" ∈ lw_all := kt_1 (List.mem_of_getElem? (i := 147) (by decide +kernel)) rfl
theorem kw_67 : Cond.fieldLink RX5 60 "TwoSetMachine$Processor" "fiqOn" "Z" ∈ lw_all := kt_1 (List.mem_of_getElem? (i := 148) (by decide +kernel)) rfl
theorem kw_68 : Cond.methodLink RX5 19 yX7_init ∈ lw_all := kt_1 (List.mem_of_getElem? (i := 69) (by decide +kernel)) rfl
theorem kw_69 : Cond.instanceMethod yX7_init ∈ lw_all := kt_1 (List.mem_of_getElem? (i := 70) (by decide +kernel)) rfl
theorem kw_70 : Cond.code yX7_init cX7_init 1 none ∈ lw_all := kt_1 (List.mem_of_getElem? (i := 71) rfl) rfl
theorem kw_71 : Cond.methodLink RX7 1 objectInit ∈ lw_all := kt_1 (List.mem_of_getElem? (i := 72) (by decide +kernel)) rfl
theorem kw_72 : Cond.fieldLink RX7 7 "TwoSetMachine$Shifter" "carry" "I" ∈ lw_all := kt_1 (List.mem_of_getElem? (i := 73) (by decide +kernel)) rfl
theorem kw_73 : Cond.methodLink RX5 22 yX0_init ∈ lw_all := kt_1 (List.mem_of_getElem? (i := 79) (by decide +kernel)) rfl
theorem kw_74 : Cond.instanceMethod yX0_init ∈ lw_all := kt_1 (List.mem_of_getElem? (i := 80) (by decide +kernel)) rfl
theorem kw_75 : Cond.code yX0_init cX0_init 2 none ∈ lw_all := kt_1 (List.mem_of_getElem? (i := 81) rfl) rfl
theorem kw_76 : Cond.methodLink RX0 1 objectInit ∈ lw_all := kt_1 (List.mem_of_getElem? (i := 82) (by decide +kernel)) rfl
theorem kw_77 : Cond.fieldLink RX0 7 "TwoSetMachine$Alu" "registers" "LTwoSetMachine$Registers;" ∈ lw_all := kt_1 (List.mem_of_getElem? (i := 83) (by decide +kernel)) rfl
theorem kw_78 : Cond.fieldLink RX0 13 "TwoSetMachine$Alu" "flags" "I" ∈ lw_all := kt_1 (List.mem_of_getElem? (i := 84) (by decide +kernel)) rfl
theorem kw_79 : Cond.methodLink RX5 27 yX9_init ∈ lw_all := kt_1 (List.mem_of_getElem? (i := 92) (by decide +kernel)) rfl
theorem kw_80 : Cond.instanceMethod yX9_init ∈ lw_all := kt_1 (List.mem_of_getElem? (i := 93) (by decide +kernel)) rfl
theorem kw_81 : Cond.code yX9_init cX9_init 3 none ∈ lw_all := kt_1 (List.mem_of_getElem? (i := 94) rfl) rfl
theorem kw_82 : Cond.methodLink RX9 3 objectInit ∈ lw_all := kt_1 (List.mem_of_getElem? (i := 95) (by decide +kernel)) rfl
theorem kw_83 : Cond.fieldLink RX9 9 "TwoSetMachine$Transfers" "memory" "LTwoSetMachine$Memory;" ∈ lw_all := kt_1 (List.mem_of_getElem? (i := 96) (by decide +kernel)) rfl
theorem kw_84 : Cond.fieldLink RX9 15 "TwoSetMachine$Transfers" "registers" "LTwoSetMachine$Registers;" ∈ lw_all := kt_1 (List.mem_of_getElem? (i := 97) (by decide +kernel)) rfl
theorem kw_85 : Cond.methodLink RX5 32 yX1_init ∈ lw_all := kt_1 (List.mem_of_getElem? (i := 105) (by decide +kernel)) rfl
theorem kw_86 : Cond.instanceMethod yX1_init ∈ lw_all := kt_1 (List.mem_of_getElem? (i := 106) (by decide +kernel)) rfl
theorem kw_87 : Cond.code yX1_init cX1_init 5 none ∈ lw_all := kt_1 (List.mem_of_getElem? (i := 107) rfl) rfl
theorem kw_88 : Cond.methodLink RX1 3 objectInit ∈ lw_all := kt_1 (List.mem_of_getElem? (i := 108) (by decide +kernel)) rfl
theorem kw_89 : Cond.fieldLink RX1 9 "TwoSetMachine$ArmSet" "registers" "LTwoSetMachine$Registers;" ∈ lw_all := kt_1 (List.mem_of_getElem? (i := 109) (by decide +kernel)) rfl
theorem kw_90 : Cond.fieldLink RX1 15 "TwoSetMachine$ArmSet" "shifter" "LTwoSetMachine$Shifter;" ∈ lw_all := kt_1 (List.mem_of_getElem? (i := 110) (by decide +kernel)) rfl
theorem kw_91 : Cond.fieldLink RX1 19 "TwoSetMachine$ArmSet" "alu" "LTwoSetMachine$Alu;" ∈ lw_all := kt_1 (List.mem_of_getElem? (i := 111) (by decide +kernel)) rfl
theorem kw_92 : Cond.fieldLink RX1 23 "TwoSetMachine$ArmSet" "transfers" "LTwoSetMachine$Transfers;" ∈ lw_all := kt_1 (List.mem_of_getElem? (i := 112) (by decide +kernel)) rfl
theorem kw_93 : Cond.methodLink RX5 41 yX8_init ∈ lw_all := kt_1 (List.mem_of_getElem? (i := 124) (by decide +kernel)) rfl
theorem kw_94 : Cond.instanceMethod yX8_init ∈ lw_all := kt_1 (List.mem_of_getElem? (i := 125) (by decide +kernel)) rfl
theorem kw_95 : Cond.code yX8_init cX8_init 5 none ∈ lw_all := kt_1 (List.mem_of_getElem? (i := 126) rfl) rfl
theorem kw_96 : Cond.methodLink RX8 3 objectInit ∈ lw_all := kt_1 (List.mem_of_getElem? (i := 127) (by decide +kernel)) rfl
theorem kw_97 : Cond.fieldLink RX8 9 "TwoSetMachine$ThumbSet" "registers" "LTwoSetMachine$Registers;" ∈ lw_all := kt_1 (List.mem_of_getElem? (i := 128) (by decide +kernel)) rfl
theorem kw_98 : Cond.fieldLink RX8 15 "TwoSetMachine$ThumbSet" "shifter" "LTwoSetMachine$Shifter;" ∈ lw_all := kt_1 (List.mem_of_getElem? (i := 129) (by decide +kernel)) rfl
theorem kw_99 : Cond.fieldLink RX8 19 "TwoSetMachine$ThumbSet" "alu" "LTwoSetMachine$Alu;" ∈ lw_all := kt_1 (List.mem_of_getElem? (i := 130) (by decide +kernel)) rfl
theorem kw_100 : Cond.fieldLink RX8 23 "TwoSetMachine$ThumbSet" "transfers" "LTwoSetMachine$Transfers;" ∈ lw_all := kt_1 (List.mem_of_getElem? (i := 131) (by decide +kernel)) rfl
theorem kw_101 : Cond.methodLink RL 44 yX11_init ∈ lw_all := kt_4 (List.mem_of_getElem? (i := 97) (by decide +kernel)) rfl
theorem kw_102 : Cond.instanceMethod yX11_init ∈ lw_all := kt_4 (List.mem_of_getElem? (i := 98) (by decide +kernel)) rfl
theorem kw_103 : Cond.code yX11_init cX11_init 1 none ∈ lw_all := kt_4 (List.mem_of_getElem? (i := 99) rfl) rfl
theorem kw_104 : Cond.methodLink RX11 1 objectInit ∈ lw_all := kt_4 (List.mem_of_getElem? (i := 100) (by decide +kernel)) rfl
theorem kw_105 : Cond.constant RX11 7 (65536) ∈ lw_all := kt_4 (List.mem_of_getElem? (i := 101) (by decide +kernel)) rfl
theorem kw_106 : Cond.fieldLink RX11 8 "TwoSetMachineModel" "memory" "[I" ∈ lw_all := kt_4 (List.mem_of_getElem? (i := 103) (by decide +kernel)) rfl
theorem kw_107 : Cond.fieldLink RX11 14 "TwoSetMachineModel" "\x72" "[I" ∈ lw_all := kt_4 (List.mem_of_getElem? (i := 104) (by decide +kernel)) rfl
theorem kw_108 : Cond.fieldLink RX11 17 "TwoSetMachineModel" "spsr" "[I" ∈ lw_all := kt_4 (List.mem_of_getElem? (i := 105) (by decide +kernel)) rfl
theorem kw_109 : Cond.fieldLink RX11 20 "TwoSetMachineModel" "cpsr" "I" ∈ lw_all := kt_4 (List.mem_of_getElem? (i := 106) (by decide +kernel)) rfl
theorem kw_110 : Cond.arrayClass .boolean ∈ lw_all := kt_4 (List.mem_of_getElem? (i := 145) (by decide +kernel)) rfl
theorem kw_111 : Cond.fieldLink RX11 24 "TwoSetMachineModel" "lines" "[Z" ∈ lw_all := kt_4 (List.mem_of_getElem? (i := 107) (by decide +kernel)) rfl
theorem kw_112 : Cond.fieldLink RX11 28 "TwoSetMachineModel" "faults" "[I" ∈ lw_all := kt_4 (List.mem_of_getElem? (i := 109) (by decide +kernel)) rfl
theorem kw_113 : Cond.methodLink RL 45 yL_poke ∈ lw_all := kt_1 (List.mem_of_getElem? (i := 204) (by decide +kernel)) rfl
theorem kw_114 : Cond.static yL_poke ∈ lw_all := kt_1 (List.mem_of_getElem? (i := 205) (by decide +kernel)) rfl
theorem kw_115 : Cond.initialized RL ∈ lw_all := kt_1 (List.mem_of_getElem? (i := 0) (by decide +kernel)) rfl
theorem kw_116 : Cond.codeWith yL_poke cL_poke 5 (some .int) [(0, 10, 13, 13), (0, 10, 17, 15)] ∈ lw_all := kt_1 (List.mem_of_getElem? (i := 206) rfl) rfl
theorem kw_117 : Cond.classLink RL 13 "java/lang/IllegalArgumentException" ∈ lw_all := kt_1 (List.mem_of_getElem? (i := 207) (by decide +kernel)) rfl
theorem kw_118 : Cond.classLink RL 15 "java/lang/IndexOutOfBoundsException" ∈ lw_all := kt_1 (List.mem_of_getElem? (i := 208) (by decide +kernel)) rfl
theorem kw_119 : Cond.methodLink RL 7 yX10_poke ∈ lw_all := kt_1 (List.mem_of_getElem? (i := 209) (by decide +kernel)) rfl
theorem kw_120 : Cond.instanceMethod yX10_poke ∈ lw_all := kt_1 (List.mem_of_getElem? (i := 210) (by decide +kernel)) rfl
theorem kw_121 : Cond.selects RX10 yX10_poke yX10_poke ∈ lw_all := kt_1 (List.mem_of_getElem? (i := 211) (by decide +kernel)) rfl
theorem kw_122 : Cond.code yX10_poke cX10_poke 4 (some .int) ∈ lw_all := kt_1 (List.mem_of_getElem? (i := 212) rfl) rfl
theorem kw_123 : Cond.methodLink RX10 32 yX10_refuseAddress ∈ lw_all := kt_1 (List.mem_of_getElem? (i := 213) (by decide +kernel)) rfl
theorem kw_124 : Cond.instanceMethod yX10_refuseAddress ∈ lw_all := kt_1 (List.mem_of_getElem? (i := 215) (by decide +kernel)) rfl
theorem kw_125 : Cond.selects RX10 yX10_refuseAddress yX10_refuseAddress ∈ lw_all := ks_1 (q := (⟨"TwoSetMachine", "refuseAddress", "(I)V"⟩, 3)) (List.mem_of_getElem? (i := 0) rfl)
theorem kw_126 : Cond.code yX10_refuseAddress cX10_refuseAddress 2 none ∈ lw_all := kt_1 (List.mem_of_getElem? (i := 216) rfl) rfl
theorem kw_127 : Cond.classLink RX10 71 "java/lang/IllegalArgumentException" ∈ lw_all := kt_1 (List.mem_of_getElem? (i := 217) (by decide +kernel)) rfl
theorem kw_128 : Cond.initialized "java/lang/IllegalArgumentException" ∈ lw_all := kt_1 (List.mem_of_getElem? (i := 14) (by decide +kernel)) rfl
theorem kw_129 : Cond.classLink RX10 84 "java/lang/IndexOutOfBoundsException" ∈ lw_all := kt_2 (List.mem_of_getElem? (i := 49) (by decide +kernel)) rfl
theorem kw_130 : Cond.initialized "java/lang/IndexOutOfBoundsException" ∈ lw_all := kt_1 (List.mem_of_getElem? (i := 15) (by decide +kernel)) rfl
theorem kw_131 : Cond.methodLink RX10 114 yX4_holds ∈ lw_all := kt_2 (List.mem_of_getElem? (i := 44) (by decide +kernel)) rfl
theorem kw_132 : Cond.instanceMethod yX4_holds ∈ lw_all := kt_2 (List.mem_of_getElem? (i := 45) (by decide +kernel)) rfl
theorem kw_133 : Cond.selects RX4 yX4_holds yX4_holds ∈ lw_all := kt_2 (List.mem_of_getElem? (i := 46) (by decide +kernel)) rfl
theorem kw_134 : Cond.code yX4_holds cX4_holds 2 (some .boolean) ∈ lw_all := kt_2 (List.mem_of_getElem? (i := 47) rfl) rfl
theorem kw_135 : Cond.constant RX4 14 (262144) ∈ lw_all := kt_2 (List.mem_of_getElem? (i := 48) (by decide +kernel)) rfl
theorem kw_136 : Cond.methodLink RX10 36 yX4_word ∈ lw_all := kt_2 (List.mem_of_getElem? (i := 65) (by decide +kernel)) rfl
theorem kw_137 : Cond.instanceMethod yX4_word ∈ lw_all := kt_2 (List.mem_of_getElem? (i := 66) (by decide +kernel)) rfl
theorem kw_138 : Cond.selects RX4 yX4_word yX4_word ∈ lw_all := kt_2 (List.mem_of_getElem? (i := 67) (by decide +kernel)) rfl
theorem kw_139 : Cond.code yX4_word cX4_word 2 (some .int) ∈ lw_all := kt_2 (List.mem_of_getElem? (i := 68) rfl) rfl
theorem kw_140 : Cond.constant RX4 15 (262143) ∈ lw_all := kt_2 (List.mem_of_getElem? (i := 69) (by decide +kernel)) rfl
theorem kw_141 : Cond.methodLink RX10 40 yX4_putWord ∈ lw_all := kt_2 (List.mem_of_getElem? (i := 70) (by decide +kernel)) rfl
theorem kw_142 : Cond.instanceMethod yX4_putWord ∈ lw_all := kt_2 (List.mem_of_getElem? (i := 71) (by decide +kernel)) rfl
theorem kw_143 : Cond.selects RX4 yX4_putWord yX4_putWord ∈ lw_all := kt_2 (List.mem_of_getElem? (i := 72) (by decide +kernel)) rfl
theorem kw_144 : Cond.code yX4_putWord cX4_putWord 3 none ∈ lw_all := kt_2 (List.mem_of_getElem? (i := 73) rfl) rfl
theorem kw_145 : Cond.methodLink RL 50 yX11_poke ∈ lw_all := kt_4 (List.mem_of_getElem? (i := 150) (by decide +kernel)) rfl
theorem kw_146 : Cond.instanceMethod yX11_poke ∈ lw_all := kt_4 (List.mem_of_getElem? (i := 151) (by decide +kernel)) rfl
theorem kw_147 : Cond.selects RX11 yX11_poke yX11_poke ∈ lw_all := kt_4 (List.mem_of_getElem? (i := 152) (by decide +kernel)) rfl
theorem kw_148 : Cond.code yX11_poke cX11_poke 4 (some .int) ∈ lw_all := kt_4 (List.mem_of_getElem? (i := 153) rfl) rfl
theorem kw_149 : Cond.fieldLink RX11 31 "TwoSetMachineModel" "thrown" "I" ∈ lw_all := kt_4 (List.mem_of_getElem? (i := 102) (by decide +kernel)) rfl
theorem kw_150 : Cond.constant RX11 80 (262143) ∈ lw_all := kt_4 (List.mem_of_getElem? (i := 158) (by decide +kernel)) rfl
theorem kw_151 : Cond.methodLink RX11 77 yX11_fail ∈ lw_all := kt_4 (List.mem_of_getElem? (i := 154) (by decide +kernel)) rfl
theorem kw_152 : Cond.instanceMethod yX11_fail ∈ lw_all := kt_4 (List.mem_of_getElem? (i := 156) (by decide +kernel)) rfl
theorem kw_153 : Cond.selects RX11 yX11_fail yX11_fail ∈ lw_all := ks_3 (q := (⟨"TwoSetMachineModel", "fail", "(I)I"⟩, 14)) (List.mem_of_getElem? (i := 2) rfl)
theorem kw_154 : Cond.code yX11_fail cX11_fail 2 (some .int) ∈ lw_all := kt_4 (List.mem_of_getElem? (i := 157) rfl) rfl
theorem kw_155 : Cond.methodLink RX11 81 yX11_within ∈ lw_all := kt_4 (List.mem_of_getElem? (i := 159) (by decide +kernel)) rfl
theorem kw_156 : Cond.static yX11_within ∈ lw_all := kt_4 (List.mem_of_getElem? (i := 160) (by decide +kernel)) rfl
theorem kw_157 : Cond.code yX11_within cX11_within 3 (some .boolean) ∈ lw_all := kt_4 (List.mem_of_getElem? (i := 161) rfl) rfl
theorem kw_158 : Cond.methodLink RL 51 yX11_thrown ∈ lw_all := kt_4 (List.mem_of_getElem? (i := 146) (by decide +kernel)) rfl
theorem kw_159 : Cond.instanceMethod yX11_thrown ∈ lw_all := kt_4 (List.mem_of_getElem? (i := 147) (by decide +kernel)) rfl
theorem kw_160 : Cond.selects RX11 yX11_thrown yX11_thrown ∈ lw_all := kt_4 (List.mem_of_getElem? (i := 148) (by decide +kernel)) rfl
theorem kw_161 : Cond.code yX11_thrown cX11_thrown 1 (some .int) ∈ lw_all := kt_4 (List.mem_of_getElem? (i := 149) rfl) rfl
theorem kw_162 : Cond.methodLink RL 55 yL_peek ∈ lw_all := kt_2 (List.mem_of_getElem? (i := 74) (by decide +kernel)) rfl
theorem kw_163 : Cond.static yL_peek ∈ lw_all := kt_2 (List.mem_of_getElem? (i := 75) (by decide +kernel)) rfl
theorem kw_164 : Cond.codeWith yL_peek cL_peek 4 (some .int) [(0, 9, 12, 13), (0, 9, 15, 15)] ∈ lw_all := kt_2 (List.mem_of_getElem? (i := 76) rfl) rfl
theorem kw_165 : Cond.methodLink RL 17 yX10_peek ∈ lw_all := kt_2 (List.mem_of_getElem? (i := 77) (by decide +kernel)) rfl
theorem kw_166 : Cond.instanceMethod yX10_peek ∈ lw_all := kt_2 (List.mem_of_getElem? (i := 78) (by decide +kernel)) rfl
theorem kw_167 : Cond.selects RX10 yX10_peek yX10_peek ∈ lw_all := kt_2 (List.mem_of_getElem? (i := 79) (by decide +kernel)) rfl
theorem kw_168 : Cond.code yX10_peek cX10_peek 2 (some .int) ∈ lw_all := kt_2 (List.mem_of_getElem? (i := 80) rfl) rfl
theorem kw_169 : Cond.methodLink RL 58 yX11_peek ∈ lw_all := kt_4 (List.mem_of_getElem? (i := 162) (by decide +kernel)) rfl
theorem kw_170 : Cond.instanceMethod yX11_peek ∈ lw_all := kt_4 (List.mem_of_getElem? (i := 163) (by decide +kernel)) rfl
theorem kw_171 : Cond.selects RX11 yX11_peek yX11_peek ∈ lw_all := kt_4 (List.mem_of_getElem? (i := 164) (by decide +kernel)) rfl
theorem kw_172 : Cond.code yX11_peek cX11_peek 2 (some .int) ∈ lw_all := kt_4 (List.mem_of_getElem? (i := 165) rfl) rfl
theorem kw_173 : Cond.methodLink RL 59 yL_set ∈ lw_all := kt_2 (List.mem_of_getElem? (i := 81) (by decide +kernel)) rfl
theorem kw_174 : Cond.static yL_set ∈ lw_all := kt_2 (List.mem_of_getElem? (i := 82) (by decide +kernel)) rfl
theorem kw_175 : Cond.codeWith yL_set cL_set 5 (some .int) [(0, 7, 10, 13), (0, 7, 14, 15)] ∈ lw_all := kt_2 (List.mem_of_getElem? (i := 83) rfl) rfl
theorem kw_176 : Cond.methodLink RL 21 yX10_set ∈ lw_all := kt_2 (List.mem_of_getElem? (i := 84) (by decide +kernel)) rfl
theorem kw_177 : Cond.instanceMethod yX10_set ∈ lw_all := kt_2 (List.mem_of_getElem? (i := 85) (by decide +kernel)) rfl
theorem kw_178 : Cond.selects RX10 yX10_set yX10_set ∈ lw_all := kt_2 (List.mem_of_getElem? (i := 86) (by decide +kernel)) rfl
theorem kw_179 : Cond.code yX10_set cX10_set 5 none ∈ lw_all := kt_2 (List.mem_of_getElem? (i := 87) rfl) rfl
theorem kw_180 : Cond.methodLink RX10 44 yX6_bankOf ∈ lw_all := kt_2 (List.mem_of_getElem? (i := 88) (by decide +kernel)) rfl
theorem kw_181 : Cond.static yX6_bankOf ∈ lw_all := kt_1 (List.mem_of_getElem? (i := 189) (by decide +kernel)) rfl
theorem kw_182 : Cond.code yX6_bankOf cX6_bankOf 1 (some .int) ∈ lw_all := kt_1 (List.mem_of_getElem? (i := 190) rfl) rfl
theorem kw_183 : Cond.methodLink RX10 47 yX10_refuseRegister ∈ lw_all := kt_2 (List.mem_of_getElem? (i := 89) (by decide +kernel)) rfl
theorem kw_184 : Cond.static yX10_refuseRegister ∈ lw_all := kt_2 (List.mem_of_getElem? (i := 90) (by decide +kernel)) rfl
theorem kw_185 : Cond.code yX10_refuseRegister cX10_refuseRegister 2 none ∈ lw_all := kt_2 (List.mem_of_getElem? (i := 91) rfl) rfl
theorem kw_186 : Cond.methodLink RX10 50 yX6_jump ∈ lw_all := kt_1 (List.mem_of_getElem? (i := 196) (by decide +kernel)) rfl
theorem kw_187 : Cond.instanceMethod yX6_jump ∈ lw_all := kt_1 (List.mem_of_getElem? (i := 197) (by decide +kernel)) rfl
theorem kw_188 : Cond.selects RX6 yX6_jump yX6_jump ∈ lw_all := kt_1 (List.mem_of_getElem? (i := 198) (by decide +kernel)) rfl
theorem kw_189 : Cond.code yX6_jump cX6_jump 2 none ∈ lw_all := kt_1 (List.mem_of_getElem? (i := 199) rfl) rfl
theorem kw_190 : Cond.methodLink RX6 31 yX6_thumb ∈ lw_all := kt_1 (List.mem_of_getElem? (i := 200) (by decide +kernel)) rfl
theorem kw_191 : Cond.instanceMethod yX6_thumb ∈ lw_all := kt_1 (List.mem_of_getElem? (i := 201) (by decide +kernel)) rfl
theorem kw_192 : Cond.selects RX6 yX6_thumb yX6_thumb ∈ lw_all := kt_1 (List.mem_of_getElem? (i := 202) (by decide +kernel)) rfl
theorem kw_193 : Cond.code yX6_thumb cX6_thumb 1 (some .boolean) ∈ lw_all := kt_1 (List.mem_of_getElem? (i := 203) rfl) rfl
theorem kw_194 : Cond.methodLink RX10 53 yX6_hold ∈ lw_all := kt_2 (List.mem_of_getElem? (i := 94) (by decide +kernel)) rfl
theorem kw_195 : Cond.instanceMethod yX6_hold ∈ lw_all := kt_2 (List.mem_of_getElem? (i := 95) (by decide +kernel)) rfl
theorem kw_196 : Cond.selects RX6 yX6_hold yX6_hold ∈ lw_all := kt_2 (List.mem_of_getElem? (i := 96) (by decide +kernel)) rfl
theorem kw_197 : Cond.code yX6_hold cX6_hold 4 none ∈ lw_all := kt_2 (List.mem_of_getElem? (i := 97) rfl) rfl
theorem kw_198 : Cond.fieldLink RX6 28 "TwoSetMachine$Registers" "PLACES" "[I" ∈ lw_all := kt_2 (List.mem_of_getElem? (i := 98) (by decide +kernel)) rfl
theorem kw_199 : Cond.methodLink RL 62 yX11_set ∈ lw_all := kt_4 (List.mem_of_getElem? (i := 166) (by decide +kernel)) rfl
theorem kw_200 : Cond.instanceMethod yX11_set ∈ lw_all := kt_4 (List.mem_of_getElem? (i := 167) (by decide +kernel)) rfl
theorem kw_201 : Cond.selects RX11 yX11_set yX11_set ∈ lw_all := kt_4 (List.mem_of_getElem? (i := 168) (by decide +kernel)) rfl
theorem kw_202 : Cond.code yX11_set cX11_set 4 none ∈ lw_all := kt_4 (List.mem_of_getElem? (i := 169) rfl) rfl
theorem kw_203 : Cond.methodLink RX11 34 yX11_bank ∈ lw_all := kt_4 (List.mem_of_getElem? (i := 170) (by decide +kernel)) rfl
theorem kw_204 : Cond.static yX11_bank ∈ lw_all := kt_4 (List.mem_of_getElem? (i := 171) (by decide +kernel)) rfl
theorem kw_205 : Cond.code yX11_bank cX11_bank 1 (some .int) ∈ lw_all := kt_4 (List.mem_of_getElem? (i := 172) rfl) rfl
theorem kw_206 : Cond.methodLink RX11 42 yX11_placeOf ∈ lw_all := kt_4 (List.mem_of_getElem? (i := 173) (by decide +kernel)) rfl
theorem kw_207 : Cond.static yX11_placeOf ∈ lw_all := kt_4 (List.mem_of_getElem? (i := 174) (by decide +kernel)) rfl
theorem kw_208 : Cond.code yX11_placeOf cX11_placeOf 3 (some .int) ∈ lw_all := kt_4 (List.mem_of_getElem? (i := 175) rfl) rfl
theorem kw_209 : Cond.methodLink RX11 59 yX11_trimmed ∈ lw_all := kt_4 (List.mem_of_getElem? (i := 176) (by decide +kernel)) rfl
theorem kw_210 : Cond.instanceMethod yX11_trimmed ∈ lw_all := kt_4 (List.mem_of_getElem? (i := 178) (by decide +kernel)) rfl
theorem kw_211 : Cond.selects RX11 yX11_trimmed yX11_trimmed ∈ lw_all := ks_3 (q := (⟨"TwoSetMachineModel", "trimmed", "(I)I"⟩, 14)) (List.mem_of_getElem? (i := 3) rfl)
theorem kw_212 : Cond.code yX11_trimmed cX11_trimmed 2 (some .int) ∈ lw_all := kt_4 (List.mem_of_getElem? (i := 179) rfl) rfl
theorem kw_213 : Cond.methodLink RX11 52 yX11_isThumb ∈ lw_all := kt_4 (List.mem_of_getElem? (i := 180) (by decide +kernel)) rfl
theorem kw_214 : Cond.instanceMethod yX11_isThumb ∈ lw_all := kt_4 (List.mem_of_getElem? (i := 182) (by decide +kernel)) rfl
theorem kw_215 : Cond.selects RX11 yX11_isThumb yX11_isThumb ∈ lw_all := ks_3 (q := (⟨"TwoSetMachineModel", "isThumb", "()Z"⟩, 14)) (List.mem_of_getElem? (i := 4) rfl)
theorem kw_216 : Cond.code yX11_isThumb cX11_isThumb 1 (some .boolean) ∈ lw_all := kt_4 (List.mem_of_getElem? (i := 183) rfl) rfl
theorem kw_217 : Cond.methodLink RL 63 yL_get ∈ lw_all := kt_2 (List.mem_of_getElem? (i := 100) (by decide +kernel)) rfl
theorem kw_218 : Cond.static yL_get ∈ lw_all := kt_2 (List.mem_of_getElem? (i := 101) (by decide +kernel)) rfl
theorem kw_219 : Cond.codeWith yL_get cL_get 5 (some .int) [(0, 10, 13, 13), (0, 10, 17, 15)] ∈ lw_all := kt_2 (List.mem_of_getElem? (i := 102) rfl) rfl
theorem kw_220 : Cond.methodLink RL 25 yX10_get ∈ lw_all := kt_2 (List.mem_of_getElem? (i := 103) (by decide +kernel)) rfl
theorem kw_221 : Cond.instanceMethod yX10_get ∈ lw_all := kt_2 (List.mem_of_getElem? (i := 104) (by decide +kernel)) rfl
theorem kw_222 : Cond.selects RX10 yX10_get yX10_get ∈ lw_all := kt_2 (List.mem_of_getElem? (i := 105) (by decide +kernel)) rfl
theorem kw_223 : Cond.code yX10_get cX10_get 4 (some .int) ∈ lw_all := kt_2 (List.mem_of_getElem? (i := 106) rfl) rfl
theorem kw_224 : Cond.methodLink RX10 57 yX6_heldIn ∈ lw_all := kt_2 (List.mem_of_getElem? (i := 107) (by decide +kernel)) rfl
theorem kw_225 : Cond.instanceMethod yX6_heldIn ∈ lw_all := kt_2 (List.mem_of_getElem? (i := 108) (by decide +kernel)) rfl
theorem kw_226 : Cond.selects RX6 yX6_heldIn yX6_heldIn ∈ lw_all := kt_2 (List.mem_of_getElem? (i := 109) (by decide +kernel)) rfl
theorem kw_227 : Cond.code yX6_heldIn cX6_heldIn 3 (some .int) ∈ lw_all := kt_2 (List.mem_of_getElem? (i := 110) rfl) rfl
theorem kw_228 : Cond.methodLink RL 65 yX11_get ∈ lw_all := kt_4 (List.mem_of_getElem? (i := 184) (by decide +kernel)) rfl
theorem kw_229 : Cond.instanceMethod yX11_get ∈ lw_all := kt_4 (List.mem_of_getElem? (i := 185) (by decide +kernel)) rfl
theorem kw_230 : Cond.selects RX11 yX11_get yX11_get ∈ lw_all := kt_4 (List.mem_of_getElem? (i := 186) (by decide +kernel)) rfl
theorem kw_231 : Cond.code yX11_get cX11_get 3 (some .int) ∈ lw_all := kt_4 (List.mem_of_getElem? (i := 187) rfl) rfl
theorem kw_232 : Cond.methodLink RL 66 yX10_status ∈ lw_all := kt_1 (List.mem_of_getElem? (i := 176) (by decide +kernel)) rfl
theorem kw_233 : Cond.instanceMethod yX10_status ∈ lw_all := kt_1 (List.mem_of_getElem? (i := 177) (by decide +kernel)) rfl
theorem kw_234 : Cond.selects RX10 yX10_status yX10_status ∈ lw_all := kt_1 (List.mem_of_getElem? (i := 178) (by decide +kernel)) rfl
theorem kw_235 : Cond.code yX10_status cX10_status 3 (some .int) ∈ lw_all := kt_1 (List.mem_of_getElem? (i := 179) rfl) rfl
theorem kw_236 : Cond.methodLink RX10 61 yX6_cpsr ∈ lw_all := kt_1 (List.mem_of_getElem? (i := 180) (by decide +kernel)) rfl
theorem kw_237 : Cond.instanceMethod yX6_cpsr ∈ lw_all := kt_1 (List.mem_of_getElem? (i := 181) (by decide +kernel)) rfl
theorem kw_238 : Cond.selects RX6 yX6_cpsr yX6_cpsr ∈ lw_all := kt_1 (List.mem_of_getElem? (i := 182) (by decide +kernel)) rfl
theorem kw_239 : Cond.code yX6_cpsr cX6_cpsr 1 (some .int) ∈ lw_all := kt_1 (List.mem_of_getElem? (i := 183) rfl) rfl
theorem kw_240 : Cond.methodLink RX10 65 yX6_changeCpsr ∈ lw_all := kt_1 (List.mem_of_getElem? (i := 184) (by decide +kernel)) rfl
theorem kw_241 : Cond.instanceMethod yX6_changeCpsr ∈ lw_all := kt_1 (List.mem_of_getElem? (i := 185) (by decide +kernel)) rfl
theorem kw_242 : Cond.selects RX6 yX6_changeCpsr yX6_changeCpsr ∈ lw_all := kt_1 (List.mem_of_getElem? (i := 186) (by decide +kernel)) rfl
theorem kw_243 : Cond.code yX6_changeCpsr cX6_changeCpsr 3 none ∈ lw_all := kt_1 (List.mem_of_getElem? (i := 187) rfl) rfl
theorem kw_244 : Cond.constant RX6 55 (-268435201) ∈ lw_all := kt_1 (List.mem_of_getElem? (i := 191) (by decide +kernel)) rfl
theorem kw_245 : Cond.methodLink RX6 51 yX6_bankOf ∈ lw_all := kt_1 (List.mem_of_getElem? (i := 188) (by decide +kernel)) rfl
theorem kw_246 : Cond.methodLink RX10 68 yX6_next ∈ lw_all := kt_1 (List.mem_of_getElem? (i := 192) (by decide +kernel)) rfl
theorem kw_247 : Cond.instanceMethod yX6_next ∈ lw_all := kt_1 (List.mem_of_getElem? (i := 193) (by decide +kernel)) rfl
theorem kw_248 : Cond.selects RX6 yX6_next yX6_next ∈ lw_all := kt_1 (List.mem_of_getElem? (i := 194) (by decide +kernel)) rfl
theorem kw_249 : Cond.code yX6_next cX6_next 1 (some .int) ∈ lw_all := kt_1 (List.mem_of_getElem? (i := 195) rfl) rfl
theorem kw_250 : Cond.methodLink RL 69 yX11_status ∈ lw_all := kt_4 (List.mem_of_getElem? (i := 188) (by decide +kernel)) rfl
theorem kw_251 : Cond.instanceMethod yX11_status ∈ lw_all := kt_4 (List.mem_of_getElem? (i := 189) (by decide +kernel)) rfl
theorem kw_252 : Cond.selects RX11 yX11_status yX11_status ∈ lw_all := kt_4 (List.mem_of_getElem? (i := 190) (by decide +kernel)) rfl
theorem kw_253 : Cond.code yX11_status cX11_status 3 (some .int) ∈ lw_all := kt_4 (List.mem_of_getElem? (i := 191) rfl) rfl
theorem kw_254 : Cond.methodLink RX11 85 yX11_putStatus ∈ lw_all := kt_4 (List.mem_of_getElem? (i := 192) (by decide +kernel)) rfl
theorem kw_255 : Cond.instanceMethod yX11_putStatus ∈ lw_all := kt_4 (List.mem_of_getElem? (i := 194) (by decide +kernel)) rfl
theorem kw_256 : Cond.selects RX11 yX11_putStatus yX11_putStatus ∈ lw_all := ks_3 (q := (⟨"TwoSetMachineModel", "putStatus", "(I)V"⟩, 14)) (List.mem_of_getElem? (i := 5) rfl)
theorem kw_257 : Cond.code yX11_putStatus cX11_putStatus 3 none ∈ lw_all := kt_4 (List.mem_of_getElem? (i := 195) rfl) rfl
theorem kw_258 : Cond.constant RX11 66 (-268435201) ∈ lw_all := kt_4 (List.mem_of_getElem? (i := 200) (by decide +kernel)) rfl
theorem kw_259 : Cond.methodLink RX11 38 yX11_mode ∈ lw_all := kt_4 (List.mem_of_getElem? (i := 196) (by decide +kernel)) rfl
theorem kw_260 : Cond.instanceMethod yX11_mode ∈ lw_all := kt_4 (List.mem_of_getElem? (i := 198) (by decide +kernel)) rfl
theorem kw_261 : Cond.selects RX11 yX11_mode yX11_mode ∈ lw_all := ks_3 (q := (⟨"TwoSetMachineModel", "mode", "()I"⟩, 14)) (List.mem_of_getElem? (i := 6) rfl)
theorem kw_262 : Cond.code yX11_mode cX11_mode 1 (some .int) ∈ lw_all := kt_4 (List.mem_of_getElem? (i := 199) rfl) rfl
theorem kw_263 : Cond.methodLink RL 70 yL_saved ∈ lw_all := kt_2 (List.mem_of_getElem? (i := 111) (by decide +kernel)) rfl
theorem kw_264 : Cond.static yL_saved ∈ lw_all := kt_2 (List.mem_of_getElem? (i := 112) (by decide +kernel)) rfl
theorem kw_265 : Cond.codeWith yL_saved cL_saved 5 (some .int) [(0, 10, 13, 13)] ∈ lw_all := kt_2 (List.mem_of_getElem? (i := 113) rfl) rfl
theorem kw_266 : Cond.methodLink RL 28 yX10_saved ∈ lw_all := kt_2 (List.mem_of_getElem? (i := 114) (by decide +kernel)) rfl
theorem kw_267 : Cond.instanceMethod yX10_saved ∈ lw_all := kt_2 (List.mem_of_getElem? (i := 115) (by decide +kernel)) rfl
theorem kw_268 : Cond.selects RX10 yX10_saved yX10_saved ∈ lw_all := kt_2 (List.mem_of_getElem? (i := 116) (by decide +kernel)) rfl
theorem kw_269 : Cond.code yX10_saved cX10_saved 5 (some .int) ∈ lw_all := kt_2 (List.mem_of_getElem? (i := 117) rfl) rfl
theorem kw_270 : Cond.methodLink RX10 78 yX6_spsr ∈ lw_all := kt_2 (List.mem_of_getElem? (i := 119) (by decide +kernel)) rfl
theorem kw_271 : Cond.instanceMethod yX6_spsr ∈ lw_all := kt_2 (List.mem_of_getElem? (i := 120) (by decide +kernel)) rfl
theorem kw_272 : Cond.selects RX6 yX6_spsr yX6_spsr ∈ lw_all := kt_2 (List.mem_of_getElem? (i := 121) (by decide +kernel)) rfl
theorem kw_273 : Cond.code yX6_spsr cX6_spsr 2 (some .int) ∈ lw_all := kt_2 (List.mem_of_getElem? (i := 122) rfl) rfl
theorem kw_274 : Cond.methodLink RX10 81 yX6_changeSpsr ∈ lw_all := kt_2 (List.mem_of_getElem? (i := 123) (by decide +kernel)) rfl
theorem kw_275 : Cond.instanceMethod yX6_changeSpsr ∈ lw_all := kt_2 (List.mem_of_getElem? (i := 124) (by decide +kernel)) rfl
theorem kw_276 : Cond.selects RX6 yX6_changeSpsr yX6_changeSpsr ∈ lw_all := kt_2 (List.mem_of_getElem? (i := 125) (by decide +kernel)) rfl
theorem kw_277 : Cond.code yX6_changeSpsr cX6_changeSpsr 3 none ∈ lw_all := kt_2 (List.mem_of_getElem? (i := 126) rfl) rfl
theorem kw_278 : Cond.methodLink RL 72 yX11_saved ∈ lw_all := kt_4 (List.mem_of_getElem? (i := 201) (by decide +kernel)) rfl
theorem kw_279 : Cond.instanceMethod yX11_saved ∈ lw_all := kt_4 (List.mem_of_getElem? (i := 202) (by decide +kernel)) rfl
theorem kw_280 : Cond.selects RX11 yX11_saved yX11_saved ∈ lw_all := kt_4 (List.mem_of_getElem? (i := 203) (by decide +kernel)) rfl
theorem kw_281 : Cond.code yX11_saved cX11_saved 5 (some .int) ∈ lw_all := kt_4 (List.mem_of_getElem? (i := 204) rfl) rfl
theorem kw_282 : Cond.methodLink RL 73 yL_line ∈ lw_all := kt_2 (List.mem_of_getElem? (i := 127) (by decide +kernel)) rfl
theorem kw_283 : Cond.static yL_line ∈ lw_all := kt_2 (List.mem_of_getElem? (i := 128) (by decide +kernel)) rfl
theorem kw_284 : Cond.codeWith yL_line cL_line 5 (some .int) [(0, 17, 20, 15)] ∈ lw_all := kt_2 (List.mem_of_getElem? (i := 129) rfl) rfl
theorem kw_285 : Cond.methodLink RL 31 yX10_line ∈ lw_all := kt_2 (List.mem_of_getElem? (i := 130) (by decide +kernel)) rfl
theorem kw_286 : Cond.instanceMethod yX10_line ∈ lw_all := kt_2 (List.mem_of_getElem? (i := 131) (by decide +kernel)) rfl
theorem kw_287 : Cond.selects RX10 yX10_line yX10_line ∈ lw_all := kt_2 (List.mem_of_getElem? (i := 132) (by decide +kernel)) rfl
theorem kw_288 : Cond.code yX10_line cX10_line 3 (some .boolean) ∈ lw_all := kt_2 (List.mem_of_getElem? (i := 133) rfl) rfl
theorem kw_289 : Cond.methodLink RX10 89 yX5_switchFiq ∈ lw_all := kt_2 (List.mem_of_getElem? (i := 135) (by decide +kernel)) rfl
theorem kw_290 : Cond.instanceMethod yX5_switchFiq ∈ lw_all := kt_2 (List.mem_of_getElem? (i := 136) (by decide +kernel)) rfl
theorem kw_291 : Cond.selects RX5 yX5_switchFiq yX5_switchFiq ∈ lw_all := kt_2 (List.mem_of_getElem? (i := 137) (by decide +kernel)) rfl
theorem kw_292 : Cond.code yX5_switchFiq cX5_switchFiq 3 (some .boolean) ∈ lw_all := kt_2 (List.mem_of_getElem? (i := 138) rfl) rfl
theorem kw_293 : Cond.methodLink RX10 93 yX5_switchIrq ∈ lw_all := kt_2 (List.mem_of_getElem? (i := 139) (by decide +kernel)) rfl
theorem kw_294 : Cond.instanceMethod yX5_switchIrq ∈ lw_all := kt_2 (List.mem_of_getElem? (i := 140) (by decide +kernel)) rfl
theorem kw_295 : Cond.selects RX5 yX5_switchIrq yX5_switchIrq ∈ lw_all := kt_2 (List.mem_of_getElem? (i := 141) (by decide +kernel)) rfl
theorem kw_296 : Cond.code yX5_switchIrq cX5_switchIrq 3 (some .boolean) ∈ lw_all := kt_2 (List.mem_of_getElem? (i := 142) rfl) rfl
theorem kw_297 : Cond.methodLink RL 76 yX11_line ∈ lw_all := kt_4 (List.mem_of_getElem? (i := 205) (by decide +kernel)) rfl
theorem kw_298 : Cond.instanceMethod yX11_line ∈ lw_all := kt_4 (List.mem_of_getElem? (i := 206) (by decide +kernel)) rfl
theorem kw_299 : Cond.selects RX11 yX11_line yX11_line ∈ lw_all := kt_4 (List.mem_of_getElem? (i := 207) (by decide +kernel)) rfl
theorem kw_300 : Cond.code yX11_line cX11_line 4 (some .boolean) ∈ lw_all := kt_4 (List.mem_of_getElem? (i := 208) rfl) rfl
theorem kw_301 : Cond.methodLink RL 77 yL_step ∈ lw_all := kt_2 (List.mem_of_getElem? (i := 143) (by decide +kernel)) rfl
theorem kw_302 : Cond.static yL_step ∈ lw_all := kt_2 (List.mem_of_getElem? (i := 144) (by decide +kernel)) rfl
theorem kw_303 : Cond.codeWith yL_step cL_step 4 (some .int) [(0, 9, 12, 13)] ∈ lw_all := kt_2 (List.mem_of_getElem? (i := 145) rfl) rfl
theorem kw_304 : Cond.methodLink RL 35 yX10_step ∈ lw_all := kt_2 (List.mem_of_getElem? (i := 146) (by decide +kernel)) rfl
theorem kw_305 : Cond.instanceMethod yX10_step ∈ lw_all := kt_2 (List.mem_of_getElem? (i := 147) (by decide +kernel)) rfl
theorem kw_306 : Cond.selects RX10 yX10_step yX10_step ∈ lw_all := kt_2 (List.mem_of_getElem? (i := 148) (by decide +kernel)) rfl
theorem kw_307 : Cond.code yX10_step cX10_step 5 (some .int) ∈ lw_all := kt_2 (List.mem_of_getElem? (i := 149) rfl) rfl
theorem kw_308 : Cond.methodLink RX10 98 yX5_advance ∈ lw_all := kt_2 (List.mem_of_getElem? (i := 151) (by decide +kernel)) rfl
theorem kw_309 : Cond.instanceMethod yX5_advance ∈ lw_all := kt_2 (List.mem_of_getElem? (i := 152) (by decide +kernel)) rfl
theorem kw_310 : Cond.selects RX5 yX5_advance yX5_advance ∈ lw_all := kt_2 (List.mem_of_getElem? (i := 153) (by decide +kernel)) rfl
theorem kw_311 : Cond.code yX5_advance cX5_advance 2 (some .int) ∈ lw_all := kt_2 (List.mem_of_getElem? (i := 154) rfl) rfl
theorem kw_312 : Cond.methodLink RX5 67 yX6_begin ∈ lw_all := kt_2 (List.mem_of_getElem? (i := 155) (by decide +kernel)) rfl
theorem kw_313 : Cond.instanceMethod yX6_begin ∈ lw_all := kt_2 (List.mem_of_getElem? (i := 156) (by decide +kernel)) rfl
theorem kw_314 : Cond.selects RX6 yX6_begin yX6_begin ∈ lw_all := kt_2 (List.mem_of_getElem? (i := 157) (by decide +kernel)) rfl
theorem kw_315 : Cond.code yX6_begin cX6_begin 1 none ∈ lw_all := kt_2 (List.mem_of_getElem? (i := 158) rfl) rfl
theorem kw_316 : Cond.methodLink RX6 47 yX6_behind ∈ lw_all := kt_2 (List.mem_of_getElem? (i := 159) (by decide +kernel)) rfl
theorem kw_317 : Cond.instanceMethod yX6_behind ∈ lw_all := kt_2 (List.mem_of_getElem? (i := 160) (by decide +kernel)) rfl
theorem kw_318 : Cond.selects RX6 yX6_behind yX6_behind ∈ lw_all := kt_2 (List.mem_of_getElem? (i := 161) (by decide +kernel)) rfl
theorem kw_319 : Cond.code yX6_behind cX6_behind 1 (some .int) ∈ lw_all := kt_2 (List.mem_of_getElem? (i := 162) rfl) rfl
theorem kw_320 : Cond.methodLink RX5 72 yX6_fiqAllowed ∈ lw_all := kt_2 (List.mem_of_getElem? (i := 163) (by decide +kernel)) rfl
theorem kw_321 : Cond.instanceMethod yX6_fiqAllowed ∈ lw_all := kt_2 (List.mem_of_getElem? (i := 164) (by decide +kernel)) rfl
theorem kw_322 : Cond.selects RX6 yX6_fiqAllowed yX6_fiqAllowed ∈ lw_all := kt_2 (List.mem_of_getElem? (i := 165) (by decide +kernel)) rfl
theorem kw_323 : Cond.code yX6_fiqAllowed cX6_fiqAllowed 1 (some .boolean) ∈ lw_all := kt_2 (List.mem_of_getElem? (i := 166) rfl) rfl
theorem kw_324 : Cond.methodLink RX5 76 yX6_irqAllowed ∈ lw_all := kt_2 (List.mem_of_getElem? (i := 167) (by decide +kernel)) rfl
theorem kw_325 : Cond.instanceMethod yX6_irqAllowed ∈ lw_all := kt_2 (List.mem_of_getElem? (i := 168) (by decide +kernel)) rfl
theorem kw_326 : Cond.selects RX6 yX6_irqAllowed yX6_irqAllowed ∈ lw_all := kt_2 (List.mem_of_getElem? (i := 169) (by decide +kernel)) rfl
theorem kw_327 : Cond.code yX6_irqAllowed cX6_irqAllowed 1 (some .boolean) ∈ lw_all := kt_2 (List.mem_of_getElem? (i := 170) rfl) rfl
theorem kw_328 : Cond.methodLink RX5 79 yX6_here ∈ lw_all := kt_2 (List.mem_of_getElem? (i := 171) (by decide +kernel)) rfl
theorem kw_329 : Cond.instanceMethod yX6_here ∈ lw_all := kt_2 (List.mem_of_getElem? (i := 172) (by decide +kernel)) rfl
theorem kw_330 : Cond.selects RX6 yX6_here yX6_here ∈ lw_all := kt_2 (List.mem_of_getElem? (i := 173) (by decide +kernel)) rfl
theorem kw_331 : Cond.code yX6_here cX6_here 1 (some .int) ∈ lw_all := kt_2 (List.mem_of_getElem? (i := 174) rfl) rfl
theorem kw_332 : Cond.methodLink RX5 83 yX4_holds ∈ lw_all := kt_2 (List.mem_of_getElem? (i := 175) (by decide +kernel)) rfl
theorem kw_333 : Cond.methodLink RX5 88 yX6_thumb ∈ lw_all := kt_2 (List.mem_of_getElem? (i := 176) (by decide +kernel)) rfl
theorem kw_334 : Cond.methodLink RX5 90 yX4_half ∈ lw_all := kt_2 (List.mem_of_getElem? (i := 177) (by decide +kernel)) rfl
theorem kw_335 : Cond.instanceMethod yX4_half ∈ lw_all := kt_2 (List.mem_of_getElem? (i := 178) (by decide +kernel)) rfl
theorem kw_336 : Cond.selects RX4 yX4_half yX4_half ∈ lw_all := kt_2 (List.mem_of_getElem? (i := 179) (by decide +kernel)) rfl
theorem kw_337 : Cond.code yX4_half cX4_half 2 (some .int) ∈ lw_all := kt_2 (List.mem_of_getElem? (i := 180) rfl) rfl
theorem kw_338 : Cond.constant RX4 20 (65535) ∈ lw_all := kt_2 (List.mem_of_getElem? (i := 182) (by decide +kernel)) rfl
theorem kw_339 : Cond.methodLink RX4 16 yX4_word ∈ lw_all := kt_2 (List.mem_of_getElem? (i := 181) (by decide +kernel)) rfl
theorem kw_340 : Cond.methodLink RX5 94 yX8_perform ∈ lw_all := kt_2 (List.mem_of_getElem? (i := 183) (by decide +kernel)) rfl
theorem kw_341 : Cond.instanceMethod yX8_perform ∈ lw_all := kt_2 (List.mem_of_getElem? (i := 184) (by decide +kernel)) rfl
theorem kw_342 : Cond.selects RX8 yX8_perform yX8_perform ∈ lw_all := kt_2 (List.mem_of_getElem? (i := 185) (by decide +kernel)) rfl
theorem kw_343 : Cond.code yX8_perform cX8_perform 2 (some .int) ∈ lw_all := kt_2 (List.mem_of_getElem? (i := 186) rfl) rfl
theorem kw_344 : Cond.methodLink RX8 27 yX2_four ∈ lw_all := kt_2 (List.mem_of_getElem? (i := 187) (by decide +kernel)) rfl
theorem kw_345 : Cond.static yX2_four ∈ lw_all := kt_2 (List.mem_of_getElem? (i := 188) (by decide +kernel)) rfl
theorem kw_346 : Cond.initialized RX2 ∈ lw_all := kt_1 (List.mem_of_getElem? (i := 16) (by decide +kernel)) rfl
theorem kw_347 : Cond.code yX2_four cX2_four 2 (some .int) ∈ lw_all := kt_2 (List.mem_of_getElem? (i := 189) rfl) rfl
theorem kw_348 : Cond.methodLink RX8 33 yX8_addOrSubtract ∈ lw_all := kt_2 (List.mem_of_getElem? (i := 190) (by decide +kernel)) rfl
theorem kw_349 : Cond.instanceMethod yX8_addOrSubtract ∈ lw_all := kt_2 (List.mem_of_getElem? (i := 192) (by decide +kernel)) rfl
theorem kw_350 : Cond.selects RX8 yX8_addOrSubtract yX8_addOrSubtract ∈ lw_all := ks_1 (q := (⟨"TwoSetMachine$ThumbSet", "addOrSubtract", "(I)I"⟩, 4)) (List.mem_of_getElem? (i := 2) rfl)
theorem kw_351 : Cond.code yX8_addOrSubtract cX8_addOrSubtract 5 (some .int) ∈ lw_all := kt_2 (List.mem_of_getElem? (i := 193) rfl) rfl
theorem kw_352 : Cond.methodLink RX8 80 yX2_three ∈ lw_all := kt_2 (List.mem_of_getElem? (i := 194) (by decide +kernel)) rfl
theorem kw_353 : Cond.static yX2_three ∈ lw_all := kt_2 (List.mem_of_getElem? (i := 195) (by decide +kernel)) rfl
theorem kw_354 : Cond.code yX2_three cX2_three 2 (some .int) ∈ lw_all := kt_2 (List.mem_of_getElem? (i := 196) rfl) rfl
theorem kw_355 : Cond.methodLink RX8 43 yX2_on ∈ lw_all := kt_2 (List.mem_of_getElem? (i := 197) (by decide +kernel)) rfl
theorem kw_356 : Cond.static yX2_on ∈ lw_all := kt_2 (List.mem_of_getElem? (i := 198) (by decide +kernel)) rfl
theorem kw_357 : Cond.code yX2_on cX2_on 2 (some .boolean) ∈ lw_all := kt_2 (List.mem_of_getElem? (i := 199) rfl) rfl
theorem kw_358 : Cond.methodLink RX8 83 yX6_read ∈ lw_all := kt_2 (List.mem_of_getElem? (i := 200) (by decide +kernel)) rfl
theorem kw_359 : Cond.instanceMethod yX6_read ∈ lw_all := kt_2 (List.mem_of_getElem? (i := 201) (by decide +kernel)) rfl
theorem kw_360 : Cond.selects RX6 yX6_read yX6_read ∈ lw_all := kt_2 (List.mem_of_getElem? (i := 202) (by decide +kernel)) rfl
theorem kw_361 : Cond.code yX6_read cX6_read 2 (some .int) ∈ lw_all := kt_2 (List.mem_of_getElem? (i := 203) rfl) rfl
theorem kw_362 : Cond.methodLink RX8 120 yX0_apply ∈ lw_all := kt_2 (List.mem_of_getElem? (i := 204) (by decide +kernel)) rfl
theorem kw_363 : Cond.instanceMethod yX0_apply ∈ lw_all := kt_2 (List.mem_of_getElem? (i := 205) (by decide +kernel)) rfl
theorem kw_364 : Cond.selects RX0 yX0_apply yX0_apply ∈ lw_all := kt_2 (List.mem_of_getElem? (i := 206) (by decide +kernel)) rfl
theorem kw_365 : Cond.code yX0_apply cX0_apply 6 none ∈ lw_all := kt_2 (List.mem_of_getElem? (i := 207) rfl) rfl
theorem kw_366 : Cond.methodLink RX0 25 yX6_carry ∈ lw_all := kt_2 (List.mem_of_getElem? (i := 208) (by decide +kernel)) rfl
theorem kw_367 : Cond.instanceMethod yX6_carry ∈ lw_all := kt_2 (List.mem_of_getElem? (i := 209) (by decide +kernel)) rfl
theorem kw_368 : Cond.selects RX6 yX6_carry yX6_carry ∈ lw_all := kt_2 (List.mem_of_getElem? (i := 210) (by decide +kernel)) rfl
theorem kw_369 : Cond.code yX6_carry cX6_carry 1 (some .int) ∈ lw_all := kt_2 (List.mem_of_getElem? (i := 211) rfl) rfl
theorem kw_370 : Cond.methodLink RX0 31 yX0_compute ∈ lw_all := kt_2 (List.mem_of_getElem? (i := 212) (by decide +kernel)) rfl
theorem kw_371 : Cond.instanceMethod yX0_compute ∈ lw_all := kt_2 (List.mem_of_getElem? (i := 213) (by decide +kernel)) rfl
theorem kw_372 : Cond.selects RX0 yX0_compute yX0_compute ∈ lw_all := kt_2 (List.mem_of_getElem? (i := 214) (by decide +kernel)) rfl
theorem kw_373 : Cond.code yX0_compute cX0_compute 5 (some .int) ∈ lw_all := kt_2 (List.mem_of_getElem? (i := 215) rfl) rfl
theorem kw_374 : Cond.methodLink RX0 17 yX0_logic ∈ lw_all := kt_2 (List.mem_of_getElem? (i := 216) (by decide +kernel)) rfl
theorem kw_375 : Cond.instanceMethod yX0_logic ∈ lw_all := kt_2 (List.mem_of_getElem? (i := 218) (by decide +kernel)) rfl
theorem kw_376 : Cond.selects RX0 yX0_logic yX0_logic ∈ lw_all := ks_1 (q := (⟨"TwoSetMachine$Alu", "logic", "(II)I"⟩, 2)) (List.mem_of_getElem? (i := 3) rfl)
theorem kw_377 : Cond.code yX0_logic cX0_logic 3 (some .int) ∈ lw_all := kt_2 (List.mem_of_getElem? (i := 219) rfl) rfl
theorem kw_378 : Cond.methodLink RX0 47 yX6_overflow ∈ lw_all := kt_2 (List.mem_of_getElem? (i := 220) (by decide +kernel)) rfl
theorem kw_379 : Cond.instanceMethod yX6_overflow ∈ lw_all := kt_2 (List.mem_of_getElem? (i := 221) (by decide +kernel)) rfl
theorem kw_380 : Cond.selects RX6 yX6_overflow yX6_overflow ∈ lw_all := kt_2 (List.mem_of_getElem? (i := 222) (by decide +kernel)) rfl
theorem kw_381 : Cond.code yX6_overflow cX6_overflow 1 (some .int) ∈ lw_all := kt_2 (List.mem_of_getElem? (i := 223) rfl) rfl
theorem kw_382 : Cond.methodLink RX0 50 yX0_keep ∈ lw_all := kt_2 (List.mem_of_getElem? (i := 224) (by decide +kernel)) rfl
theorem kw_383 : Cond.instanceMethod yX0_keep ∈ lw_all := kt_2 (List.mem_of_getElem? (i := 226) (by decide +kernel)) rfl
theorem kw_384 : Cond.selects RX0 yX0_keep yX0_keep ∈ lw_all := ks_1 (q := (⟨"TwoSetMachine$Alu", "keep", "(ZZII)V"⟩, 2)) (List.mem_of_getElem? (i := 4) rfl)
theorem kw_385 : Cond.code yX0_keep cX0_keep 5 none ∈ lw_all := kt_2 (List.mem_of_getElem? (i := 227) rfl) rfl
theorem kw_386 : Cond.constant RX0 56 (-2147483648) ∈ lw_all := kt_2 (List.mem_of_getElem? (i := 228) (by decide +kernel)) rfl
theorem kw_387 : Cond.constant RX0 57 (1073741824) ∈ lw_all := kt_2 (List.mem_of_getElem? (i := 229) (by decide +kernel)) rfl
theorem kw_388 : Cond.methodLink RX0 21 yX0_sum ∈ lw_all := kt_2 (List.mem_of_getElem? (i := 230) (by decide +kernel)) rfl
theorem kw_389 : Cond.instanceMethod yX0_sum ∈ lw_all := kt_2 (List.mem_of_getElem? (i := 232) (by decide +kernel)) rfl
theorem kw_390 : Cond.selects RX0 yX0_sum yX0_sum ∈ lw_all := ks_1 (q := (⟨"TwoSetMachine$Alu", "sum", "(III)I"⟩, 2)) (List.mem_of_getElem? (i := 5) rfl)
theorem kw_391 : Cond.code yX0_sum cX0_sum 8 (some .int) ∈ lw_all := kt_2 (List.mem_of_getElem? (i := 233) rfl) rfl
theorem kw_392 : Cond.constantLong RX0 54 (4294967295) ∈ lw_all := kt_2 (List.mem_of_getElem? (i := 234) (by decide +kernel)) rfl
theorem kw_393 : Cond.methodLink RX0 35 yX6_changeFlags ∈ lw_all := kt_2 (List.mem_of_getElem? (i := 235) (by decide +kernel)) rfl
theorem kw_394 : Cond.instanceMethod yX6_changeFlags ∈ lw_all := kt_2 (List.mem_of_getElem? (i := 236) (by decide +kernel)) rfl
theorem kw_395 : Cond.selects RX6 yX6_changeFlags yX6_changeFlags ∈ lw_all := kt_2 (List.mem_of_getElem? (i := 237) (by decide +kernel)) rfl
theorem kw_396 : Cond.code yX6_changeFlags cX6_changeFlags 2 none ∈ lw_all := kt_2 (List.mem_of_getElem? (i := 238) rfl) rfl
theorem kw_397 : Cond.constant RX6 56 (-268435456) ∈ lw_all := kt_2 (List.mem_of_getElem? (i := 239) (by decide +kernel)) rfl
theorem kw_398 : Cond.constant RX6 65 (268435455) ∈ lw_all := kt_3 (List.mem_of_getElem? (i := 0) (by decide +kernel)) rfl
theorem kw_399 : Cond.methodLink RX0 39 yX0_isTest ∈ lw_all := kt_3 (List.mem_of_getElem? (i := 1) (by decide +kernel)) rfl
theorem kw_400 : Cond.static yX0_isTest ∈ lw_all := kt_3 (List.mem_of_getElem? (i := 2) (by decide +kernel)) rfl
theorem kw_401 : Cond.code yX0_isTest cX0_isTest 1 (some .boolean) ∈ lw_all := kt_3 (List.mem_of_getElem? (i := 3) rfl) rfl
theorem kw_402 : Cond.methodLink RX0 43 yX6_write ∈ lw_all := kt_3 (List.mem_of_getElem? (i := 4) (by decide +kernel)) rfl
theorem kw_403 : Cond.instanceMethod yX6_write ∈ lw_all := kt_3 (List.mem_of_getElem? (i := 5) (by decide +kernel)) rfl
theorem kw_404 : Cond.selects RX6 yX6_write yX6_write ∈ lw_all := kt_3 (List.mem_of_getElem? (i := 6) (by decide +kernel)) rfl
theorem kw_405 : Cond.code yX6_write cX6_write 3 none ∈ lw_all := kt_3 (List.mem_of_getElem? (i := 7) rfl) rfl
theorem kw_406 : Cond.methodLink RX6 39 yX6_jump ∈ lw_all := kt_3 (List.mem_of_getElem? (i := 8) (by decide +kernel)) rfl
theorem kw_407 : Cond.methodLink RX6 43 yX6_hold ∈ lw_all := kt_3 (List.mem_of_getElem? (i := 9) (by decide +kernel)) rfl
theorem kw_408 : Cond.methodLink RX8 37 yX8_shiftByNumber ∈ lw_all := kt_3 (List.mem_of_getElem? (i := 10) (by decide +kernel)) rfl
theorem kw_409 : Cond.instanceMethod yX8_shiftByNumber ∈ lw_all := kt_3 (List.mem_of_getElem? (i := 12) (by decide +kernel)) rfl
theorem kw_410 : Cond.selects RX8 yX8_shiftByNumber yX8_shiftByNumber ∈ lw_all := ks_1 (q := (⟨"TwoSetMachine$ThumbSet", "shiftByNumber", "(I)I"⟩, 4)) (List.mem_of_getElem? (i := 6) rfl)
theorem kw_411 : Cond.code yX8_shiftByNumber cX8_shiftByNumber 5 (some .int) ∈ lw_all := kt_3 (List.mem_of_getElem? (i := 13) rfl) rfl
theorem kw_412 : Cond.methodLink RX8 88 yX2_five ∈ lw_all := kt_3 (List.mem_of_getElem? (i := 14) (by decide +kernel)) rfl
theorem kw_413 : Cond.static yX2_five ∈ lw_all := kt_3 (List.mem_of_getElem? (i := 15) (by decide +kernel)) rfl
theorem kw_414 : Cond.code yX2_five cX2_five 2 (some .int) ∈ lw_all := kt_3 (List.mem_of_getElem? (i := 16) rfl) rfl
theorem kw_415 : Cond.methodLink RX8 91 yX6_carry ∈ lw_all := kt_3 (List.mem_of_getElem? (i := 17) (by decide +kernel)) rfl
theorem kw_416 : Cond.methodLink RX8 95 yX7_shiftByNumber ∈ lw_all := kt_3 (List.mem_of_getElem? (i := 18) (by decide +kernel)) rfl
theorem kw_417 : Cond.instanceMethod yX7_shiftByNumber ∈ lw_all := kt_3 (List.mem_of_getElem? (i := 19) (by decide +kernel)) rfl
theorem kw_418 : Cond.selects RX7 yX7_shiftByNumber yX7_shiftByNumber ∈ lw_all := kt_3 (List.mem_of_getElem? (i := 20) (by decide +kernel)) rfl
theorem kw_419 : Cond.code yX7_shiftByNumber cX7_shiftByNumber 5 (some .int) ∈ lw_all := kt_3 (List.mem_of_getElem? (i := 21) rfl) rfl
theorem kw_420 : Cond.methodLink RX7 17 yX7_shift ∈ lw_all := kt_3 (List.mem_of_getElem? (i := 22) (by decide +kernel)) rfl
theorem kw_421 : Cond.instanceMethod yX7_shift ∈ lw_all := kt_3 (List.mem_of_getElem? (i := 23) (by decide +kernel)) rfl
theorem kw_422 : Cond.selects RX7 yX7_shift yX7_shift ∈ lw_all := kt_3 (List.mem_of_getElem? (i := 24) (by decide +kernel)) rfl
theorem kw_423 : Cond.code yX7_shift cX7_shift 6 (some .int) ∈ lw_all := kt_3 (List.mem_of_getElem? (i := 25) rfl) rfl
theorem kw_424 : Cond.methodLink RX7 13 yX7_turnRight ∈ lw_all := kt_3 (List.mem_of_getElem? (i := 26) (by decide +kernel)) rfl
theorem kw_425 : Cond.static yX7_turnRight ∈ lw_all := kt_3 (List.mem_of_getElem? (i := 27) (by decide +kernel)) rfl
theorem kw_426 : Cond.code yX7_turnRight cX7_turnRight 2 (some .int) ∈ lw_all := kt_3 (List.mem_of_getElem? (i := 28) rfl) rfl
theorem kw_427 : Cond.methodLink RX8 100 yX8_keepShifted ∈ lw_all := kt_3 (List.mem_of_getElem? (i := 29) (by decide +kernel)) rfl
theorem kw_428 : Cond.instanceMethod yX8_keepShifted ∈ lw_all := kt_3 (List.mem_of_getElem? (i := 31) (by decide +kernel)) rfl
theorem kw_429 : Cond.selects RX8 yX8_keepShifted yX8_keepShifted ∈ lw_all := ks_1 (q := (⟨"TwoSetMachine$ThumbSet", "keepShifted", "(II)I"⟩, 4)) (List.mem_of_getElem? (i := 7) rfl)
theorem kw_430 : Cond.code yX8_keepShifted cX8_keepShifted 3 (some .int) ∈ lw_all := kt_3 (List.mem_of_getElem? (i := 32) rfl) rfl
theorem kw_431 : Cond.methodLink RX8 105 yX7_carry ∈ lw_all := kt_3 (List.mem_of_getElem? (i := 33) (by decide +kernel)) rfl
theorem kw_432 : Cond.instanceMethod yX7_carry ∈ lw_all := kt_3 (List.mem_of_getElem? (i := 34) (by decide +kernel)) rfl
theorem kw_433 : Cond.selects RX7 yX7_carry yX7_carry ∈ lw_all := kt_3 (List.mem_of_getElem? (i := 35) (by decide +kernel)) rfl
theorem kw_434 : Cond.code yX7_carry cX7_carry 1 (some .int) ∈ lw_all := kt_3 (List.mem_of_getElem? (i := 36) rfl) rfl
theorem kw_435 : Cond.methodLink RX8 106 yX0_compute ∈ lw_all := kt_3 (List.mem_of_getElem? (i := 37) (by decide +kernel)) rfl
theorem kw_436 : Cond.methodLink RX8 109 yX0_flags ∈ lw_all := kt_3 (List.mem_of_getElem? (i := 38) (by decide +kernel)) rfl
theorem kw_437 : Cond.instanceMethod yX0_flags ∈ lw_all := kt_3 (List.mem_of_getElem? (i := 39) (by decide +kernel)) rfl
theorem kw_438 : Cond.selects RX0 yX0_flags yX0_flags ∈ lw_all := kt_3 (List.mem_of_getElem? (i := 40) (by decide +kernel)) rfl
theorem kw_439 : Cond.code yX0_flags cX0_flags 1 (some .int) ∈ lw_all := kt_3 (List.mem_of_getElem? (i := 41) rfl) rfl
theorem kw_440 : Cond.methodLink RX8 112 yX6_changeFlags ∈ lw_all := kt_3 (List.mem_of_getElem? (i := 42) (by decide +kernel)) rfl
theorem kw_441 : Cond.methodLink RX8 116 yX6_write ∈ lw_all := kt_3 (List.mem_of_getElem? (i := 43) (by decide +kernel)) rfl
theorem kw_442 : Cond.methodLink RX8 40 yX8_withNumber ∈ lw_all := kt_3 (List.mem_of_getElem? (i := 44) (by decide +kernel)) rfl
theorem kw_443 : Cond.instanceMethod yX8_withNumber ∈ lw_all := kt_3 (List.mem_of_getElem? (i := 46) (by decide +kernel)) rfl
theorem kw_444 : Cond.selects RX8 yX8_withNumber yX8_withNumber ∈ lw_all := ks_1 (q := (⟨"TwoSetMachine$ThumbSet", "withNumber", "(I)I"⟩, 4)) (List.mem_of_getElem? (i := 8) rfl)
theorem kw_445 : Cond.code yX8_withNumber cX8_withNumber 6 (some .int) ∈ lw_all := kt_3 (List.mem_of_getElem? (i := 47) rfl) rfl
theorem kw_446 : Cond.methodLink RX8 47 yX8_loadBesidePc ∈ lw_all := kt_3 (List.mem_of_getElem? (i := 48) (by decide +kernel)) rfl
theorem kw_447 : Cond.instanceMethod yX8_loadBesidePc ∈ lw_all := kt_3 (List.mem_of_getElem? (i := 50) (by decide +kernel)) rfl
theorem kw_448 : Cond.selects RX8 yX8_loadBesidePc yX8_loadBesidePc ∈ lw_all := ks_1 (q := (⟨"TwoSetMachine$ThumbSet", "loadBesidePc", "(I)I"⟩, 4)) (List.mem_of_getElem? (i := 9) rfl)
theorem kw_449 : Cond.code yX8_loadBesidePc cX8_loadBesidePc 3 (some .int) ∈ lw_all := kt_3 (List.mem_of_getElem? (i := 51) rfl) rfl
theorem kw_450 : Cond.methodLink RX8 136 yX8_wordOfPc ∈ lw_all := kt_3 (List.mem_of_getElem? (i := 52) (by decide +kernel)) rfl
theorem kw_451 : Cond.instanceMethod yX8_wordOfPc ∈ lw_all := kt_3 (List.mem_of_getElem? (i := 54) (by decide +kernel)) rfl
theorem kw_452 : Cond.selects RX8 yX8_wordOfPc yX8_wordOfPc ∈ lw_all := ks_1 (q := (⟨"TwoSetMachine$ThumbSet", "wordOfPc", "()I"⟩, 4)) (List.mem_of_getElem? (i := 10) rfl)
theorem kw_453 : Cond.code yX8_wordOfPc cX8_wordOfPc 1 (some .int) ∈ lw_all := kt_3 (List.mem_of_getElem? (i := 55) rfl) rfl
theorem kw_454 : Cond.methodLink RX8 141 yX9_plain ∈ lw_all := kt_3 (List.mem_of_getElem? (i := 56) (by decide +kernel)) rfl
theorem kw_455 : Cond.instanceMethod yX9_plain ∈ lw_all := kt_3 (List.mem_of_getElem? (i := 57) (by decide +kernel)) rfl
theorem kw_456 : Cond.selects RX9 yX9_plain yX9_plain ∈ lw_all := kt_3 (List.mem_of_getElem? (i := 58) (by decide +kernel)) rfl
theorem kw_457 : Cond.code yX9_plain cX9_plain 5 (some .int) ∈ lw_all := kt_3 (List.mem_of_getElem? (i := 59) rfl) rfl
theorem kw_458 : Cond.methodLink RX9 35 yX4_holds ∈ lw_all := kt_3 (List.mem_of_getElem? (i := 60) (by decide +kernel)) rfl
theorem kw_459 : Cond.methodLink RX9 43 yX4_load ∈ lw_all := kt_3 (List.mem_of_getElem? (i := 61) (by decide +kernel)) rfl
theorem kw_460 : Cond.instanceMethod yX4_load ∈ lw_all := kt_3 (List.mem_of_getElem? (i := 62) (by decide +kernel)) rfl
theorem kw_461 : Cond.selects RX4 yX4_load yX4_load ∈ lw_all := kt_3 (List.mem_of_getElem? (i := 63) (by decide +kernel)) rfl
theorem kw_462 : Cond.code yX4_load cX4_load 6 (some .int) ∈ lw_all := kt_3 (List.mem_of_getElem? (i := 64) rfl) rfl
theorem kw_463 : Cond.methodLink RX4 21 yX7_turnRight ∈ lw_all := kt_3 (List.mem_of_getElem? (i := 65) (by decide +kernel)) rfl
theorem kw_464 : Cond.methodLink RX9 49 yX6_write ∈ lw_all := kt_3 (List.mem_of_getElem? (i := 66) (by decide +kernel)) rfl
theorem kw_465 : Cond.methodLink RX9 25 yX6_read ∈ lw_all := kt_3 (List.mem_of_getElem? (i := 67) (by decide +kernel)) rfl
theorem kw_466 : Cond.methodLink RX9 53 yX4_store ∈ lw_all := kt_3 (List.mem_of_getElem? (i := 68) (by decide +kernel)) rfl
theorem kw_467 : Cond.instanceMethod yX4_store ∈ lw_all := kt_3 (List.mem_of_getElem? (i := 69) (by decide +kernel)) rfl
theorem kw_468 : Cond.selects RX4 yX4_store yX4_store ∈ lw_all := kt_3 (List.mem_of_getElem? (i := 70) (by decide +kernel)) rfl
theorem kw_469 : Cond.code yX4_store cX4_store 6 none ∈ lw_all := kt_3 (List.mem_of_getElem? (i := 71) rfl) rfl
theorem kw_470 : Cond.methodLink RX4 27 yX4_putWord ∈ lw_all := kt_3 (List.mem_of_getElem? (i := 72) (by decide +kernel)) rfl
theorem kw_471 : Cond.methodLink RX8 50 yX8_ofAllRegisters ∈ lw_all := kt_3 (List.mem_of_getElem? (i := 73) (by decide +kernel)) rfl
theorem kw_472 : Cond.instanceMethod yX8_ofAllRegisters ∈ lw_all := kt_3 (List.mem_of_getElem? (i := 75) (by decide +kernel)) rfl
theorem kw_473 : Cond.selects RX8 yX8_ofAllRegisters yX8_ofAllRegisters ∈ lw_all := ks_1 (q := (⟨"TwoSetMachine$ThumbSet", "ofAllRegisters", "(I)I"⟩, 4)) (List.mem_of_getElem? (i := 11) rfl)
theorem kw_474 : Cond.code yX8_ofAllRegisters cX8_ofAllRegisters 4 (some .int) ∈ lw_all := kt_3 (List.mem_of_getElem? (i := 76) rfl) rfl
theorem kw_475 : Cond.methodLink RX8 133 yX6_jumpAndChangeSet ∈ lw_all := kt_3 (List.mem_of_getElem? (i := 77) (by decide +kernel)) rfl
theorem kw_476 : Cond.instanceMethod yX6_jumpAndChangeSet ∈ lw_all := kt_3 (List.mem_of_getElem? (i := 78) (by decide +kernel)) rfl
theorem kw_477 : Cond.selects RX6 yX6_jumpAndChangeSet yX6_jumpAndChangeSet ∈ lw_all := kt_3 (List.mem_of_getElem? (i := 79) (by decide +kernel)) rfl
theorem kw_478 : Cond.code yX6_jumpAndChangeSet cX6_jumpAndChangeSet 2 none ∈ lw_all := kt_3 (List.mem_of_getElem? (i := 80) rfl) rfl
theorem kw_479 : Cond.methodLink RX8 53 yX8_ofTwoRegisters ∈ lw_all := kt_3 (List.mem_of_getElem? (i := 81) (by decide +kernel)) rfl
theorem kw_480 : Cond.instanceMethod yX8_ofTwoRegisters ∈ lw_all := kt_3 (List.mem_of_getElem? (i := 83) (by decide +kernel)) rfl
theorem kw_481 : Cond.selects RX8 yX8_ofTwoRegisters yX8_ofTwoRegisters ∈ lw_all := ks_1 (q := (⟨"TwoSetMachine$ThumbSet", "ofTwoRegisters", "(I)I"⟩, 4)) (List.mem_of_getElem? (i := 12) rfl)
theorem kw_482 : Cond.code yX8_ofTwoRegisters cX8_ofTwoRegisters 6 (some .int) ∈ lw_all := kt_3 (List.mem_of_getElem? (i := 84) rfl) rfl
theorem kw_483 : Cond.methodLink RX8 124 yX7_shift ∈ lw_all := kt_3 (List.mem_of_getElem? (i := 85) (by decide +kernel)) rfl
theorem kw_484 : Cond.methodLink RX8 127 yX0_flagsOfProduct ∈ lw_all := kt_3 (List.mem_of_getElem? (i := 86) (by decide +kernel)) rfl
theorem kw_485 : Cond.instanceMethod yX0_flagsOfProduct ∈ lw_all := kt_3 (List.mem_of_getElem? (i := 87) (by decide +kernel)) rfl
theorem kw_486 : Cond.selects RX0 yX0_flagsOfProduct yX0_flagsOfProduct ∈ lw_all := kt_3 (List.mem_of_getElem? (i := 88) (by decide +kernel)) rfl
theorem kw_487 : Cond.code yX0_flagsOfProduct cX0_flagsOfProduct 3 none ∈ lw_all := kt_3 (List.mem_of_getElem? (i := 89) rfl) rfl
theorem kw_488 : Cond.methodLink RX8 56 yX8_byRegisterOffset ∈ lw_all := kt_3 (List.mem_of_getElem? (i := 90) (by decide +kernel)) rfl
theorem kw_489 : Cond.instanceMethod yX8_byRegisterOffset ∈ lw_all := kt_3 (List.mem_of_getElem? (i := 92) (by decide +kernel)) rfl
theorem kw_490 : Cond.selects RX8 yX8_byRegisterOffset yX8_byRegisterOffset ∈ lw_all := ks_1 (q := (⟨"TwoSetMachine$ThumbSet", "byRegisterOffset", "(I)I"⟩, 4)) (List.mem_of_getElem? (i := 13) rfl)
theorem kw_491 : Cond.code yX8_byRegisterOffset cX8_byRegisterOffset 4 (some .int) ∈ lw_all := kt_3 (List.mem_of_getElem? (i := 93) rfl) rfl
theorem kw_492 : Cond.fieldLink RX8 147 "TwoSetMachine$ThumbSet" "KINDS_BY_REGISTER" "[I" ∈ lw_all := kt_3 (List.mem_of_getElem? (i := 94) (by decide +kernel)) rfl
theorem kw_493 : Cond.methodLink RX8 59 yX8_byNumberOffset ∈ lw_all := kt_3 (List.mem_of_getElem? (i := 96) (by decide +kernel)) rfl
theorem kw_494 : Cond.instanceMethod yX8_byNumberOffset ∈ lw_all := kt_3 (List.mem_of_getElem? (i := 98) (by decide +kernel)) rfl
theorem kw_495 : Cond.selects RX8 yX8_byNumberOffset yX8_byNumberOffset ∈ lw_all := ks_1 (q := (⟨"TwoSetMachine$ThumbSet", "byNumberOffset", "(I)I"⟩, 4)) (List.mem_of_getElem? (i := 14) rfl)
theorem kw_496 : Cond.code yX8_byNumberOffset cX8_byNumberOffset 6 (some .int) ∈ lw_all := kt_3 (List.mem_of_getElem? (i := 99) rfl) rfl
theorem kw_497 : Cond.methodLink RX8 62 yX8_besideSp ∈ lw_all := kt_3 (List.mem_of_getElem? (i := 100) (by decide +kernel)) rfl
theorem kw_498 : Cond.instanceMethod yX8_besideSp ∈ lw_all := kt_3 (List.mem_of_getElem? (i := 102) (by decide +kernel)) rfl
theorem kw_499 : Cond.selects RX8 yX8_besideSp yX8_besideSp ∈ lw_all := ks_1 (q := (⟨"TwoSetMachine$ThumbSet", "besideSp", "(I)I"⟩, 4)) (List.mem_of_getElem? (i := 15) rfl)
theorem kw_500 : Cond.code yX8_besideSp cX8_besideSp 3 (some .int) ∈ lw_all := kt_3 (List.mem_of_getElem? (i := 103) rfl) rfl
theorem kw_501 : Cond.methodLink RX8 65 yX8_addressOf ∈ lw_all := kt_3 (List.mem_of_getElem? (i := 104) (by decide +kernel)) rfl
theorem kw_502 : Cond.instanceMethod yX8_addressOf ∈ lw_all := kt_3 (List.mem_of_getElem? (i := 106) (by decide +kernel)) rfl
theorem kw_503 : Cond.selects RX8 yX8_addressOf yX8_addressOf ∈ lw_all := ks_2 (q := (⟨"TwoSetMachine$ThumbSet", "addressOf", "(I)I"⟩, 4)) (List.mem_of_getElem? (i := 0) rfl)
theorem kw_504 : Cond.code yX8_addressOf cX8_addressOf 3 (some .int) ∈ lw_all := kt_3 (List.mem_of_getElem? (i := 107) rfl) rfl
theorem kw_505 : Cond.methodLink RX8 68 yX8_stack ∈ lw_all := kt_3 (List.mem_of_getElem? (i := 108) (by decide +kernel)) rfl
theorem kw_506 : Cond.instanceMethod yX8_stack ∈ lw_all := kt_3 (List.mem_of_getElem? (i := 110) (by decide +kernel)) rfl
theorem kw_507 : Cond.selects RX8 yX8_stack yX8_stack ∈ lw_all := ks_2 (q := (⟨"TwoSetMachine$ThumbSet", "stack", "(I)I"⟩, 4)) (List.mem_of_getElem? (i := 1) rfl)
theorem kw_508 : Cond.code yX8_stack cX8_stack 4 (some .int) ∈ lw_all := kt_3 (List.mem_of_getElem? (i := 111) rfl) rfl
theorem kw_509 : Cond.constant RX8 151 (153944064) ∈ lw_all := kt_3 (List.mem_of_getElem? (i := 112) (by decide +kernel)) rfl
theorem kw_510 : Cond.constant RX8 153 (146604032) ∈ lw_all := kt_3 (List.mem_of_getElem? (i := 151) (by decide +kernel)) rfl
theorem kw_511 : Cond.constant RX8 154 (32768) ∈ lw_all := kt_3 (List.mem_of_getElem? (i := 152) (by decide +kernel)) rfl
theorem kw_512 : Cond.methodLink RX8 152 yX9_many ∈ lw_all := kt_3 (List.mem_of_getElem? (i := 113) (by decide +kernel)) rfl
theorem kw_513 : Cond.instanceMethod yX9_many ∈ lw_all := kt_3 (List.mem_of_getElem? (i := 114) (by decide +kernel)) rfl
theorem kw_514 : Cond.selects RX9 yX9_many yX9_many ∈ lw_all := kt_3 (List.mem_of_getElem? (i := 115) (by decide +kernel)) rfl
theorem kw_515 : Cond.code yX9_many cX9_many 8 (some .int) ∈ lw_all := kt_3 (List.mem_of_getElem? (i := 116) rfl) rfl
theorem kw_516 : Cond.constant RX9 57 (65535) ∈ lw_all := kt_3 (List.mem_of_getElem? (i := 117) (by decide +kernel)) rfl
theorem kw_517 : Cond.methodLink RX9 19 yX2_four ∈ lw_all := kt_3 (List.mem_of_getElem? (i := 118) (by decide +kernel)) rfl
theorem kw_518 : Cond.methodLink RX9 58 yJ6_bitCount_0f7a4 ∈ lw_all := kt_3 (List.mem_of_getElem? (i := 119) (by decide +kernel)) rfl
theorem kw_519 : Cond.static yJ6_bitCount_0f7a4 ∈ lw_all := kt_3 (List.mem_of_getElem? (i := 120) (by decide +kernel)) rfl
theorem kw_520 : Cond.initialized RJ6 ∈ lw_all := kt_1 (List.mem_of_getElem? (i := 17) (by decide +kernel)) rfl
theorem kw_521 : Cond.code yJ6_bitCount_0f7a4 cJ6_bitCount_0f7a4 1 (some .int) ∈ lw_all := kt_3 (List.mem_of_getElem? (i := 121) rfl) rfl
theorem kw_522 : Cond.constant RJ6 265 (1431655765) ∈ lw_all := kt_3 (List.mem_of_getElem? (i := 122) (by decide +kernel)) rfl
theorem kw_523 : Cond.constant RJ6 266 (858993459) ∈ lw_all := kt_3 (List.mem_of_getElem? (i := 123) (by decide +kernel)) rfl
theorem kw_524 : Cond.constant RJ6 267 (252645135) ∈ lw_all := kt_3 (List.mem_of_getElem? (i := 124) (by decide +kernel)) rfl
theorem kw_525 : Cond.methodLink RX9 31 yX2_on ∈ lw_all := kt_3 (List.mem_of_getElem? (i := 125) (by decide +kernel)) rfl
theorem kw_526 : Cond.methodLink RX9 63 yX9_loadMany ∈ lw_all := kt_3 (List.mem_of_getElem? (i := 126) (by decide +kernel)) rfl
theorem kw_527 : Cond.instanceMethod yX9_loadMany ∈ lw_all := kt_3 (List.mem_of_getElem? (i := 128) (by decide +kernel)) rfl
theorem kw_528 : Cond.selects RX9 yX9_loadMany yX9_loadMany ∈ lw_all := ks_2 (q := (⟨"TwoSetMachine$Transfers", "loadMany", "(IIII)I"⟩, 2)) (List.mem_of_getElem? (i := 2) rfl)
theorem kw_529 : Cond.code yX9_loadMany cX9_loadMany 11 (some .int) ∈ lw_all := kt_3 (List.mem_of_getElem? (i := 129) rfl) rfl
theorem kw_530 : Cond.methodLink RX9 71 yX6_bank ∈ lw_all := kt_3 (List.mem_of_getElem? (i := 130) (by decide +kernel)) rfl
theorem kw_531 : Cond.instanceMethod yX6_bank ∈ lw_all := kt_3 (List.mem_of_getElem? (i := 131) (by decide +kernel)) rfl
theorem kw_532 : Cond.selects RX6 yX6_bank yX6_bank ∈ lw_all := kt_3 (List.mem_of_getElem? (i := 132) (by decide +kernel)) rfl
theorem kw_533 : Cond.code yX6_bank cX6_bank 1 (some .int) ∈ lw_all := kt_3 (List.mem_of_getElem? (i := 133) rfl) rfl
theorem kw_534 : Cond.methodLink RX9 81 yX6_hold ∈ lw_all := kt_3 (List.mem_of_getElem? (i := 134) (by decide +kernel)) rfl
theorem kw_535 : Cond.methodLink RX9 84 yX4_word ∈ lw_all := kt_3 (List.mem_of_getElem? (i := 135) (by decide +kernel)) rfl
theorem kw_536 : Cond.methodLink RX9 87 yX6_spsrOrCpsr ∈ lw_all := kt_3 (List.mem_of_getElem? (i := 136) (by decide +kernel)) rfl
theorem kw_537 : Cond.instanceMethod yX6_spsrOrCpsr ∈ lw_all := kt_3 (List.mem_of_getElem? (i := 137) (by decide +kernel)) rfl
theorem kw_538 : Cond.selects RX6 yX6_spsrOrCpsr yX6_spsrOrCpsr ∈ lw_all := kt_3 (List.mem_of_getElem? (i := 138) (by decide +kernel)) rfl
theorem kw_539 : Cond.code yX6_spsrOrCpsr cX6_spsrOrCpsr 1 (some .int) ∈ lw_all := kt_3 (List.mem_of_getElem? (i := 139) rfl) rfl
theorem kw_540 : Cond.methodLink RX9 90 yX6_changeCpsr ∈ lw_all := kt_3 (List.mem_of_getElem? (i := 140) (by decide +kernel)) rfl
theorem kw_541 : Cond.methodLink RX9 94 yX6_jump ∈ lw_all := kt_3 (List.mem_of_getElem? (i := 141) (by decide +kernel)) rfl
theorem kw_542 : Cond.methodLink RX9 67 yX9_storeMany ∈ lw_all := kt_3 (List.mem_of_getElem? (i := 142) (by decide +kernel)) rfl
theorem kw_543 : Cond.instanceMethod yX9_storeMany ∈ lw_all := kt_3 (List.mem_of_getElem? (i := 144) (by decide +kernel)) rfl
theorem kw_544 : Cond.selects RX9 yX9_storeMany yX9_storeMany ∈ lw_all := ks_2 (q := (⟨"TwoSetMachine$Transfers", "storeMany", "(III)I"⟩, 2)) (List.mem_of_getElem? (i := 3) rfl)
theorem kw_545 : Cond.code yX9_storeMany cX9_storeMany 7 (some .int) ∈ lw_all := kt_3 (List.mem_of_getElem? (i := 145) rfl) rfl
theorem kw_546 : Cond.methodLink RX9 75 yX6_readLateIn ∈ lw_all := kt_3 (List.mem_of_getElem? (i := 146) (by decide +kernel)) rfl
theorem kw_547 : Cond.instanceMethod yX6_readLateIn ∈ lw_all := kt_3 (List.mem_of_getElem? (i := 147) (by decide +kernel)) rfl
theorem kw_548 : Cond.selects RX6 yX6_readLateIn yX6_readLateIn ∈ lw_all := kt_3 (List.mem_of_getElem? (i := 148) (by decide +kernel)) rfl
theorem kw_549 : Cond.code yX6_readLateIn cX6_readLateIn 3 (some .int) ∈ lw_all := kt_3 (List.mem_of_getElem? (i := 149) rfl) rfl
theorem kw_550 : Cond.methodLink RX9 78 yX4_putWord ∈ lw_all := kt_3 (List.mem_of_getElem? (i := 150) (by decide +kernel)) rfl
theorem kw_551 : Cond.methodLink RX8 71 yX8_many ∈ lw_all := kt_3 (List.mem_of_getElem? (i := 153) (by decide +kernel)) rfl
theorem kw_552 : Cond.instanceMethod yX8_many ∈ lw_all := kt_3 (List.mem_of_getElem? (i := 155) (by decide +kernel)) rfl
theorem kw_553 : Cond.selects RX8 yX8_many yX8_many ∈ lw_all := ks_2 (q := (⟨"TwoSetMachine$ThumbSet", "many", "(I)I"⟩, 4)) (List.mem_of_getElem? (i := 4) rfl)
theorem kw_554 : Cond.code yX8_many cX8_many 3 (some .int) ∈ lw_all := kt_3 (List.mem_of_getElem? (i := 156) rfl) rfl
theorem kw_555 : Cond.constant RX8 155 (145752064) ∈ lw_all := kt_3 (List.mem_of_getElem? (i := 157) (by decide +kernel)) rfl
theorem kw_556 : Cond.constant RX8 156 (144703488) ∈ lw_all := kt_3 (List.mem_of_getElem? (i := 158) (by decide +kernel)) rfl
theorem kw_557 : Cond.methodLink RX8 74 yX8_branchByCondition ∈ lw_all := kt_3 (List.mem_of_getElem? (i := 159) (by decide +kernel)) rfl
theorem kw_558 : Cond.instanceMethod yX8_branchByCondition ∈ lw_all := kt_3 (List.mem_of_getElem? (i := 161) (by decide +kernel)) rfl
theorem kw_559 : Cond.selects RX8 yX8_branchByCondition yX8_branchByCondition ∈ lw_all := ks_2 (q := (⟨"TwoSetMachine$ThumbSet", "branchByCondition", "(I)I"⟩, 4)) (List.mem_of_getElem? (i := 5) rfl)
theorem kw_560 : Cond.code yX8_branchByCondition cX8_branchByCondition 3 (some .int) ∈ lw_all := kt_3 (List.mem_of_getElem? (i := 162) rfl) rfl
theorem kw_561 : Cond.methodLink RX8 157 yX6_fits ∈ lw_all := kt_3 (List.mem_of_getElem? (i := 163) (by decide +kernel)) rfl
theorem kw_562 : Cond.instanceMethod yX6_fits ∈ lw_all := kt_3 (List.mem_of_getElem? (i := 164) (by decide +kernel)) rfl
theorem kw_563 : Cond.selects RX6 yX6_fits yX6_fits ∈ lw_all := kt_3 (List.mem_of_getElem? (i := 165) (by decide +kernel)) rfl
theorem kw_564 : Cond.code yX6_fits cX6_fits 7 (some .boolean) ∈ lw_all := kt_3 (List.mem_of_getElem? (i := 166) rfl) rfl
theorem kw_565 : Cond.methodLink RX6 66 yX2_on ∈ lw_all := kt_3 (List.mem_of_getElem? (i := 167) (by decide +kernel)) rfl
theorem kw_566 : Cond.methodLink RX8 161 yX6_jump ∈ lw_all := kt_3 (List.mem_of_getElem? (i := 168) (by decide +kernel)) rfl
theorem kw_567 : Cond.methodLink RX8 77 yX8_branch ∈ lw_all := kt_3 (List.mem_of_getElem? (i := 169) (by decide +kernel)) rfl
theorem kw_568 : Cond.instanceMethod yX8_branch ∈ lw_all := kt_3 (List.mem_of_getElem? (i := 171) (by decide +kernel)) rfl
theorem kw_569 : Cond.selects RX8 yX8_branch yX8_branch ∈ lw_all := ks_2 (q := (⟨"TwoSetMachine$ThumbSet", "branch", "(I)I"⟩, 4)) (List.mem_of_getElem? (i := 6) rfl)
theorem kw_570 : Cond.code yX8_branch cX8_branch 4 (some .int) ∈ lw_all := kt_3 (List.mem_of_getElem? (i := 172) rfl) rfl
theorem kw_571 : Cond.methodLink RX8 164 yX6_behind ∈ lw_all := kt_3 (List.mem_of_getElem? (i := 173) (by decide +kernel)) rfl
theorem kw_572 : Cond.methodLink RX5 97 yX4_word ∈ lw_all := kt_3 (List.mem_of_getElem? (i := 174) (by decide +kernel)) rfl
theorem kw_573 : Cond.methodLink RX5 100 yX1_perform ∈ lw_all := kt_3 (List.mem_of_getElem? (i := 175) (by decide +kernel)) rfl
theorem kw_574 : Cond.instanceMethod yX1_perform ∈ lw_all := kt_3 (List.mem_of_getElem? (i := 176) (by decide +kernel)) rfl
theorem kw_575 : Cond.selects RX1 yX1_perform yX1_perform ∈ lw_all := kt_3 (List.mem_of_getElem? (i := 177) (by decide +kernel)) rfl
theorem kw_576 : Cond.code yX1_perform cX1_perform 3 (some .int) ∈ lw_all := kt_3 (List.mem_of_getElem? (i := 178) rfl) rfl
theorem kw_577 : Cond.constant RX1 41 (268435440) ∈ lw_all := kt_3 (List.mem_of_getElem? (i := 181) (by decide +kernel)) rfl
theorem kw_578 : Cond.constant RX1 42 (19922704) ∈ lw_all := kt_3 (List.mem_of_getElem? (i := 182) (by decide +kernel)) rfl
theorem kw_579 : Cond.constant RX1 54 (251658480) ∈ lw_all := kt_3 (List.mem_of_getElem? (i := 186) (by decide +kernel)) rfl
theorem kw_580 : Cond.constant RX1 58 (263196656) ∈ lw_all := kt_3 (List.mem_of_getElem? (i := 201) (by decide +kernel)) rfl
theorem kw_581 : Cond.constant RX1 59 (16777360) ∈ lw_all := kt_3 (List.mem_of_getElem? (i := 202) (by decide +kernel)) rfl
theorem kw_582 : Cond.constant RX1 66 (264179711) ∈ lw_all := kt_3 (List.mem_of_getElem? (i := 224) (by decide +kernel)) rfl
theorem kw_583 : Cond.constant RX1 67 (17760256) ∈ lw_all := kt_3 (List.mem_of_getElem? (i := 225) (by decide +kernel)) rfl
theorem kw_584 : Cond.constant RX1 71 (263258096) ∈ lw_all := kt_3 (List.mem_of_getElem? (i := 232) (by decide +kernel)) rfl
theorem kw_585 : Cond.constant RX1 72 (18935808) ∈ lw_all := kt_3 (List.mem_of_getElem? (i := 233) (by decide +kernel)) rfl
theorem kw_586 : Cond.constant RX1 79 (263254016) ∈ lw_all := kt_4 (List.mem_of_getElem? (i := 39) (by decide +kernel)) rfl
theorem kw_587 : Cond.constant RX1 80 (52490240) ∈ lw_all := kt_4 (List.mem_of_getElem? (i := 40) (by decide +kernel)) rfl
theorem kw_588 : Cond.methodLink RX1 29 yX6_fits ∈ lw_all := kt_3 (List.mem_of_getElem? (i := 179) (by decide +kernel)) rfl
theorem kw_589 : Cond.methodLink RX1 35 yX2_three ∈ lw_all := kt_3 (List.mem_of_getElem? (i := 180) (by decide +kernel)) rfl
theorem kw_590 : Cond.methodLink RX1 43 yX2_four ∈ lw_all := kt_3 (List.mem_of_getElem? (i := 183) (by decide +kernel)) rfl
theorem kw_591 : Cond.methodLink RX1 46 yX6_read ∈ lw_all := kt_3 (List.mem_of_getElem? (i := 184) (by decide +kernel)) rfl
theorem kw_592 : Cond.methodLink RX1 50 yX6_jumpAndChangeSet ∈ lw_all := kt_3 (List.mem_of_getElem? (i := 185) (by decide +kernel)) rfl
theorem kw_593 : Cond.methodLink RX1 55 yX1_multiply ∈ lw_all := kt_3 (List.mem_of_getElem? (i := 187) (by decide +kernel)) rfl
theorem kw_594 : Cond.instanceMethod yX1_multiply ∈ lw_all := kt_3 (List.mem_of_getElem? (i := 189) (by decide +kernel)) rfl
theorem kw_595 : Cond.selects RX1 yX1_multiply yX1_multiply ∈ lw_all := ks_2 (q := (⟨"TwoSetMachine$ArmSet", "multiply", "(I)I"⟩, 4)) (List.mem_of_getElem? (i := 7) rfl)
theorem kw_596 : Cond.code yX1_multiply cX1_multiply 12 (some .int) ∈ lw_all := kt_3 (List.mem_of_getElem? (i := 190) rfl) rfl
theorem kw_597 : Cond.methodLink RX1 97 yX2_on ∈ lw_all := kt_3 (List.mem_of_getElem? (i := 191) (by decide +kernel)) rfl
theorem kw_598 : Cond.methodLink RX1 101 yX1_longProduct ∈ lw_all := kt_3 (List.mem_of_getElem? (i := 192) (by decide +kernel)) rfl
theorem kw_599 : Cond.static yX1_longProduct ∈ lw_all := kt_3 (List.mem_of_getElem? (i := 193) (by decide +kernel)) rfl
theorem kw_600 : Cond.code yX1_longProduct cX1_longProduct 3 (some .long) ∈ lw_all := kt_3 (List.mem_of_getElem? (i := 194) rfl) rfl
theorem kw_601 : Cond.constantLong RX1 119 (4294967295) ∈ lw_all := kt_3 (List.mem_of_getElem? (i := 195) (by decide +kernel)) rfl
theorem kw_602 : Cond.methodLink RX1 105 yX1_pair ∈ lw_all := kt_3 (List.mem_of_getElem? (i := 196) (by decide +kernel)) rfl
theorem kw_603 : Cond.static yX1_pair ∈ lw_all := kt_3 (List.mem_of_getElem? (i := 197) (by decide +kernel)) rfl
theorem kw_604 : Cond.code yX1_pair cX1_pair 2 (some .long) ∈ lw_all := kt_3 (List.mem_of_getElem? (i := 198) rfl) rfl
theorem kw_605 : Cond.methodLink RX1 109 yX6_write ∈ lw_all := kt_3 (List.mem_of_getElem? (i := 199) (by decide +kernel)) rfl
theorem kw_606 : Cond.methodLink RX1 113 yX0_flagsOfProduct ∈ lw_all := kt_3 (List.mem_of_getElem? (i := 200) (by decide +kernel)) rfl
theorem kw_607 : Cond.methodLink RX1 60 yX1_swap ∈ lw_all := kt_3 (List.mem_of_getElem? (i := 203) (by decide +kernel)) rfl
theorem kw_608 : Cond.instanceMethod yX1_swap ∈ lw_all := kt_3 (List.mem_of_getElem? (i := 205) (by decide +kernel)) rfl
theorem kw_609 : Cond.selects RX1 yX1_swap yX1_swap ∈ lw_all := ks_2 (q := (⟨"TwoSetMachine$ArmSet", "swap", "(I)I"⟩, 4)) (List.mem_of_getElem? (i := 8) rfl)
theorem kw_610 : Cond.code yX1_swap cX1_swap 5 (some .int) ∈ lw_all := kt_3 (List.mem_of_getElem? (i := 206) rfl) rfl
theorem kw_611 : Cond.methodLink RX1 123 yX9_swap ∈ lw_all := kt_3 (List.mem_of_getElem? (i := 207) (by decide +kernel)) rfl
theorem kw_612 : Cond.instanceMethod yX9_swap ∈ lw_all := kt_3 (List.mem_of_getElem? (i := 208) (by decide +kernel)) rfl
theorem kw_613 : Cond.selects RX9 yX9_swap yX9_swap ∈ lw_all := kt_3 (List.mem_of_getElem? (i := 209) (by decide +kernel)) rfl
theorem kw_614 : Cond.code yX9_swap cX9_swap 7 (some .int) ∈ lw_all := kt_3 (List.mem_of_getElem? (i := 210) rfl) rfl
theorem kw_615 : Cond.methodLink RX1 63 yX1_halves ∈ lw_all := kt_3 (List.mem_of_getElem? (i := 211) (by decide +kernel)) rfl
theorem kw_616 : Cond.instanceMethod yX1_halves ∈ lw_all := kt_3 (List.mem_of_getElem? (i := 213) (by decide +kernel)) rfl
theorem kw_617 : Cond.selects RX1 yX1_halves yX1_halves ∈ lw_all := ks_2 (q := (⟨"TwoSetMachine$ArmSet", "halves", "(I)I"⟩, 4)) (List.mem_of_getElem? (i := 9) rfl)
theorem kw_618 : Cond.code yX1_halves cX1_halves 7 (some .int) ∈ lw_all := kt_3 (List.mem_of_getElem? (i := 214) rfl) rfl
theorem kw_619 : Cond.methodLink RX1 126 yX9_indexed ∈ lw_all := kt_3 (List.mem_of_getElem? (i := 215) (by decide +kernel)) rfl
theorem kw_620 : Cond.instanceMethod yX9_indexed ∈ lw_all := kt_3 (List.mem_of_getElem? (i := 216) (by decide +kernel)) rfl
theorem kw_621 : Cond.selects RX9 yX9_indexed yX9_indexed ∈ lw_all := kt_3 (List.mem_of_getElem? (i := 217) (by decide +kernel)) rfl
theorem kw_622 : Cond.code yX9_indexed cX9_indexed 12 (some .int) ∈ lw_all := kt_3 (List.mem_of_getElem? (i := 218) rfl) rfl
theorem kw_623 : Cond.methodLink RX9 46 yX6_readLate ∈ lw_all := kt_3 (List.mem_of_getElem? (i := 219) (by decide +kernel)) rfl
theorem kw_624 : Cond.instanceMethod yX6_readLate ∈ lw_all := kt_3 (List.mem_of_getElem? (i := 220) (by decide +kernel)) rfl
theorem kw_625 : Cond.selects RX6 yX6_readLate yX6_readLate ∈ lw_all := kt_3 (List.mem_of_getElem? (i := 221) (by decide +kernel)) rfl
theorem kw_626 : Cond.code yX6_readLate cX6_readLate 2 (some .int) ∈ lw_all := kt_3 (List.mem_of_getElem? (i := 222) rfl) rfl
theorem kw_627 : Cond.methodLink RX6 35 yX6_readLateIn ∈ lw_all := kt_3 (List.mem_of_getElem? (i := 223) (by decide +kernel)) rfl
theorem kw_628 : Cond.methodLink RX1 68 yX1_readStatus ∈ lw_all := kt_3 (List.mem_of_getElem? (i := 226) (by decide +kernel)) rfl
theorem kw_629 : Cond.instanceMethod yX1_readStatus ∈ lw_all := kt_3 (List.mem_of_getElem? (i := 228) (by decide +kernel)) rfl
theorem kw_630 : Cond.selects RX1 yX1_readStatus yX1_readStatus ∈ lw_all := ks_2 (q := (⟨"TwoSetMachine$ArmSet", "readStatus", "(I)I"⟩, 4)) (List.mem_of_getElem? (i := 10) rfl)
theorem kw_631 : Cond.code yX1_readStatus cX1_readStatus 3 (some .int) ∈ lw_all := kt_3 (List.mem_of_getElem? (i := 229) rfl) rfl
theorem kw_632 : Cond.methodLink RX1 130 yX6_spsrOrCpsr ∈ lw_all := kt_3 (List.mem_of_getElem? (i := 230) (by decide +kernel)) rfl
theorem kw_633 : Cond.methodLink RX1 134 yX6_cpsr ∈ lw_all := kt_3 (List.mem_of_getElem? (i := 231) (by decide +kernel)) rfl
theorem kw_634 : Cond.methodLink RX1 73 yX1_writeStatus ∈ lw_all := kt_3 (List.mem_of_getElem? (i := 234) (by decide +kernel)) rfl
theorem kw_635 : Cond.instanceMethod yX1_writeStatus ∈ lw_all := kt_3 (List.mem_of_getElem? (i := 236) (by decide +kernel)) rfl
theorem kw_636 : Cond.selects RX1 yX1_writeStatus yX1_writeStatus ∈ lw_all := ks_2 (q := (⟨"TwoSetMachine$ArmSet", "writeStatus", "(II)I"⟩, 4)) (List.mem_of_getElem? (i := 11) rfl)
theorem kw_637 : Cond.code yX1_writeStatus cX1_writeStatus 4 (some .int) ∈ lw_all := kt_3 (List.mem_of_getElem? (i := 237) rfl) rfl
theorem kw_638 : Cond.constant RX1 137 (-268435456) ∈ lw_all := kt_3 (List.mem_of_getElem? (i := 238) (by decide +kernel)) rfl
theorem kw_639 : Cond.methodLink RX1 138 yX6_mixIntoSpsr ∈ lw_all := kt_3 (List.mem_of_getElem? (i := 239) (by decide +kernel)) rfl
theorem kw_640 : Cond.instanceMethod yX6_mixIntoSpsr ∈ lw_all := kt_4 (List.mem_of_getElem? (i := 0) (by decide +kernel)) rfl
theorem kw_641 : Cond.selects RX6 yX6_mixIntoSpsr yX6_mixIntoSpsr ∈ lw_all := kt_4 (List.mem_of_getElem? (i := 1) (by decide +kernel)) rfl
theorem kw_642 : Cond.code yX6_mixIntoSpsr cX6_mixIntoSpsr 3 none ∈ lw_all := kt_4 (List.mem_of_getElem? (i := 2) rfl) rfl
theorem kw_643 : Cond.methodLink RX6 61 yX6_changeSpsr ∈ lw_all := kt_4 (List.mem_of_getElem? (i := 3) (by decide +kernel)) rfl
theorem kw_644 : Cond.methodLink RX1 141 yX6_mixIntoCpsr ∈ lw_all := kt_4 (List.mem_of_getElem? (i := 4) (by decide +kernel)) rfl
theorem kw_645 : Cond.instanceMethod yX6_mixIntoCpsr ∈ lw_all := kt_4 (List.mem_of_getElem? (i := 5) (by decide +kernel)) rfl
theorem kw_646 : Cond.selects RX6 yX6_mixIntoCpsr yX6_mixIntoCpsr ∈ lw_all := kt_4 (List.mem_of_getElem? (i := 6) (by decide +kernel)) rfl
theorem kw_647 : Cond.code yX6_mixIntoCpsr cX6_mixIntoCpsr 5 none ∈ lw_all := kt_4 (List.mem_of_getElem? (i := 7) rfl) rfl
theorem kw_648 : Cond.constant RX6 57 (-268435233) ∈ lw_all := kt_4 (List.mem_of_getElem? (i := 8) (by decide +kernel)) rfl
theorem kw_649 : Cond.methodLink RX6 58 yX6_changeCpsr ∈ lw_all := kt_4 (List.mem_of_getElem? (i := 9) (by decide +kernel)) rfl
theorem kw_650 : Cond.methodLink RX1 76 yX1_data ∈ lw_all := kt_4 (List.mem_of_getElem? (i := 10) (by decide +kernel)) rfl
theorem kw_651 : Cond.instanceMethod yX1_data ∈ lw_all := kt_4 (List.mem_of_getElem? (i := 12) (by decide +kernel)) rfl
theorem kw_652 : Cond.selects RX1 yX1_data yX1_data ∈ lw_all := ks_2 (q := (⟨"TwoSetMachine$ArmSet", "data", "(I)I"⟩, 4)) (List.mem_of_getElem? (i := 12) rfl)
theorem kw_653 : Cond.code yX1_data cX1_data 11 (some .int) ∈ lw_all := kt_4 (List.mem_of_getElem? (i := 13) rfl) rfl
theorem kw_654 : Cond.constant RX1 147 (33554448) ∈ lw_all := kt_4 (List.mem_of_getElem? (i := 15) (by decide +kernel)) rfl
theorem kw_655 : Cond.methodLink RX1 144 yX0_isTest ∈ lw_all := kt_4 (List.mem_of_getElem? (i := 14) (by decide +kernel)) rfl
theorem kw_656 : Cond.methodLink RX1 148 yX6_carry ∈ lw_all := kt_4 (List.mem_of_getElem? (i := 16) (by decide +kernel)) rfl
theorem kw_657 : Cond.methodLink RX1 81 yX7_turnedNumber ∈ lw_all := kt_4 (List.mem_of_getElem? (i := 17) (by decide +kernel)) rfl
theorem kw_658 : Cond.instanceMethod yX7_turnedNumber ∈ lw_all := kt_4 (List.mem_of_getElem? (i := 18) (by decide +kernel)) rfl
theorem kw_659 : Cond.selects RX7 yX7_turnedNumber yX7_turnedNumber ∈ lw_all := kt_4 (List.mem_of_getElem? (i := 19) (by decide +kernel)) rfl
theorem kw_660 : Cond.code yX7_turnedNumber cX7_turnedNumber 3 (some .int) ∈ lw_all := kt_4 (List.mem_of_getElem? (i := 20) rfl) rfl
theorem kw_661 : Cond.methodLink RX7 21 yX2_four ∈ lw_all := kt_4 (List.mem_of_getElem? (i := 21) (by decide +kernel)) rfl
theorem kw_662 : Cond.methodLink RX1 151 yX1_shiftedByRegister ∈ lw_all := kt_4 (List.mem_of_getElem? (i := 22) (by decide +kernel)) rfl
theorem kw_663 : Cond.instanceMethod yX1_shiftedByRegister ∈ lw_all := kt_4 (List.mem_of_getElem? (i := 24) (by decide +kernel)) rfl
theorem kw_664 : Cond.selects RX1 yX1_shiftedByRegister yX1_shiftedByRegister ∈ lw_all := ks_2 (q := (⟨"TwoSetMachine$ArmSet", "shiftedByRegister", "(I)I"⟩, 4)) (List.mem_of_getElem? (i := 13) rfl)
theorem kw_665 : Cond.code yX1_shiftedByRegister cX1_shiftedByRegister 4 (some .int) ∈ lw_all := kt_4 (List.mem_of_getElem? (i := 25) rfl) rfl
theorem kw_666 : Cond.methodLink RX1 157 yX6_readLate ∈ lw_all := kt_4 (List.mem_of_getElem? (i := 26) (by decide +kernel)) rfl
theorem kw_667 : Cond.methodLink RX1 173 yX7_shift ∈ lw_all := kt_4 (List.mem_of_getElem? (i := 27) (by decide +kernel)) rfl
theorem kw_668 : Cond.methodLink RX1 154 yX1_shiftedByNumber ∈ lw_all := kt_4 (List.mem_of_getElem? (i := 28) (by decide +kernel)) rfl
theorem kw_669 : Cond.instanceMethod yX1_shiftedByNumber ∈ lw_all := kt_4 (List.mem_of_getElem? (i := 30) (by decide +kernel)) rfl
theorem kw_670 : Cond.selects RX1 yX1_shiftedByNumber yX1_shiftedByNumber ∈ lw_all := ks_2 (q := (⟨"TwoSetMachine$ArmSet", "shiftedByNumber", "(I)I"⟩, 4)) (List.mem_of_getElem? (i := 14) rfl)
theorem kw_671 : Cond.code yX1_shiftedByNumber cX1_shiftedByNumber 4 (some .int) ∈ lw_all := kt_4 (List.mem_of_getElem? (i := 31) rfl) rfl
theorem kw_672 : Cond.methodLink RX1 176 yX2_five ∈ lw_all := kt_4 (List.mem_of_getElem? (i := 32) (by decide +kernel)) rfl
theorem kw_673 : Cond.methodLink RX1 179 yX7_shiftByNumber ∈ lw_all := kt_4 (List.mem_of_getElem? (i := 33) (by decide +kernel)) rfl
theorem kw_674 : Cond.methodLink RX1 160 yX7_carry ∈ lw_all := kt_4 (List.mem_of_getElem? (i := 34) (by decide +kernel)) rfl
theorem kw_675 : Cond.methodLink RX1 161 yX0_compute ∈ lw_all := kt_4 (List.mem_of_getElem? (i := 35) (by decide +kernel)) rfl
theorem kw_676 : Cond.methodLink RX1 164 yX0_flags ∈ lw_all := kt_4 (List.mem_of_getElem? (i := 36) (by decide +kernel)) rfl
theorem kw_677 : Cond.methodLink RX1 167 yX6_changeFlags ∈ lw_all := kt_4 (List.mem_of_getElem? (i := 37) (by decide +kernel)) rfl
theorem kw_678 : Cond.methodLink RX1 170 yX6_changeCpsr ∈ lw_all := kt_4 (List.mem_of_getElem? (i := 38) (by decide +kernel)) rfl
theorem kw_679 : Cond.methodLink RX1 86 yX1_transfer ∈ lw_all := kt_4 (List.mem_of_getElem? (i := 41) (by decide +kernel)) rfl
theorem kw_680 : Cond.instanceMethod yX1_transfer ∈ lw_all := kt_4 (List.mem_of_getElem? (i := 43) (by decide +kernel)) rfl
theorem kw_681 : Cond.selects RX1 yX1_transfer yX1_transfer ∈ lw_all := ks_2 (q := (⟨"TwoSetMachine$ArmSet", "transfer", "(I)I"⟩, 4)) (List.mem_of_getElem? (i := 15) rfl)
theorem kw_682 : Cond.code yX1_transfer cX1_transfer 5 (some .int) ∈ lw_all := kt_4 (List.mem_of_getElem? (i := 44) rfl) rfl
theorem kw_683 : Cond.methodLink RX1 89 yX9_many ∈ lw_all := kt_4 (List.mem_of_getElem? (i := 45) (by decide +kernel)) rfl
theorem kw_684 : Cond.methodLink RX1 94 yX1_branch ∈ lw_all := kt_4 (List.mem_of_getElem? (i := 46) (by decide +kernel)) rfl
theorem kw_685 : Cond.instanceMethod yX1_branch ∈ lw_all := kt_4 (List.mem_of_getElem? (i := 48) (by decide +kernel)) rfl
theorem kw_686 : Cond.selects RX1 yX1_branch yX1_branch ∈ lw_all := ks_3 (q := (⟨"TwoSetMachine$ArmSet", "branch", "(I)I"⟩, 4)) (List.mem_of_getElem? (i := 0) rfl)
theorem kw_687 : Cond.code yX1_branch cX1_branch 2 (some .int) ∈ lw_all := kt_4 (List.mem_of_getElem? (i := 49) rfl) rfl
theorem kw_688 : Cond.methodLink RX1 182 yX6_behind ∈ lw_all := kt_4 (List.mem_of_getElem? (i := 50) (by decide +kernel)) rfl
theorem kw_689 : Cond.methodLink RX1 185 yX6_jump ∈ lw_all := kt_4 (List.mem_of_getElem? (i := 51) (by decide +kernel)) rfl
theorem kw_690 : Cond.methodLink RX10 101 yX5_take ∈ lw_all := kt_4 (List.mem_of_getElem? (i := 52) (by decide +kernel)) rfl
theorem kw_691 : Cond.instanceMethod yX5_take ∈ lw_all := kt_4 (List.mem_of_getElem? (i := 53) (by decide +kernel)) rfl
theorem kw_692 : Cond.selects RX5 yX5_take yX5_take ∈ lw_all := kt_4 (List.mem_of_getElem? (i := 54) (by decide +kernel)) rfl
theorem kw_693 : Cond.code yX5_take cX5_take 2 none ∈ lw_all := kt_4 (List.mem_of_getElem? (i := 55) rfl) rfl
theorem kw_694 : Cond.methodLink RX5 63 yX3_isKind ∈ lw_all := kt_4 (List.mem_of_getElem? (i := 56) (by decide +kernel)) rfl
theorem kw_695 : Cond.static yX3_isKind ∈ lw_all := kt_4 (List.mem_of_getElem? (i := 57) (by decide +kernel)) rfl
theorem kw_696 : Cond.initialized RX3 ∈ lw_all := kt_1 (List.mem_of_getElem? (i := 18) (by decide +kernel)) rfl
theorem kw_697 : Cond.code yX3_isKind cX3_isKind 1 (some .boolean) ∈ lw_all := kt_4 (List.mem_of_getElem? (i := 58) rfl) rfl
theorem kw_698 : Cond.methodLink RX5 101 yX6_enter ∈ lw_all := kt_4 (List.mem_of_getElem? (i := 59) (by decide +kernel)) rfl
theorem kw_699 : Cond.instanceMethod yX6_enter ∈ lw_all := kt_4 (List.mem_of_getElem? (i := 60) (by decide +kernel)) rfl
theorem kw_700 : Cond.selects RX6 yX6_enter yX6_enter ∈ lw_all := kt_4 (List.mem_of_getElem? (i := 61) (by decide +kernel)) rfl
theorem kw_701 : Cond.code yX6_enter cX6_enter 5 none ∈ lw_all := kt_4 (List.mem_of_getElem? (i := 62) rfl) rfl
theorem kw_702 : Cond.methodLink RX6 72 yX6_linkOf ∈ lw_all := kt_4 (List.mem_of_getElem? (i := 63) (by decide +kernel)) rfl
theorem kw_703 : Cond.instanceMethod yX6_linkOf ∈ lw_all := kt_4 (List.mem_of_getElem? (i := 65) (by decide +kernel)) rfl
theorem kw_704 : Cond.selects RX6 yX6_linkOf yX6_linkOf ∈ lw_all := ks_3 (q := (⟨"TwoSetMachine$Registers", "linkOf", "(I)I"⟩, 5)) (List.mem_of_getElem? (i := 1) rfl)
theorem kw_705 : Cond.code yX6_linkOf cX6_linkOf 2 (some .int) ∈ lw_all := kt_4 (List.mem_of_getElem? (i := 66) rfl) rfl
theorem kw_706 : Cond.methodLink RX6 77 yX3_modeOf ∈ lw_all := kt_4 (List.mem_of_getElem? (i := 67) (by decide +kernel)) rfl
theorem kw_707 : Cond.static yX3_modeOf ∈ lw_all := kt_4 (List.mem_of_getElem? (i := 68) (by decide +kernel)) rfl
theorem kw_708 : Cond.code yX3_modeOf cX3_modeOf 1 (some .int) ∈ lw_all := kt_4 (List.mem_of_getElem? (i := 69) rfl) rfl
theorem kw_709 : Cond.fieldLink RX3 13 "TwoSetMachine$Fault" "MODES" "[I" ∈ lw_all := kt_4 (List.mem_of_getElem? (i := 71) (by decide +kernel)) rfl
theorem kw_710 : Cond.methodLink RX3 9 yX3_isKind ∈ lw_all := kt_4 (List.mem_of_getElem? (i := 70) (by decide +kernel)) rfl
theorem kw_711 : Cond.methodLink RX6 80 yX6_write ∈ lw_all := kt_4 (List.mem_of_getElem? (i := 73) (by decide +kernel)) rfl
theorem kw_712 : Cond.methodLink RX6 83 yX3_vectorOf ∈ lw_all := kt_4 (List.mem_of_getElem? (i := 74) (by decide +kernel)) rfl
theorem kw_713 : Cond.static yX3_vectorOf ∈ lw_all := kt_4 (List.mem_of_getElem? (i := 75) (by decide +kernel)) rfl
theorem kw_714 : Cond.code yX3_vectorOf cX3_vectorOf 1 (some .int) ∈ lw_all := kt_4 (List.mem_of_getElem? (i := 76) rfl) rfl
theorem kw_715 : Cond.fieldLink RX3 17 "TwoSetMachine$Fault" "VECTORS" "[I" ∈ lw_all := kt_4 (List.mem_of_getElem? (i := 77) (by decide +kernel)) rfl
theorem kw_716 : Cond.methodLink RL 79 yX11_step ∈ lw_all := kt_4 (List.mem_of_getElem? (i := 209) (by decide +kernel)) rfl
theorem kw_717 : Cond.instanceMethod yX11_step ∈ lw_all := kt_4 (List.mem_of_getElem? (i := 210) (by decide +kernel)) rfl
theorem kw_718 : Cond.selects RX11 yX11_step yX11_step ∈ lw_all := kt_4 (List.mem_of_getElem? (i := 211) (by decide +kernel)) rfl
theorem kw_719 : Cond.code yX11_step cX11_step 4 (some .int) ∈ lw_all := kt_4 (List.mem_of_getElem? (i := 212) rfl) rfl
theorem kw_720 : Cond.methodLink RX11 118 yX11_go ∈ lw_all := kt_4 (List.mem_of_getElem? (i := 213) (by decide +kernel)) rfl
theorem kw_721 : Cond.instanceMethod yX11_go ∈ lw_all := kt_4 (List.mem_of_getElem? (i := 215) (by decide +kernel)) rfl
theorem kw_722 : Cond.selects RX11 yX11_go yX11_go ∈ lw_all := ks_3 (q := (⟨"TwoSetMachineModel", "go", "()Z"⟩, 14)) (List.mem_of_getElem? (i := 7) rfl)
theorem kw_723 : Cond.code yX11_go cX11_go 1 (some .boolean) ∈ lw_all := kt_4 (List.mem_of_getElem? (i := 216) rfl) rfl
theorem kw_724 : Cond.fieldLink RX11 89 "TwoSetMachineModel" "steps" "I" ∈ lw_all := kt_4 (List.mem_of_getElem? (i := 108) (by decide +kernel)) rfl
theorem kw_725 : Cond.fieldLink RX11 100 "TwoSetMachineModel" "length" "I" ∈ lw_all := kt_4 (List.mem_of_getElem? (i := 111) (by decide +kernel)) rfl
theorem kw_726 : Cond.fieldLink RX11 46 "TwoSetMachineModel" "here" "I" ∈ lw_all := kt_4 (List.mem_of_getElem? (i := 110) (by decide +kernel)) rfl
theorem kw_727 : Cond.fieldLink RX11 103 "TwoSetMachineModel" "fault" "I" ∈ lw_all := kt_4 (List.mem_of_getElem? (i := 112) (by decide +kernel)) rfl
theorem kw_728 : Cond.fieldLink RX11 62 "TwoSetMachineModel" "jumps" "Z" ∈ lw_all := kt_4 (List.mem_of_getElem? (i := 113) (by decide +kernel)) rfl
theorem kw_729 : Cond.methodLink RX11 92 yX11_is ∈ lw_all := kt_4 (List.mem_of_getElem? (i := 217) (by decide +kernel)) rfl
theorem kw_730 : Cond.instanceMethod yX11_is ∈ lw_all := kt_4 (List.mem_of_getElem? (i := 219) (by decide +kernel)) rfl
theorem kw_731 : Cond.selects RX11 yX11_is yX11_is ∈ lw_all := ks_3 (q := (⟨"TwoSetMachineModel", "is", "(I)Z"⟩, 14)) (List.mem_of_getElem? (i := 8) rfl)
theorem kw_732 : Cond.code yX11_is cX11_is 2 (some .boolean) ∈ lw_all := kt_4 (List.mem_of_getElem? (i := 220) rfl) rfl
theorem kw_733 : Cond.methodLink RX11 96 yX11_enter ∈ lw_all := kt_4 (List.mem_of_getElem? (i := 221) (by decide +kernel)) rfl
theorem kw_734 : Cond.instanceMethod yX11_enter ∈ lw_all := kt_4 (List.mem_of_getElem? (i := 223) (by decide +kernel)) rfl
theorem kw_735 : Cond.selects RX11 yX11_enter yX11_enter ∈ lw_all := ks_3 (q := (⟨"TwoSetMachineModel", "enter", "(II)V"⟩, 14)) (List.mem_of_getElem? (i := 9) rfl)
theorem kw_736 : Cond.code yX11_enter cX11_enter 5 none ∈ lw_all := kt_4 (List.mem_of_getElem? (i := 224) rfl) rfl
theorem kw_737 : Cond.methodLink RX11 106 yX11_isThere ∈ lw_all := kt_4 (List.mem_of_getElem? (i := 225) (by decide +kernel)) rfl
theorem kw_738 : Cond.static yX11_isThere ∈ lw_all := kt_4 (List.mem_of_getElem? (i := 226) (by decide +kernel)) rfl
theorem kw_739 : Cond.code yX11_isThere cX11_isThere 1 (some .boolean) ∈ lw_all := kt_4 (List.mem_of_getElem? (i := 227) rfl) rfl
theorem kw_740 : Cond.methodLink RX11 109 yX11_halfAt ∈ lw_all := kt_4 (List.mem_of_getElem? (i := 228) (by decide +kernel)) rfl
theorem kw_741 : Cond.instanceMethod yX11_halfAt ∈ lw_all := kt_4 (List.mem_of_getElem? (i := 230) (by decide +kernel)) rfl
theorem kw_742 : Cond.selects RX11 yX11_halfAt yX11_halfAt ∈ lw_all := ks_3 (q := (⟨"TwoSetMachineModel", "halfAt", "(I)I"⟩, 14)) (List.mem_of_getElem? (i := 10) rfl)
theorem kw_743 : Cond.code yX11_halfAt cX11_halfAt 2 (some .int) ∈ lw_all := kt_4 (List.mem_of_getElem? (i := 231) rfl) rfl
theorem kw_744 : Cond.constant RX11 121 (65535) ∈ lw_all := kt_4 (List.mem_of_getElem? (i := 232) (by decide +kernel)) rfl
theorem kw_745 : Cond.methodLink RX11 112 yX11_thumb ∈ lw_all := kt_4 (List.mem_of_getElem? (i := 233) (by decide +kernel)) rfl
theorem kw_746 : Cond.instanceMethod yX11_thumb ∈ lw_all := kt_4 (List.mem_of_getElem? (i := 235) (by decide +kernel)) rfl
theorem kw_747 : Cond.selects RX11 yX11_thumb yX11_thumb ∈ lw_all := ks_3 (q := (⟨"TwoSetMachineModel", "thumb", "(I)V"⟩, 14)) (List.mem_of_getElem? (i := 11) rfl)
theorem kw_748 : Cond.code yX11_thumb cX11_thumb 10 none ∈ lw_all := kt_4 (List.mem_of_getElem? (i := 236) rfl) rfl
theorem kw_749 : Cond.methodLink RX11 245 yX11_early ∈ lw_all := kt_4 (List.mem_of_getElem? (i := 237) (by decide +kernel)) rfl
theorem kw_750 : Cond.instanceMethod yX11_early ∈ lw_all := kt_4 (List.mem_of_getElem? (i := 239) (by decide +kernel)) rfl
theorem kw_751 : Cond.selects RX11 yX11_early yX11_early ∈ lw_all := ks_3 (q := (⟨"TwoSetMachineModel", "early", "(IIIII)V"⟩, 14)) (List.mem_of_getElem? (i := 12) rfl)
theorem kw_752 : Cond.code yX11_early cX11_early 8 none ∈ lw_all := kt_5 (List.mem_of_getElem? (i := 0) rfl) rfl
theorem kw_753 : Cond.methodLink RX11 49 yX11_at ∈ lw_all := kt_5 (List.mem_of_getElem? (i := 1) (by decide +kernel)) rfl
theorem kw_754 : Cond.instanceMethod yX11_at ∈ lw_all := kt_5 (List.mem_of_getElem? (i := 3) (by decide +kernel)) rfl
theorem kw_755 : Cond.selects RX11 yX11_at yX11_at ∈ lw_all := ks_3 (q := (⟨"TwoSetMachineModel", "at", "(I)I"⟩, 14)) (List.mem_of_getElem? (i := 13) rfl)
theorem kw_756 : Cond.code yX11_at cX11_at 2 (some .int) ∈ lw_all := kt_5 (List.mem_of_getElem? (i := 4) rfl) rfl
theorem kw_757 : Cond.methodLink RX11 178 yX11_shiftBy ∈ lw_all := kt_5 (List.mem_of_getElem? (i := 5) (by decide +kernel)) rfl
theorem kw_758 : Cond.instanceMethod yX11_shiftBy ∈ lw_all := kt_5 (List.mem_of_getElem? (i := 7) (by decide +kernel)) rfl
theorem kw_759 : Cond.selects RX11 yX11_shiftBy yX11_shiftBy ∈ lw_all := ks_3 (q := (⟨"TwoSetMachineModel", "shiftBy", "(III)I"⟩, 14)) (List.mem_of_getElem? (i := 14) rfl)
theorem kw_760 : Cond.code yX11_shiftBy cX11_shiftBy 5 (some .int) ∈ lw_all := kt_5 (List.mem_of_getElem? (i := 8) rfl) rfl
theorem kw_761 : Cond.constant RX11 71 (-2147483648) ∈ lw_all := kt_5 (List.mem_of_getElem? (i := 13) (by decide +kernel)) rfl
theorem kw_762 : Cond.fieldLink RX11 138 "TwoSetMachineModel" "carry" "Z" ∈ lw_all := kt_4 (List.mem_of_getElem? (i := 114) (by decide +kernel)) rfl
theorem kw_763 : Cond.methodLink RX11 141 yX11_shift ∈ lw_all := kt_5 (List.mem_of_getElem? (i := 9) (by decide +kernel)) rfl
theorem kw_764 : Cond.instanceMethod yX11_shift ∈ lw_all := kt_5 (List.mem_of_getElem? (i := 11) (by decide +kernel)) rfl
theorem kw_765 : Cond.selects RX11 yX11_shift yX11_shift ∈ lw_all := ks_3 (q := (⟨"TwoSetMachineModel", "shift", "(III)I"⟩, 14)) (List.mem_of_getElem? (i := 15) rfl)
theorem kw_766 : Cond.code yX11_shift cX11_shift 7 (some .int) ∈ lw_all := kt_5 (List.mem_of_getElem? (i := 12) rfl) rfl
theorem kw_767 : Cond.methodLink RX11 184 yX11_finish ∈ lw_all := kt_5 (List.mem_of_getElem? (i := 14) (by decide +kernel)) rfl
theorem kw_768 : Cond.instanceMethod yX11_finish ∈ lw_all := kt_5 (List.mem_of_getElem? (i := 16) (by decide +kernel)) rfl
theorem kw_769 : Cond.selects RX11 yX11_finish yX11_finish ∈ lw_all := ks_4 (q := (⟨"TwoSetMachineModel", "finish", "(IIIIZ)V"⟩, 14)) (List.mem_of_getElem? (i := 0) rfl)
theorem kw_770 : Cond.code yX11_finish cX11_finish 7 none ∈ lw_all := kt_5 (List.mem_of_getElem? (i := 17) rfl) rfl
theorem kw_771 : Cond.fieldLink RX11 147 "TwoSetMachineModel" "over" "Z" ∈ lw_all := kt_4 (List.mem_of_getElem? (i := 115) (by decide +kernel)) rfl
theorem kw_772 : Cond.methodLink RX11 156 yX11_operate ∈ lw_all := kt_5 (List.mem_of_getElem? (i := 18) (by decide +kernel)) rfl
theorem kw_773 : Cond.instanceMethod yX11_operate ∈ lw_all := kt_5 (List.mem_of_getElem? (i := 20) (by decide +kernel)) rfl
theorem kw_774 : Cond.selects RX11 yX11_operate yX11_operate ∈ lw_all := ks_4 (q := (⟨"TwoSetMachineModel", "operate", "(III)I"⟩, 14)) (List.mem_of_getElem? (i := 1) rfl)
theorem kw_775 : Cond.code yX11_operate cX11_operate 4 (some .int) ∈ lw_all := kt_5 (List.mem_of_getElem? (i := 21) rfl) rfl
theorem kw_776 : Cond.methodLink RX11 150 yX11_sum ∈ lw_all := kt_5 (List.mem_of_getElem? (i := 22) (by decide +kernel)) rfl
theorem kw_777 : Cond.instanceMethod yX11_sum ∈ lw_all := kt_5 (List.mem_of_getElem? (i := 24) (by decide +kernel)) rfl
theorem kw_778 : Cond.selects RX11 yX11_sum yX11_sum ∈ lw_all := ks_4 (q := (⟨"TwoSetMachineModel", "sum", "(III)I"⟩, 14)) (List.mem_of_getElem? (i := 2) rfl)
theorem kw_779 : Cond.code yX11_sum cX11_sum 8 (some .int) ∈ lw_all := kt_5 (List.mem_of_getElem? (i := 25) rfl) rfl
theorem kw_780 : Cond.constantLong RX11 145 (4294967295) ∈ lw_all := kt_5 (List.mem_of_getElem? (i := 26) (by decide +kernel)) rfl
theorem kw_781 : Cond.methodLink RX11 153 yX11_carryIn ∈ lw_all := kt_5 (List.mem_of_getElem? (i := 27) (by decide +kernel)) rfl
theorem kw_782 : Cond.instanceMethod yX11_carryIn ∈ lw_all := kt_5 (List.mem_of_getElem? (i := 29) (by decide +kernel)) rfl
theorem kw_783 : Cond.selects RX11 yX11_carryIn yX11_carryIn ∈ lw_all := ks_4 (q := (⟨"TwoSetMachineModel", "carryIn", "()I"⟩, 14)) (List.mem_of_getElem? (i := 3) rfl)
theorem kw_784 : Cond.code yX11_carryIn cX11_carryIn 1 (some .int) ∈ lw_all := kt_5 (List.mem_of_getElem? (i := 30) rfl) rfl
theorem kw_785 : Cond.methodLink RX11 159 yX11_setFlags ∈ lw_all := kt_5 (List.mem_of_getElem? (i := 31) (by decide +kernel)) rfl
theorem kw_786 : Cond.instanceMethod yX11_setFlags ∈ lw_all := kt_5 (List.mem_of_getElem? (i := 33) (by decide +kernel)) rfl
theorem kw_787 : Cond.selects RX11 yX11_setFlags yX11_setFlags ∈ lw_all := ks_4 (q := (⟨"TwoSetMachineModel", "setFlags", "(I)V"⟩, 14)) (List.mem_of_getElem? (i := 4) rfl)
theorem kw_788 : Cond.code yX11_setFlags cX11_setFlags 2 none ∈ lw_all := kt_5 (List.mem_of_getElem? (i := 34) rfl) rfl
theorem kw_789 : Cond.constant RX11 70 (1073741823) ∈ lw_all := kt_5 (List.mem_of_getElem? (i := 35) (by decide +kernel)) rfl
theorem kw_790 : Cond.constant RX11 72 (1073741824) ∈ lw_all := kt_5 (List.mem_of_getElem? (i := 36) (by decide +kernel)) rfl
theorem kw_791 : Cond.methodLink RX11 162 yX11_setCarry ∈ lw_all := kt_5 (List.mem_of_getElem? (i := 37) (by decide +kernel)) rfl
theorem kw_792 : Cond.instanceMethod yX11_setCarry ∈ lw_all := kt_5 (List.mem_of_getElem? (i := 39) (by decide +kernel)) rfl
theorem kw_793 : Cond.selects RX11 yX11_setCarry yX11_setCarry ∈ lw_all := ks_4 (q := (⟨"TwoSetMachineModel", "setCarry", "(Z)V"⟩, 14)) (List.mem_of_getElem? (i := 5) rfl)
theorem kw_794 : Cond.code yX11_setCarry cX11_setCarry 2 none ∈ lw_all := kt_5 (List.mem_of_getElem? (i := 40) rfl) rfl
theorem kw_795 : Cond.constant RX11 73 (-536870913) ∈ lw_all := kt_5 (List.mem_of_getElem? (i := 41) (by decide +kernel)) rfl
theorem kw_796 : Cond.constant RX11 74 (536870912) ∈ lw_all := kt_5 (List.mem_of_getElem? (i := 42) (by decide +kernel)) rfl
theorem kw_797 : Cond.methodLink RX11 166 yX11_isSum ∈ lw_all := kt_5 (List.mem_of_getElem? (i := 43) (by decide +kernel)) rfl
theorem kw_798 : Cond.static yX11_isSum ∈ lw_all := kt_5 (List.mem_of_getElem? (i := 44) (by decide +kernel)) rfl
theorem kw_799 : Cond.code yX11_isSum cX11_isSum 1 (some .boolean) ∈ lw_all := kt_5 (List.mem_of_getElem? (i := 45) rfl) rfl
theorem kw_800 : Cond.methodLink RX11 169 yX11_setOver ∈ lw_all := kt_5 (List.mem_of_getElem? (i := 46) (by decide +kernel)) rfl
theorem kw_801 : Cond.instanceMethod yX11_setOver ∈ lw_all := kt_5 (List.mem_of_getElem? (i := 48) (by decide +kernel)) rfl
theorem kw_802 : Cond.selects RX11 yX11_setOver yX11_setOver ∈ lw_all := ks_4 (q := (⟨"TwoSetMachineModel", "setOver", "(Z)V"⟩, 14)) (List.mem_of_getElem? (i := 6) rfl)
theorem kw_803 : Cond.code yX11_setOver cX11_setOver 2 none ∈ lw_all := kt_5 (List.mem_of_getElem? (i := 49) rfl) rfl
theorem kw_804 : Cond.constant RX11 75 (-268435457) ∈ lw_all := kt_5 (List.mem_of_getElem? (i := 50) (by decide +kernel)) rfl
theorem kw_805 : Cond.constant RX11 76 (268435456) ∈ lw_all := kt_5 (List.mem_of_getElem? (i := 51) (by decide +kernel)) rfl
theorem kw_806 : Cond.methodLink RX11 135 yX11_put ∈ lw_all := kt_5 (List.mem_of_getElem? (i := 52) (by decide +kernel)) rfl
theorem kw_807 : Cond.instanceMethod yX11_put ∈ lw_all := kt_5 (List.mem_of_getElem? (i := 54) (by decide +kernel)) rfl
theorem kw_808 : Cond.selects RX11 yX11_put yX11_put ∈ lw_all := ks_4 (q := (⟨"TwoSetMachineModel", "put", "(II)V"⟩, 14)) (List.mem_of_getElem? (i := 7) rfl)
theorem kw_809 : Cond.code yX11_put cX11_put 3 none ∈ lw_all := kt_5 (List.mem_of_getElem? (i := 55) rfl) rfl
theorem kw_810 : Cond.methodLink RX11 249 yX11_numbers ∈ lw_all := kt_5 (List.mem_of_getElem? (i := 56) (by decide +kernel)) rfl
theorem kw_811 : Cond.instanceMethod yX11_numbers ∈ lw_all := kt_5 (List.mem_of_getElem? (i := 58) (by decide +kernel)) rfl
theorem kw_812 : Cond.selects RX11 yX11_numbers yX11_numbers ∈ lw_all := ks_4 (q := (⟨"TwoSetMachineModel", "numbers", "(III)V"⟩, 14)) (List.mem_of_getElem? (i := 8) rfl)
theorem kw_813 : Cond.code yX11_numbers cX11_numbers 4 none ∈ lw_all := kt_5 (List.mem_of_getElem? (i := 59) rfl) rfl
theorem kw_814 : Cond.methodLink RX11 252 yX11_operations ∈ lw_all := kt_5 (List.mem_of_getElem? (i := 60) (by decide +kernel)) rfl
theorem kw_815 : Cond.instanceMethod yX11_operations ∈ lw_all := kt_5 (List.mem_of_getElem? (i := 62) (by decide +kernel)) rfl
theorem kw_816 : Cond.selects RX11 yX11_operations yX11_operations ∈ lw_all := ks_4 (q := (⟨"TwoSetMachineModel", "operations", "(III)V"⟩, 14)) (List.mem_of_getElem? (i := 9) rfl)
theorem kw_817 : Cond.code yX11_operations cX11_operations 6 none ∈ lw_all := kt_5 (List.mem_of_getElem? (i := 63) rfl) rfl
theorem kw_818 : Cond.methodLink RX11 255 yX11_highOnes ∈ lw_all := kt_5 (List.mem_of_getElem? (i := 64) (by decide +kernel)) rfl
theorem kw_819 : Cond.instanceMethod yX11_highOnes ∈ lw_all := kt_5 (List.mem_of_getElem? (i := 66) (by decide +kernel)) rfl
theorem kw_820 : Cond.selects RX11 yX11_highOnes yX11_highOnes ∈ lw_all := ks_4 (q := (⟨"TwoSetMachineModel", "highOnes", "(I)V"⟩, 14)) (List.mem_of_getElem? (i := 10) rfl)
theorem kw_821 : Cond.code yX11_highOnes cX11_highOnes 5 none ∈ lw_all := kt_5 (List.mem_of_getElem? (i := 67) rfl) rfl
theorem kw_822 : Cond.methodLink RX11 172 yX11_undefined ∈ lw_all := kt_5 (List.mem_of_getElem? (i := 68) (by decide +kernel)) rfl
theorem kw_823 : Cond.instanceMethod yX11_undefined ∈ lw_all := kt_5 (List.mem_of_getElem? (i := 70) (by decide +kernel)) rfl
theorem kw_824 : Cond.selects RX11 yX11_undefined yX11_undefined ∈ lw_all := ks_4 (q := (⟨"TwoSetMachineModel", "undefined", "()V"⟩, 14)) (List.mem_of_getElem? (i := 11) rfl)
theorem kw_825 : Cond.code yX11_undefined cX11_undefined 1 none ∈ lw_all := kt_5 (List.mem_of_getElem? (i := 71) rfl) rfl
theorem kw_826 : Cond.methodLink RX11 193 yX11_value ∈ lw_all := kt_5 (List.mem_of_getElem? (i := 72) (by decide +kernel)) rfl
theorem kw_827 : Cond.instanceMethod yX11_value ∈ lw_all := kt_5 (List.mem_of_getElem? (i := 74) (by decide +kernel)) rfl
theorem kw_828 : Cond.selects RX11 yX11_value yX11_value ∈ lw_all := ks_4 (q := (⟨"TwoSetMachineModel", "value", "(I)I"⟩, 14)) (List.mem_of_getElem? (i := 12) rfl)
theorem kw_829 : Cond.code yX11_value cX11_value 2 (some .int) ∈ lw_all := kt_5 (List.mem_of_getElem? (i := 75) rfl) rfl
theorem kw_830 : Cond.methodLink RX11 56 yX11_operand ∈ lw_all := kt_5 (List.mem_of_getElem? (i := 76) (by decide +kernel)) rfl
theorem kw_831 : Cond.instanceMethod yX11_operand ∈ lw_all := kt_5 (List.mem_of_getElem? (i := 78) (by decide +kernel)) rfl
theorem kw_832 : Cond.selects RX11 yX11_operand yX11_operand ∈ lw_all := ks_4 (q := (⟨"TwoSetMachineModel", "operand", "(II)I"⟩, 14)) (List.mem_of_getElem? (i := 13) rfl)
theorem kw_833 : Cond.code yX11_operand cX11_operand 3 (some .int) ∈ lw_all := kt_5 (List.mem_of_getElem? (i := 79) rfl) rfl
theorem kw_834 : Cond.methodLink RX11 196 yX11_exchange ∈ lw_all := kt_5 (List.mem_of_getElem? (i := 80) (by decide +kernel)) rfl
theorem kw_835 : Cond.instanceMethod yX11_exchange ∈ lw_all := kt_5 (List.mem_of_getElem? (i := 82) (by decide +kernel)) rfl
theorem kw_836 : Cond.selects RX11 yX11_exchange yX11_exchange ∈ lw_all := ks_4 (q := (⟨"TwoSetMachineModel", "exchange", "(I)V"⟩, 14)) (List.mem_of_getElem? (i := 14) rfl)
theorem kw_837 : Cond.code yX11_exchange cX11_exchange 2 none ∈ lw_all := kt_5 (List.mem_of_getElem? (i := 83) rfl) rfl
theorem kw_838 : Cond.methodLink RX11 227 yX11_transfer ∈ lw_all := kt_5 (List.mem_of_getElem? (i := 84) (by decide +kernel)) rfl
theorem kw_839 : Cond.instanceMethod yX11_transfer ∈ lw_all := kt_5 (List.mem_of_getElem? (i := 86) (by decide +kernel)) rfl
theorem kw_840 : Cond.selects RX11 yX11_transfer yX11_transfer ∈ lw_all := ks_4 (q := (⟨"TwoSetMachineModel", "transfer", "(ZIIIII)V"⟩, 14)) (List.mem_of_getElem? (i := 15) rfl)
theorem kw_841 : Cond.code yX11_transfer cX11_transfer 8 none ∈ lw_all := kt_5 (List.mem_of_getElem? (i := 87) rfl) rfl
theorem kw_842 : Cond.methodLink RX11 128 yX11_loaded ∈ lw_all := kt_5 (List.mem_of_getElem? (i := 88) (by decide +kernel)) rfl
theorem kw_843 : Cond.instanceMethod yX11_loaded ∈ lw_all := kt_5 (List.mem_of_getElem? (i := 90) (by decide +kernel)) rfl
theorem kw_844 : Cond.selects RX11 yX11_loaded yX11_loaded ∈ lw_all := ks_5 (q := (⟨"TwoSetMachineModel", "loaded", "(II)I"⟩, 14)) (List.mem_of_getElem? (i := 0) rfl)
theorem kw_845 : Cond.code yX11_loaded cX11_loaded 4 (some .int) ∈ lw_all := kt_5 (List.mem_of_getElem? (i := 91) rfl) rfl
theorem kw_846 : Cond.methodLink RX11 122 yX11_wordAt ∈ lw_all := kt_5 (List.mem_of_getElem? (i := 92) (by decide +kernel)) rfl
theorem kw_847 : Cond.instanceMethod yX11_wordAt ∈ lw_all := kt_5 (List.mem_of_getElem? (i := 94) (by decide +kernel)) rfl
theorem kw_848 : Cond.selects RX11 yX11_wordAt yX11_wordAt ∈ lw_all := ks_5 (q := (⟨"TwoSetMachineModel", "wordAt", "(I)I"⟩, 14)) (List.mem_of_getElem? (i := 1) rfl)
theorem kw_849 : Cond.code yX11_wordAt cX11_wordAt 4 (some .int) ∈ lw_all := kt_5 (List.mem_of_getElem? (i := 95) rfl) rfl
theorem kw_850 : Cond.methodLink RX11 125 yX11_byteAt ∈ lw_all := kt_5 (List.mem_of_getElem? (i := 96) (by decide +kernel)) rfl
theorem kw_851 : Cond.instanceMethod yX11_byteAt ∈ lw_all := kt_5 (List.mem_of_getElem? (i := 98) (by decide +kernel)) rfl
theorem kw_852 : Cond.selects RX11 yX11_byteAt yX11_byteAt ∈ lw_all := ks_5 (q := (⟨"TwoSetMachineModel", "byteAt", "(I)I"⟩, 14)) (List.mem_of_getElem? (i := 2) rfl)
theorem kw_853 : Cond.code yX11_byteAt cX11_byteAt 2 (some .int) ∈ lw_all := kt_5 (List.mem_of_getElem? (i := 99) rfl) rfl
theorem kw_854 : Cond.methodLink RX11 131 yX11_storeAt ∈ lw_all := kt_5 (List.mem_of_getElem? (i := 100) (by decide +kernel)) rfl
theorem kw_855 : Cond.instanceMethod yX11_storeAt ∈ lw_all := kt_5 (List.mem_of_getElem? (i := 102) (by decide +kernel)) rfl
theorem kw_856 : Cond.selects RX11 yX11_storeAt yX11_storeAt ∈ lw_all := ks_5 (q := (⟨"TwoSetMachineModel", "storeAt", "(III)V"⟩, 14)) (List.mem_of_getElem? (i := 3) rfl)
theorem kw_857 : Cond.code yX11_storeAt cX11_storeAt 6 none ∈ lw_all := kt_5 (List.mem_of_getElem? (i := 103) rfl) rfl
theorem kw_858 : Cond.methodLink RX11 258 yX11_byRegisters ∈ lw_all := kt_5 (List.mem_of_getElem? (i := 104) (by decide +kernel)) rfl
theorem kw_859 : Cond.instanceMethod yX11_byRegisters ∈ lw_all := kt_5 (List.mem_of_getElem? (i := 106) (by decide +kernel)) rfl
theorem kw_860 : Cond.selects RX11 yX11_byRegisters yX11_byRegisters ∈ lw_all := ks_5 (q := (⟨"TwoSetMachineModel", "byRegisters", "(III)V"⟩, 14)) (List.mem_of_getElem? (i := 4) rfl)
theorem kw_861 : Cond.code yX11_byRegisters cX11_byRegisters 6 none ∈ lw_all := kt_5 (List.mem_of_getElem? (i := 107) rfl) rfl
theorem kw_862 : Cond.methodLink RX11 261 yX11_stack ∈ lw_all := kt_5 (List.mem_of_getElem? (i := 108) (by decide +kernel)) rfl
theorem kw_863 : Cond.instanceMethod yX11_stack ∈ lw_all := kt_5 (List.mem_of_getElem? (i := 110) (by decide +kernel)) rfl
theorem kw_864 : Cond.selects RX11 yX11_stack yX11_stack ∈ lw_all := ks_5 (q := (⟨"TwoSetMachineModel", "stack", "(I)V"⟩, 14)) (List.mem_of_getElem? (i := 5) rfl)
theorem kw_865 : Cond.code yX11_stack cX11_stack 5 none ∈ lw_all := kt_5 (List.mem_of_getElem? (i := 111) rfl) rfl
theorem kw_866 : Cond.constant RX11 270 (32768) ∈ lw_all := kt_5 (List.mem_of_getElem? (i := 135) (by decide +kernel)) rfl
theorem kw_867 : Cond.methodLink RX11 220 yX11_many ∈ lw_all := kt_5 (List.mem_of_getElem? (i := 112) (by decide +kernel)) rfl
theorem kw_868 : Cond.instanceMethod yX11_many ∈ lw_all := kt_5 (List.mem_of_getElem? (i := 114) (by decide +kernel)) rfl
theorem kw_869 : Cond.selects RX11 yX11_many yX11_many ∈ lw_all := ks_5 (q := (⟨"TwoSetMachineModel", "many", "(ZIIZZZZ)V"⟩, 14)) (List.mem_of_getElem? (i := 6) rfl)
theorem kw_870 : Cond.code yX11_many cX11_many 14 none ∈ lw_all := kt_5 (List.mem_of_getElem? (i := 115) rfl) rfl
theorem kw_871 : Cond.methodLink RX11 235 yX11_countOf ∈ lw_all := kt_5 (List.mem_of_getElem? (i := 116) (by decide +kernel)) rfl
theorem kw_872 : Cond.static yX11_countOf ∈ lw_all := kt_5 (List.mem_of_getElem? (i := 117) (by decide +kernel)) rfl
theorem kw_873 : Cond.code yX11_countOf cX11_countOf 3 (some .int) ∈ lw_all := kt_5 (List.mem_of_getElem? (i := 118) rfl) rfl
theorem kw_874 : Cond.methodLink RX11 238 yX11_nth ∈ lw_all := kt_5 (List.mem_of_getElem? (i := 119) (by decide +kernel)) rfl
theorem kw_875 : Cond.instanceMethod yX11_nth ∈ lw_all := kt_5 (List.mem_of_getElem? (i := 121) (by decide +kernel)) rfl
theorem kw_876 : Cond.selects RX11 yX11_nth yX11_nth ∈ lw_all := ks_5 (q := (⟨"TwoSetMachineModel", "nth", "(III)I"⟩, 14)) (List.mem_of_getElem? (i := 7) rfl)
theorem kw_877 : Cond.code yX11_nth cX11_nth 6 (some .int) ∈ lw_all := kt_5 (List.mem_of_getElem? (i := 122) rfl) rfl
theorem kw_878 : Cond.methodLink RX11 241 yX11_loadAll ∈ lw_all := kt_5 (List.mem_of_getElem? (i := 123) (by decide +kernel)) rfl
theorem kw_879 : Cond.instanceMethod yX11_loadAll ∈ lw_all := kt_5 (List.mem_of_getElem? (i := 125) (by decide +kernel)) rfl
theorem kw_880 : Cond.selects RX11 yX11_loadAll yX11_loadAll ∈ lw_all := ks_5 (q := (⟨"TwoSetMachineModel", "loadAll", "(IIIZ)V"⟩, 14)) (List.mem_of_getElem? (i := 8) rfl)
theorem kw_881 : Cond.code yX11_loadAll cX11_loadAll 7 none ∈ lw_all := kt_5 (List.mem_of_getElem? (i := 126) rfl) rfl
theorem kw_882 : Cond.methodLink RX11 67 yX11_hasSaved ∈ lw_all := kt_5 (List.mem_of_getElem? (i := 127) (by decide +kernel)) rfl
theorem kw_883 : Cond.instanceMethod yX11_hasSaved ∈ lw_all := kt_5 (List.mem_of_getElem? (i := 129) (by decide +kernel)) rfl
theorem kw_884 : Cond.selects RX11 yX11_hasSaved yX11_hasSaved ∈ lw_all := ks_5 (q := (⟨"TwoSetMachineModel", "hasSaved", "()Z"⟩, 14)) (List.mem_of_getElem? (i := 9) rfl)
theorem kw_885 : Cond.code yX11_hasSaved cX11_hasSaved 1 (some .boolean) ∈ lw_all := kt_5 (List.mem_of_getElem? (i := 130) rfl) rfl
theorem kw_886 : Cond.methodLink RX11 181 yX11_kept ∈ lw_all := kt_5 (List.mem_of_getElem? (i := 131) (by decide +kernel)) rfl
theorem kw_887 : Cond.instanceMethod yX11_kept ∈ lw_all := kt_5 (List.mem_of_getElem? (i := 133) (by decide +kernel)) rfl
theorem kw_888 : Cond.selects RX11 yX11_kept yX11_kept ∈ lw_all := ks_5 (q := (⟨"TwoSetMachineModel", "kept", "()I"⟩, 14)) (List.mem_of_getElem? (i := 10) rfl)
theorem kw_889 : Cond.code yX11_kept cX11_kept 1 (some .int) ∈ lw_all := kt_5 (List.mem_of_getElem? (i := 134) rfl) rfl
theorem kw_890 : Cond.methodLink RX11 264 yX11_conditional ∈ lw_all := kt_5 (List.mem_of_getElem? (i := 136) (by decide +kernel)) rfl
theorem kw_891 : Cond.instanceMethod yX11_conditional ∈ lw_all := kt_5 (List.mem_of_getElem? (i := 138) (by decide +kernel)) rfl
theorem kw_892 : Cond.selects RX11 yX11_conditional yX11_conditional ∈ lw_all := ks_5 (q := (⟨"TwoSetMachineModel", "conditional", "(II)V"⟩, 14)) (List.mem_of_getElem? (i := 11) rfl)
theorem kw_893 : Cond.code yX11_conditional cX11_conditional 3 none ∈ lw_all := kt_5 (List.mem_of_getElem? (i := 139) rfl) rfl
theorem kw_894 : Cond.methodLink RX11 188 yX11_isSo ∈ lw_all := kt_5 (List.mem_of_getElem? (i := 140) (by decide +kernel)) rfl
theorem kw_895 : Cond.instanceMethod yX11_isSo ∈ lw_all := kt_5 (List.mem_of_getElem? (i := 142) (by decide +kernel)) rfl
theorem kw_896 : Cond.selects RX11 yX11_isSo yX11_isSo ∈ lw_all := ks_5 (q := (⟨"TwoSetMachineModel", "isSo", "(I)Z"⟩, 14)) (List.mem_of_getElem? (i := 12) rfl)
theorem kw_897 : Cond.code yX11_isSo cX11_isSo 5 (some .boolean) ∈ lw_all := kt_5 (List.mem_of_getElem? (i := 143) rfl) rfl
theorem kw_898 : Cond.methodLink RX11 267 yX11_far ∈ lw_all := kt_5 (List.mem_of_getElem? (i := 144) (by decide +kernel)) rfl
theorem kw_899 : Cond.instanceMethod yX11_far ∈ lw_all := kt_5 (List.mem_of_getElem? (i := 146) (by decide +kernel)) rfl
theorem kw_900 : Cond.selects RX11 yX11_far yX11_far ∈ lw_all := ks_5 (q := (⟨"TwoSetMachineModel", "far", "(I)V"⟩, 14)) (List.mem_of_getElem? (i := 13) rfl)
theorem kw_901 : Cond.code yX11_far cX11_far 5 none ∈ lw_all := kt_5 (List.mem_of_getElem? (i := 147) rfl) rfl
theorem kw_902 : Cond.methodLink RX11 115 yX11_arm ∈ lw_all := kt_5 (List.mem_of_getElem? (i := 148) (by decide +kernel)) rfl
theorem kw_903 : Cond.instanceMethod yX11_arm ∈ lw_all := kt_5 (List.mem_of_getElem? (i := 150) (by decide +kernel)) rfl
theorem kw_904 : Cond.selects RX11 yX11_arm yX11_arm ∈ lw_all := ks_5 (q := (⟨"TwoSetMachineModel", "arm", "(I)V"⟩, 14)) (List.mem_of_getElem? (i := 14) rfl)
theorem kw_905 : Cond.code yX11_arm cX11_arm 4 none ∈ lw_all := kt_5 (List.mem_of_getElem? (i := 151) rfl) rfl
theorem kw_906 : Cond.constant RX11 191 (16777215) ∈ lw_all := kt_5 (List.mem_of_getElem? (i := 152) (by decide +kernel)) rfl
theorem kw_907 : Cond.constant RX11 192 (1245169) ∈ lw_all := kt_5 (List.mem_of_getElem? (i := 153) (by decide +kernel)) rfl
theorem kw_908 : Cond.methodLink RX11 199 yX11_multiply ∈ lw_all := kt_5 (List.mem_of_getElem? (i := 154) (by decide +kernel)) rfl
theorem kw_909 : Cond.instanceMethod yX11_multiply ∈ lw_all := kt_5 (List.mem_of_getElem? (i := 156) (by decide +kernel)) rfl
theorem kw_910 : Cond.selects RX11 yX11_multiply yX11_multiply ∈ lw_all := ks_5 (q := (⟨"TwoSetMachineModel", "multiply", "(I)V"⟩, 14)) (List.mem_of_getElem? (i := 15) rfl)
theorem kw_911 : Cond.code yX11_multiply cX11_multiply 15 none ∈ lw_all := kt_5 (List.mem_of_getElem? (i := 157) rfl) rfl
theorem kw_912 : Cond.methodLink RX11 202 yX11_swap ∈ lw_all := kt_5 (List.mem_of_getElem? (i := 158) (by decide +kernel)) rfl
theorem kw_913 : Cond.instanceMethod yX11_swap ∈ lw_all := kt_5 (List.mem_of_getElem? (i := 160) (by decide +kernel)) rfl
theorem kw_914 : Cond.selects RX11 yX11_swap yX11_swap ∈ lw_all := ks_6 (q := (⟨"TwoSetMachineModel", "swap", "(I)V"⟩, 14)) (List.mem_of_getElem? (i := 0) rfl)
theorem kw_915 : Cond.code yX11_swap cX11_swap 8 none ∈ lw_all := kt_5 (List.mem_of_getElem? (i := 161) rfl) rfl
theorem kw_916 : Cond.methodLink RX11 205 yX11_halves ∈ lw_all := kt_5 (List.mem_of_getElem? (i := 162) (by decide +kernel)) rfl
theorem kw_917 : Cond.instanceMethod yX11_halves ∈ lw_all := kt_5 (List.mem_of_getElem? (i := 164) (by decide +kernel)) rfl
theorem kw_918 : Cond.selects RX11 yX11_halves yX11_halves ∈ lw_all := ks_6 (q := (⟨"TwoSetMachineModel", "halves", "(I)V"⟩, 14)) (List.mem_of_getElem? (i := 1) rfl)
theorem kw_919 : Cond.code yX11_halves cX11_halves 5 none ∈ lw_all := kt_5 (List.mem_of_getElem? (i := 165) rfl) rfl
theorem kw_920 : Cond.methodLink RX11 231 yX11_indexed ∈ lw_all := kt_5 (List.mem_of_getElem? (i := 166) (by decide +kernel)) rfl
theorem kw_921 : Cond.instanceMethod yX11_indexed ∈ lw_all := kt_5 (List.mem_of_getElem? (i := 168) (by decide +kernel)) rfl
theorem kw_922 : Cond.selects RX11 yX11_indexed yX11_indexed ∈ lw_all := ks_6 (q := (⟨"TwoSetMachineModel", "indexed", "(III)V"⟩, 14)) (List.mem_of_getElem? (i := 2) rfl)
theorem kw_923 : Cond.code yX11_indexed cX11_indexed 9 none ∈ lw_all := kt_5 (List.mem_of_getElem? (i := 169) rfl) rfl
theorem kw_924 : Cond.methodLink RX11 208 yX11_isStatus ∈ lw_all := kt_5 (List.mem_of_getElem? (i := 170) (by decide +kernel)) rfl
theorem kw_925 : Cond.static yX11_isStatus ∈ lw_all := kt_5 (List.mem_of_getElem? (i := 171) (by decide +kernel)) rfl
theorem kw_926 : Cond.code yX11_isStatus cX11_isStatus 2 (some .boolean) ∈ lw_all := kt_5 (List.mem_of_getElem? (i := 172) rfl) rfl
theorem kw_927 : Cond.methodLink RX11 211 yX11_toStatus ∈ lw_all := kt_5 (List.mem_of_getElem? (i := 173) (by decide +kernel)) rfl
theorem kw_928 : Cond.instanceMethod yX11_toStatus ∈ lw_all := kt_5 (List.mem_of_getElem? (i := 175) (by decide +kernel)) rfl
theorem kw_929 : Cond.selects RX11 yX11_toStatus yX11_toStatus ∈ lw_all := ks_6 (q := (⟨"TwoSetMachineModel", "toStatus", "(I)V"⟩, 14)) (List.mem_of_getElem? (i := 3) rfl)
theorem kw_930 : Cond.code yX11_toStatus cX11_toStatus 5 none ∈ lw_all := kt_5 (List.mem_of_getElem? (i := 176) rfl) rfl
theorem kw_931 : Cond.constant RX11 234 (-268435456) ∈ lw_all := kt_5 (List.mem_of_getElem? (i := 181) (by decide +kernel)) rfl
theorem kw_932 : Cond.methodLink RX11 175 yX11_turnedNumber ∈ lw_all := kt_5 (List.mem_of_getElem? (i := 177) (by decide +kernel)) rfl
theorem kw_933 : Cond.instanceMethod yX11_turnedNumber ∈ lw_all := kt_5 (List.mem_of_getElem? (i := 179) (by decide +kernel)) rfl
theorem kw_934 : Cond.selects RX11 yX11_turnedNumber yX11_turnedNumber ∈ lw_all := ks_6 (q := (⟨"TwoSetMachineModel", "turnedNumber", "(I)I"⟩, 14)) (List.mem_of_getElem? (i := 4) rfl)
theorem kw_935 : Cond.code yX11_turnedNumber cX11_turnedNumber 3 (some .int) ∈ lw_all := kt_5 (List.mem_of_getElem? (i := 180) rfl) rfl
theorem kw_936 : Cond.methodLink RX11 214 yX11_data ∈ lw_all := kt_5 (List.mem_of_getElem? (i := 182) (by decide +kernel)) rfl
theorem kw_937 : Cond.instanceMethod yX11_data ∈ lw_all := kt_5 (List.mem_of_getElem? (i := 184) (by decide +kernel)) rfl
theorem kw_938 : Cond.selects RX11 yX11_data yX11_data ∈ lw_all := ks_6 (q := (⟨"TwoSetMachineModel", "data", "(I)V"⟩, 14)) (List.mem_of_getElem? (i := 5) rfl)
theorem kw_939 : Cond.code yX11_data cX11_data 11 none ∈ lw_all := kt_5 (List.mem_of_getElem? (i := 185) rfl) rfl
theorem kw_940 : Cond.methodLink RX11 217 yX11_single ∈ lw_all := kt_5 (List.mem_of_getElem? (i := 186) (by decide +kernel)) rfl
theorem kw_941 : Cond.instanceMethod yX11_single ∈ lw_all := kt_5 (List.mem_of_getElem? (i := 188) (by decide +kernel)) rfl
theorem kw_942 : Cond.selects RX11 yX11_single yX11_single ∈ lw_all := ks_6 (q := (⟨"TwoSetMachineModel", "single", "(I)V"⟩, 14)) (List.mem_of_getElem? (i := 6) rfl)
theorem kw_943 : Cond.code yX11_single cX11_single 3 none ∈ lw_all := kt_5 (List.mem_of_getElem? (i := 189) rfl) rfl
theorem kw_944 : Cond.methodLink RX11 224 yX11_branch ∈ lw_all := kt_5 (List.mem_of_getElem? (i := 190) (by decide +kernel)) rfl
theorem kw_945 : Cond.instanceMethod yX11_branch ∈ lw_all := kt_5 (List.mem_of_getElem? (i := 192) (by decide +kernel)) rfl
theorem kw_946 : Cond.selects RX11 yX11_branch yX11_branch ∈ lw_all := ks_6 (q := (⟨"TwoSetMachineModel", "branch", "(I)V"⟩, 14)) (List.mem_of_getElem? (i := 7) rfl)
theorem kw_947 : Cond.code yX11_branch cX11_branch 2 none ∈ lw_all := kt_5 (List.mem_of_getElem? (i := 193) rfl) rfl
theorem kw_948 : Cond.methodLink RL 80 yL_count ∈ lw_all := kt_4 (List.mem_of_getElem? (i := 79) (by decide +kernel)) rfl
theorem kw_949 : Cond.static yL_count ∈ lw_all := kt_4 (List.mem_of_getElem? (i := 80) (by decide +kernel)) rfl
theorem kw_950 : Cond.codeWith yL_count cL_count 4 (some .int) [(0, 9, 12, 15)] ∈ lw_all := kt_4 (List.mem_of_getElem? (i := 81) rfl) rfl
theorem kw_951 : Cond.methodLink RL 38 yX10_count ∈ lw_all := kt_4 (List.mem_of_getElem? (i := 82) (by decide +kernel)) rfl
theorem kw_952 : Cond.instanceMethod yX10_count ∈ lw_all := kt_4 (List.mem_of_getElem? (i := 83) (by decide +kernel)) rfl
theorem kw_953 : Cond.selects RX10 yX10_count yX10_count ∈ lw_all := kt_4 (List.mem_of_getElem? (i := 84) (by decide +kernel)) rfl
theorem kw_954 : Cond.code yX10_count cX10_count 2 (some .int) ∈ lw_all := kt_4 (List.mem_of_getElem? (i := 85) rfl) rfl
theorem kw_955 : Cond.methodLink RX10 106 yX5_steps ∈ lw_all := kt_4 (List.mem_of_getElem? (i := 87) (by decide +kernel)) rfl
theorem kw_956 : Cond.instanceMethod yX5_steps ∈ lw_all := kt_4 (List.mem_of_getElem? (i := 88) (by decide +kernel)) rfl
theorem kw_957 : Cond.selects RX5 yX5_steps yX5_steps ∈ lw_all := kt_4 (List.mem_of_getElem? (i := 89) (by decide +kernel)) rfl
theorem kw_958 : Cond.code yX5_steps cX5_steps 1 (some .int) ∈ lw_all := kt_4 (List.mem_of_getElem? (i := 90) rfl) rfl
theorem kw_959 : Cond.methodLink RX10 109 yX5_faultsOf ∈ lw_all := kt_4 (List.mem_of_getElem? (i := 91) (by decide +kernel)) rfl
theorem kw_960 : Cond.instanceMethod yX5_faultsOf ∈ lw_all := kt_4 (List.mem_of_getElem? (i := 92) (by decide +kernel)) rfl
theorem kw_961 : Cond.selects RX5 yX5_faultsOf yX5_faultsOf ∈ lw_all := kt_4 (List.mem_of_getElem? (i := 93) (by decide +kernel)) rfl
theorem kw_962 : Cond.code yX5_faultsOf cX5_faultsOf 2 (some .int) ∈ lw_all := kt_4 (List.mem_of_getElem? (i := 94) rfl) rfl
theorem kw_963 : Cond.methodLink RL 82 yX11_count ∈ lw_all := kt_5 (List.mem_of_getElem? (i := 194) (by decide +kernel)) rfl
theorem kw_964 : Cond.instanceMethod yX11_count ∈ lw_all := kt_5 (List.mem_of_getElem? (i := 195) (by decide +kernel)) rfl
theorem kw_965 : Cond.selects RX11 yX11_count yX11_count ∈ lw_all := kt_5 (List.mem_of_getElem? (i := 196) (by decide +kernel)) rfl
theorem kw_966 : Cond.code yX11_count cX11_count 2 (some .int) ∈ lw_all := kt_5 (List.mem_of_getElem? (i := 197) rfl) rfl
theorem ku_0 : ∀ w ∈ wsX00, w ∈ lw_all := by
  intro w h
  exact List.mem_filter.mpr ⟨(show ∀ w ∈ wsX00, w ∈ lw_tbl by decide +kernel) w h, (show ∀ w ∈ wsX00, goodWord w = true by decide +kernel) w h⟩
theorem ku_1 : ∀ w ∈ wsX10, w ∈ lw_all := by
  intro w h
  exact List.mem_filter.mpr ⟨(show ∀ w ∈ wsX10, w ∈ lw_tbl by decide +kernel) w h, (show ∀ w ∈ wsX10, goodWord w = true by decide +kernel) w h⟩
theorem ku_2 : ∀ w ∈ wsX20, w ∈ lw_all := by
  intro w h
  exact List.mem_filter.mpr ⟨(show ∀ w ∈ wsX20, w ∈ lw_tbl by decide +kernel) w h, (show ∀ w ∈ wsX20, goodWord w = true by decide +kernel) w h⟩
theorem ku_3 : ∀ w ∈ wsX30, w ∈ lw_all := by
  intro w h
  exact List.mem_filter.mpr ⟨(show ∀ w ∈ wsX30, w ∈ lw_tbl by decide +kernel) w h, (show ∀ w ∈ wsX30, goodWord w = true by decide +kernel) w h⟩
theorem ku_4 : ∀ w ∈ wsX40, w ∈ lw_all := by
  intro w h
  exact List.mem_filter.mpr ⟨(show ∀ w ∈ wsX40, w ∈ lw_tbl by decide +kernel) w h, (show ∀ w ∈ wsX40, goodWord w = true by decide +kernel) w h⟩
theorem ku_5 : ∀ w ∈ wsX50, w ∈ lw_all := by
  intro w h
  exact List.mem_filter.mpr ⟨(show ∀ w ∈ wsX50, w ∈ lw_tbl by decide +kernel) w h, (show ∀ w ∈ wsX50, goodWord w = true by decide +kernel) w h⟩
theorem ku_6 : ∀ w ∈ wsX60, w ∈ lw_all := by
  intro w h
  exact List.mem_filter.mpr ⟨(show ∀ w ∈ wsX60, w ∈ lw_tbl by decide +kernel) w h, (show ∀ w ∈ wsX60, goodWord w = true by decide +kernel) w h⟩
theorem ku_7 : ∀ w ∈ wsX70, w ∈ lw_all := by
  intro w h
  exact List.mem_filter.mpr ⟨(show ∀ w ∈ wsX70, w ∈ lw_tbl by decide +kernel) w h, (show ∀ w ∈ wsX70, goodWord w = true by decide +kernel) w h⟩
theorem ku_8 : ∀ w ∈ wsX80, w ∈ lw_all := by
  intro w h
  exact List.mem_filter.mpr ⟨(show ∀ w ∈ wsX80, w ∈ lw_tbl by decide +kernel) w h, (show ∀ w ∈ wsX80, goodWord w = true by decide +kernel) w h⟩
theorem ku_9 : ∀ w ∈ wsX90, w ∈ lw_all := by
  intro w h
  exact List.mem_filter.mpr ⟨(show ∀ w ∈ wsX90, w ∈ lw_tbl by decide +kernel) w h, (show ∀ w ∈ wsX90, goodWord w = true by decide +kernel) w h⟩
theorem ku_10 : ∀ w ∈ wsX100, w ∈ lw_all := by
  intro w h
  exact List.mem_filter.mpr ⟨(show ∀ w ∈ wsX100, w ∈ lw_tbl by decide +kernel) w h, (show ∀ w ∈ wsX100, goodWord w = true by decide +kernel) w h⟩
theorem ku_11 : ∀ w ∈ wsX110, w ∈ lw_all := by
  intro w h
  exact List.mem_filter.mpr ⟨(show ∀ w ∈ wsX110, w ∈ lw_tbl by decide +kernel) w h, (show ∀ w ∈ wsX110, goodWord w = true by decide +kernel) w h⟩
abbrev vwCl : List vw_C := [(RX0, TX0, 2), (RX1, TX1, 4), (RX4, TX4, 1), (RX5, TX5, 8), (RX6, TX6, 5), (RX7, TX7, 1), (RX8, TX8, 4), (RX9, TX9, 2), (RX10, TX10, 3), (RX11, TX11, 14)]
