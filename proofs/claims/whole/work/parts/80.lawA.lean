/-! The law's words. -/
abbrev cL_law : ByteArray := code
theorem mnT : ∀ w ∈ ([] : List Cond), w ∈ lw_tbl := fun _ h => absurd h List.not_mem_nil
theorem mcT {a : Cond} {l : List Cond} (h : a ∈ lw_tbl) (h2 : ∀ w ∈ l, w ∈ lw_tbl) : ∀ w ∈ a :: l, w ∈ lw_tbl := fun w hw => (List.mem_cons.mp hw).elim (fun e => by rw [e]; exact h) (h2 w)
theorem maT {a b : List Cond} (h : ∀ w ∈ a, w ∈ lw_tbl) (h2 : ∀ w ∈ b, w ∈ lw_tbl) : ∀ w ∈ a ++ b, w ∈ lw_tbl := fun w hw => (List.mem_append.mp hw).elim (h w) (h2 w)
set_option maxRecDepth 100000 in
theorem tw_0 : (Cond.code yX4_init cX4_init 2 none : Cond) ∈ lw_tbl := List.mem_append_right _ (List.mem_append_left _ (List.mem_of_getElem? (l := tables_1_1) (i := 14) rfl))
set_option maxRecDepth 100000 in
theorem tw_1 : (Cond.fieldLink RX1 9 "AlikePosts$Net" "marks" "[I" : Cond) ∈ lw_tbl := List.mem_append_right _ (List.mem_append_left _ (List.mem_of_getElem? (l := tables_1_1) (i := 29) rfl))
set_option maxRecDepth 100000 in
theorem tw_2 : (Cond.arrayClass .int : Cond) ∈ lw_tbl := List.mem_append_right _ (List.mem_append_left _ (List.mem_of_getElem? (l := tables_1_1) (i := 61) rfl))
set_option maxRecDepth 100000 in
theorem tw_3 : (Cond.methodLink RX1 3 objectInit : Cond) ∈ lw_tbl := List.mem_append_right _ (List.mem_append_left _ (List.mem_of_getElem? (l := tables_1_1) (i := 23) rfl))
set_option maxRecDepth 100000 in
theorem tw_4 : (Cond.code yX1_init cX1_init 1 none : Cond) ∈ lw_tbl := List.mem_append_right _ (List.mem_append_left _ (List.mem_of_getElem? (l := tables_1_1) (i := 22) rfl))
set_option maxRecDepth 100000 in
theorem tw_5 : (Cond.instanceMethod yX1_init : Cond) ∈ lw_tbl := List.mem_append_right _ (List.mem_append_left _ (List.mem_of_getElem? (l := tables_1_1) (i := 21) rfl))
set_option maxRecDepth 100000 in
theorem tw_6 : (Cond.initialized RX3 : Cond) ∈ lw_tbl := List.mem_append_right _ (List.mem_append_left _ (List.mem_of_getElem? (l := tables_1_1) (i := 5) rfl))
set_option maxRecDepth 100000 in
theorem tw_7 : (Cond.instantiable RX3 4 : Cond) ∈ lw_tbl := List.mem_append_right _ (List.mem_append_left _ (List.mem_of_getElem? (l := tables_1_1) (i := 137) rfl))
set_option maxRecDepth 100000 in
theorem tw_8 : (Cond.fieldLink RX4 36 "AlikePosts" "rows" "[LAlikePosts$Sheet;" : Cond) ∈ lw_tbl := List.mem_append_right _ (List.mem_append_left _ (List.mem_of_getElem? (l := tables_1_1) (i := 162) rfl))
set_option maxRecDepth 100000 in
theorem tw_9 : (Cond.classLink RX4 34 RX3 : Cond) ∈ lw_tbl := List.mem_append_right _ (List.mem_append_left _ (List.mem_of_getElem? (l := tables_1_1) (i := 135) rfl))
set_option maxRecDepth 100000 in
theorem tw_10 : (Cond.fieldLink RX4 30 "AlikePosts" "latest" "LAlikePosts$Flooding;" : Cond) ∈ lw_tbl := List.mem_append_right _ (List.mem_append_left _ (List.mem_of_getElem? (l := tables_1_1) (i := 161) rfl))
set_option maxRecDepth 100000 in
theorem tw_11 : (Cond.initialized RX0 : Cond) ∈ lw_tbl := List.mem_append_right _ (List.mem_append_left _ (List.mem_of_getElem? (l := tables_1_1) (i := 4) rfl))
set_option maxRecDepth 100000 in
theorem tw_12 : (Cond.instantiable RX0 10 : Cond) ∈ lw_tbl := List.mem_append_right _ (List.mem_append_left _ (List.mem_of_getElem? (l := tables_1_1) (i := 92) rfl))
set_option maxRecDepth 100000 in
theorem tw_13 : (Cond.classLink RX4 27 RX0 : Cond) ∈ lw_tbl := List.mem_append_right _ (List.mem_append_left _ (List.mem_of_getElem? (l := tables_1_1) (i := 91) rfl))
set_option maxRecDepth 100000 in
theorem tw_14 : (Cond.fieldLink RX4 23 "AlikePosts" "order" "LAlikePosts$Ranks;" : Cond) ∈ lw_tbl := List.mem_append_right _ (List.mem_append_left _ (List.mem_of_getElem? (l := tables_1_1) (i := 160) rfl))
set_option maxRecDepth 100000 in
theorem tw_15 : (Cond.initialized RX2 : Cond) ∈ lw_tbl := List.mem_append_right _ (List.mem_append_left _ (List.mem_of_getElem? (l := tables_1_1) (i := 3) rfl))
set_option maxRecDepth 100000 in
theorem tw_16 : (Cond.instantiable RX2 7 : Cond) ∈ lw_tbl := List.mem_append_right _ (List.mem_append_left _ (List.mem_of_getElem? (l := tables_1_1) (i := 63) rfl))
set_option maxRecDepth 100000 in
theorem tw_17 : (Cond.classLink RX4 18 RX2 : Cond) ∈ lw_tbl := List.mem_append_right _ (List.mem_append_left _ (List.mem_of_getElem? (l := tables_1_1) (i := 62) rfl))
set_option maxRecDepth 100000 in
theorem tw_18 : (Cond.fieldLink RX4 14 "AlikePosts" "net" "LAlikePosts$Net;" : Cond) ∈ lw_tbl := List.mem_append_right _ (List.mem_append_left _ (List.mem_of_getElem? (l := tables_1_1) (i := 159) rfl))
set_option maxRecDepth 100000 in
theorem tw_19 : (Cond.initialized RX1 : Cond) ∈ lw_tbl := List.mem_append_right _ (List.mem_append_left _ (List.mem_of_getElem? (l := tables_1_1) (i := 2) rfl))
set_option maxRecDepth 100000 in
theorem tw_20 : (Cond.instantiable RX1 8 : Cond) ∈ lw_tbl := List.mem_append_right _ (List.mem_append_left _ (List.mem_of_getElem? (l := tables_1_1) (i := 19) rfl))
set_option maxRecDepth 100000 in
theorem tw_21 : (Cond.classLink RX4 11 RX1 : Cond) ∈ lw_tbl := List.mem_append_right _ (List.mem_append_left _ (List.mem_of_getElem? (l := tables_1_1) (i := 18) rfl))
set_option maxRecDepth 100000 in
theorem tw_22 : (Cond.code objectInit ⟨#[0xb1]⟩ 1 none : Cond) ∈ lw_tbl := List.mem_append_right _ (List.mem_append_left _ (List.mem_of_getElem? (l := tables_1_1) (i := 17) rfl))
set_option maxRecDepth 100000 in
theorem tw_23 : (Cond.instanceMethod objectInit : Cond) ∈ lw_tbl := List.mem_append_right _ (List.mem_append_left _ (List.mem_of_getElem? (l := tables_1_1) (i := 16) rfl))
set_option maxRecDepth 100000 in
theorem tw_24 : (Cond.methodLink RX4 5 objectInit : Cond) ∈ lw_tbl := List.mem_append_right _ (List.mem_append_left _ (List.mem_of_getElem? (l := tables_1_1) (i := 15) rfl))
set_option maxRecDepth 100000 in
theorem tw_25 : (Cond.arrayClass .boolean : Cond) ∈ lw_tbl := List.mem_append_right _ (List.mem_append_left _ (List.mem_of_getElem? (l := tables_1_1) (i := 134) rfl))
set_option maxRecDepth 100000 in
theorem tw_26 : (Cond.fieldLink RX0 21 "AlikePosts$Flooding" "loads" "[I" : Cond) ∈ lw_tbl := List.mem_append_right _ (List.mem_append_left _ (List.mem_of_getElem? (l := tables_1_1) (i := 108) rfl))
set_option maxRecDepth 100000 in
theorem tw_27 : (Cond.fieldLink RX0 18 "AlikePosts$Flooding" "depths" "[I" : Cond) ∈ lw_tbl := List.mem_append_right _ (List.mem_append_left _ (List.mem_of_getElem? (l := tables_1_1) (i := 106) rfl))
set_option maxRecDepth 100000 in
theorem tw_28 : (Cond.fieldLink RX0 15 "AlikePosts$Flooding" "parentPorts" "[I" : Cond) ∈ lw_tbl := List.mem_append_right _ (List.mem_append_left _ (List.mem_of_getElem? (l := tables_1_1) (i := 104) rfl))
set_option maxRecDepth 100000 in
theorem tw_29 : (Cond.fieldLink RX0 9 "AlikePosts$Flooding" "comings" "[I" : Cond) ∈ lw_tbl := List.mem_append_right _ (List.mem_append_left _ (List.mem_of_getElem? (l := tables_1_1) (i := 102) rfl))
set_option maxRecDepth 100000 in
theorem tw_30 : (Cond.methodLink RX0 3 objectInit : Cond) ∈ lw_tbl := List.mem_append_right _ (List.mem_append_left _ (List.mem_of_getElem? (l := tables_1_1) (i := 96) rfl))
set_option maxRecDepth 100000 in
theorem tw_31 : (Cond.code yX0_init cX0_init 2 none : Cond) ∈ lw_tbl := List.mem_append_right _ (List.mem_append_left _ (List.mem_of_getElem? (l := tables_1_1) (i := 95) rfl))
set_option maxRecDepth 100000 in
theorem tw_32 : (Cond.instanceMethod yX0_init : Cond) ∈ lw_tbl := List.mem_append_right _ (List.mem_append_left _ (List.mem_of_getElem? (l := tables_1_1) (i := 94) rfl))
set_option maxRecDepth 100000 in
theorem tw_33 : (Cond.methodLink RX4 29 yX0_init : Cond) ∈ lw_tbl := List.mem_append_right _ (List.mem_append_left _ (List.mem_of_getElem? (l := tables_1_1) (i := 93) rfl))
set_option maxRecDepth 100000 in
theorem tw_34 : (Cond.fieldLink RX2 25 "AlikePosts$Ranks" "net" "LAlikePosts$Net;" : Cond) ∈ lw_tbl := List.mem_append_right _ (List.mem_append_left _ (List.mem_of_getElem? (l := tables_1_1) (i := 68) rfl))
set_option maxRecDepth 100000 in
theorem tw_35 : (Cond.fieldLink RX2 22 "AlikePosts$Ranks" "unlikeKeys" "[J" : Cond) ∈ lw_tbl := List.mem_append_right _ (List.mem_append_left _ (List.mem_of_getElem? (l := tables_1_1) (i := 72) rfl))
set_option maxRecDepth 100000 in
theorem tw_36 : (Cond.fieldLink RX2 18 "AlikePosts$Ranks" "keys" "[J" : Cond) ∈ lw_tbl := List.mem_append_right _ (List.mem_append_left _ (List.mem_of_getElem? (l := tables_1_1) (i := 71) rfl))
set_option maxRecDepth 100000 in
theorem tw_37 : (Cond.arrayClass .long : Cond) ∈ lw_tbl := List.mem_append_right _ (List.mem_append_left _ (List.mem_of_getElem? (l := tables_1_1) (i := 90) rfl))
set_option maxRecDepth 100000 in
theorem tw_38 : (Cond.fieldLink RX2 15 "AlikePosts$Ranks" "unlike" "[I" : Cond) ∈ lw_tbl := List.mem_append_right _ (List.mem_append_left _ (List.mem_of_getElem? (l := tables_1_1) (i := 70) rfl))
set_option maxRecDepth 100000 in
theorem tw_39 : (Cond.fieldLink RX2 9 "AlikePosts$Ranks" "table" "[I" : Cond) ∈ lw_tbl := List.mem_append_right _ (List.mem_append_left _ (List.mem_of_getElem? (l := tables_1_1) (i := 69) rfl))
set_option maxRecDepth 100000 in
theorem tw_40 : (Cond.methodLink RX2 3 objectInit : Cond) ∈ lw_tbl := List.mem_append_right _ (List.mem_append_left _ (List.mem_of_getElem? (l := tables_1_1) (i := 67) rfl))
set_option maxRecDepth 100000 in
theorem tw_41 : (Cond.code yX2_init cX2_init 2 none : Cond) ∈ lw_tbl := List.mem_append_right _ (List.mem_append_left _ (List.mem_of_getElem? (l := tables_1_1) (i := 66) rfl))
set_option maxRecDepth 100000 in
theorem tw_42 : (Cond.instanceMethod yX2_init : Cond) ∈ lw_tbl := List.mem_append_right _ (List.mem_append_left _ (List.mem_of_getElem? (l := tables_1_1) (i := 65) rfl))
set_option maxRecDepth 100000 in
theorem tw_43 : (Cond.methodLink RX4 20 yX2_init : Cond) ∈ lw_tbl := List.mem_append_right _ (List.mem_append_left _ (List.mem_of_getElem? (l := tables_1_1) (i := 64) rfl))
set_option maxRecDepth 100000 in
theorem tw_44 : (Cond.fieldLink RX1 27 "AlikePosts$Net" "portsOnTrial" "[I" : Cond) ∈ lw_tbl := List.mem_append_right _ (List.mem_append_left _ (List.mem_of_getElem? (l := tables_1_1) (i := 43) rfl))
set_option maxRecDepth 100000 in
theorem tw_45 : (Cond.fieldLink RX1 24 "AlikePosts$Net" "reached" "[I" : Cond) ∈ lw_tbl := List.mem_append_right _ (List.mem_append_left _ (List.mem_of_getElem? (l := tables_1_1) (i := 42) rfl))
set_option maxRecDepth 100000 in
theorem tw_46 : (Cond.fieldLink RX1 21 "AlikePosts$Net" "far" "[I" : Cond) ∈ lw_tbl := List.mem_append_right _ (List.mem_append_left _ (List.mem_of_getElem? (l := tables_1_1) (i := 40) rfl))
set_option maxRecDepth 100000 in
theorem tw_47 : (Cond.fieldLink RX1 18 "AlikePosts$Net" "across" "[I" : Cond) ∈ lw_tbl := List.mem_append_right _ (List.mem_append_left _ (List.mem_of_getElem? (l := tables_1_1) (i := 36) rfl))
set_option maxRecDepth 100000 in
theorem tw_48 : (Cond.fieldLink RX1 15 "AlikePosts$Net" "ports" "[I" : Cond) ∈ lw_tbl := List.mem_append_right _ (List.mem_append_left _ (List.mem_of_getElem? (l := tables_1_1) (i := 32) rfl))
set_option maxRecDepth 100000 in
theorem tw_49 : (Cond.fieldLink RX3 9 "AlikePosts$Sheet" "cells" "[I" : Cond) ∈ lw_tbl := List.mem_append_right _ (List.mem_append_left _ (List.mem_of_getElem? (l := tables_1_1) (i := 147) rfl))
set_option maxRecDepth 100000 in
theorem tw_50 : (Cond.methodLink RX3 3 objectInit : Cond) ∈ lw_tbl := List.mem_append_right _ (List.mem_append_left _ (List.mem_of_getElem? (l := tables_1_1) (i := 141) rfl))
set_option maxRecDepth 100000 in
theorem tw_51 : (Cond.code yX3_init cX3_init 1 none : Cond) ∈ lw_tbl := List.mem_append_right _ (List.mem_append_left _ (List.mem_of_getElem? (l := tables_1_1) (i := 140) rfl))
set_option maxRecDepth 100000 in
theorem tw_52 : (Cond.instanceMethod yX3_init : Cond) ∈ lw_tbl := List.mem_append_right _ (List.mem_append_left _ (List.mem_of_getElem? (l := tables_1_1) (i := 139) rfl))
set_option maxRecDepth 100000 in
theorem tw_53 : (Cond.fieldLink RX0 28 "AlikePosts$Flooding" "net" "LAlikePosts$Net;" : Cond) ∈ lw_tbl := List.mem_append_right _ (List.mem_append_left _ (List.mem_of_getElem? (l := tables_1_1) (i := 97) rfl))
set_option maxRecDepth 100000 in
theorem tw_54 : (Cond.fieldLink RX0 24 "AlikePosts$Flooding" "underWay" "[Z" : Cond) ∈ lw_tbl := List.mem_append_right _ (List.mem_append_left _ (List.mem_of_getElem? (l := tables_1_1) (i := 110) rfl))
set_option maxRecDepth 100000 in
theorem tw_55 : (Cond.code yX4_clear cX4_clear 2 (some .int) : Cond) ∈ lw_tbl := List.mem_append_right _ (List.mem_append_left _ (List.mem_of_getElem? (l := tables_1_1) (i := 181) rfl))
set_option maxRecDepth 100000 in
theorem tw_56 : (Cond.fieldLink RX2 29 "AlikePosts$Ranks" "reckoned" "Z" : Cond) ∈ lw_tbl := List.mem_append_right _ (List.mem_append_left _ (List.mem_of_getElem? (l := tables_1_1) (i := 74) rfl))
set_option maxRecDepth 100000 in
theorem tw_57 : (Cond.code yX2_forget cX2_forget 1 none : Cond) ∈ lw_tbl := List.mem_append_right _ (List.mem_append_left _ (List.mem_of_getElem? (l := tables_1_1) (i := 193) rfl))
set_option maxRecDepth 100000 in
theorem tw_58 : (Cond.selects RX2 yX2_forget yX2_forget : Cond) ∈ lw_tbl := List.mem_append_right _ (List.mem_append_left _ (List.mem_of_getElem? (l := tables_1_1) (i := 192) rfl))
set_option maxRecDepth 100000 in
theorem tw_59 : (Cond.instanceMethod yX2_forget : Cond) ∈ lw_tbl := List.mem_append_right _ (List.mem_append_left _ (List.mem_of_getElem? (l := tables_1_1) (i := 191) rfl))
set_option maxRecDepth 100000 in
theorem tw_60 : (Cond.methodLink RX4 66 yX2_forget : Cond) ∈ lw_tbl := List.mem_append_right _ (List.mem_append_left _ (List.mem_of_getElem? (l := tables_1_1) (i := 190) rfl))
set_option maxRecDepth 100000 in
theorem tw_61 : (Cond.fieldLink RX4 183 "AlikePosts$Flooding" "there" "Z" : Cond) ∈ lw_tbl := List.mem_append_right _ (List.mem_append_left _ (List.mem_of_getElem? (l := tables_1_1) (i := 99) rfl))
set_option maxRecDepth 100000 in
theorem tw_62 : (Cond.code yX4_netIsNew cX4_netIsNew 1 none : Cond) ∈ lw_tbl := List.mem_append_right _ (List.mem_append_left _ (List.mem_of_getElem? (l := tables_1_1) (i := 189) rfl))
set_option maxRecDepth 100000 in
theorem tw_63 : (Cond.initialized RX4 : Cond) ∈ lw_tbl := List.mem_append_right _ (List.mem_append_left _ (List.mem_of_getElem? (l := tables_1_1) (i := 1) rfl))
set_option maxRecDepth 100000 in
theorem tw_64 : (Cond.selects RX4 yX4_netIsNew yX4_netIsNew : Cond) ∈ lw_tbl := List.mem_append_left _ (List.mem_of_getElem? (l := k2_sels lw_privs) (i := 0) rfl)
set_option maxRecDepth 100000 in
theorem tw_65 : (Cond.instanceMethod yX4_netIsNew : Cond) ∈ lw_tbl := List.mem_append_right _ (List.mem_append_left _ (List.mem_of_getElem? (l := tables_1_1) (i := 188) rfl))
set_option maxRecDepth 100000 in
theorem tw_66 : (Cond.methodLink RX4 48 yX4_netIsNew : Cond) ∈ lw_tbl := List.mem_append_right _ (List.mem_append_left _ (List.mem_of_getElem? (l := tables_1_1) (i := 186) rfl))
set_option maxRecDepth 100000 in
theorem tw_67 : (Cond.fieldLink RX1 38 "AlikePosts$Net" "lines" "I" : Cond) ∈ lw_tbl := List.mem_append_right _ (List.mem_append_left _ (List.mem_of_getElem? (l := tables_1_1) (i := 27) rfl))
set_option maxRecDepth 100000 in
theorem tw_68 : (Cond.fieldLink RX1 30 "AlikePosts$Net" "posts" "I" : Cond) ∈ lw_tbl := List.mem_append_right _ (List.mem_append_left _ (List.mem_of_getElem? (l := tables_1_1) (i := 25) rfl))
set_option maxRecDepth 100000 in
theorem tw_69 : (Cond.code yX1_removeAll cX1_removeAll 1 none : Cond) ∈ lw_tbl := List.mem_append_right _ (List.mem_append_left _ (List.mem_of_getElem? (l := tables_1_1) (i := 185) rfl))
set_option maxRecDepth 100000 in
theorem tw_70 : (Cond.selects RX1 yX1_removeAll yX1_removeAll : Cond) ∈ lw_tbl := List.mem_append_right _ (List.mem_append_left _ (List.mem_of_getElem? (l := tables_1_1) (i := 184) rfl))
set_option maxRecDepth 100000 in
theorem tw_71 : (Cond.instanceMethod yX1_removeAll : Cond) ∈ lw_tbl := List.mem_append_right _ (List.mem_append_left _ (List.mem_of_getElem? (l := tables_1_1) (i := 183) rfl))
set_option maxRecDepth 100000 in
theorem tw_72 : (Cond.methodLink RX4 45 yX1_removeAll : Cond) ∈ lw_tbl := List.mem_append_right _ (List.mem_append_left _ (List.mem_of_getElem? (l := tables_1_1) (i := 182) rfl))
set_option maxRecDepth 100000 in
theorem tw_73 : (Cond.fieldLink RX4 41 "AlikePosts$Net" "posts" "I" : Cond) ∈ lw_tbl := List.mem_append_right _ (List.mem_append_left _ (List.mem_of_getElem? (l := tables_1_1) (i := 24) rfl))
set_option maxRecDepth 100000 in
theorem tw_74 : (Cond.selects RX4 yX4_clear yX4_clear : Cond) ∈ lw_tbl := List.mem_append_right _ (List.mem_append_left _ (List.mem_of_getElem? (l := tables_1_1) (i := 180) rfl))
set_option maxRecDepth 100000 in
theorem tw_75 : (Cond.instanceMethod yX4_clear : Cond) ∈ lw_tbl := List.mem_append_right _ (List.mem_append_left _ (List.mem_of_getElem? (l := tables_1_1) (i := 179) rfl))
set_option maxRecDepth 100000 in
theorem tw_76 : (Cond.methodLink RL 13 yX4_clear : Cond) ∈ lw_tbl := List.mem_append_right _ (List.mem_append_left _ (List.mem_of_getElem? (l := tables_1_1) (i := 178) rfl))
set_option maxRecDepth 100000 in
theorem tw_77 : (Cond.code yX4_post cX4_post 2 (some .int) : Cond) ∈ lw_tbl := List.mem_append_right _ (List.mem_append_left _ (List.mem_of_getElem? (l := tables_1_1) (i := 197) rfl))
set_option maxRecDepth 100000 in
theorem tw_78 : (Cond.code yX1_addPost cX1_addPost 3 (some .int) : Cond) ∈ lw_tbl := List.mem_append_right _ (List.mem_append_left _ (List.mem_of_getElem? (l := tables_1_1) (i := 204) rfl))
set_option maxRecDepth 100000 in
theorem tw_79 : (Cond.selects RX1 yX1_addPost yX1_addPost : Cond) ∈ lw_tbl := List.mem_append_right _ (List.mem_append_left _ (List.mem_of_getElem? (l := tables_1_1) (i := 203) rfl))
set_option maxRecDepth 100000 in
theorem tw_80 : (Cond.instanceMethod yX1_addPost : Cond) ∈ lw_tbl := List.mem_append_right _ (List.mem_append_left _ (List.mem_of_getElem? (l := tables_1_1) (i := 202) rfl))
set_option maxRecDepth 100000 in
theorem tw_81 : (Cond.methodLink RX4 55 yX1_addPost : Cond) ∈ lw_tbl := List.mem_append_right _ (List.mem_append_left _ (List.mem_of_getElem? (l := tables_1_1) (i := 201) rfl))
set_option maxRecDepth 100000 in
theorem tw_82 : (Cond.code yX4_isMark cX4_isMark 1 (some .boolean) : Cond) ∈ lw_tbl := List.mem_append_right _ (List.mem_append_left _ (List.mem_of_getElem? (l := tables_1_1) (i := 200) rfl))
set_option maxRecDepth 100000 in
theorem tw_83 : (Cond.static yX4_isMark : Cond) ∈ lw_tbl := List.mem_append_right _ (List.mem_append_left _ (List.mem_of_getElem? (l := tables_1_1) (i := 199) rfl))
set_option maxRecDepth 100000 in
theorem tw_84 : (Cond.methodLink RX4 51 yX4_isMark : Cond) ∈ lw_tbl := List.mem_append_right _ (List.mem_append_left _ (List.mem_of_getElem? (l := tables_1_1) (i := 198) rfl))
set_option maxRecDepth 100000 in
theorem tw_85 : (Cond.selects RX4 yX4_post yX4_post : Cond) ∈ lw_tbl := List.mem_append_right _ (List.mem_append_left _ (List.mem_of_getElem? (l := tables_1_1) (i := 196) rfl))
set_option maxRecDepth 100000 in
theorem tw_86 : (Cond.instanceMethod yX4_post : Cond) ∈ lw_tbl := List.mem_append_right _ (List.mem_append_left _ (List.mem_of_getElem? (l := tables_1_1) (i := 195) rfl))
set_option maxRecDepth 100000 in
theorem tw_87 : (Cond.methodLink RL 18 yX4_post : Cond) ∈ lw_tbl := List.mem_append_right _ (List.mem_append_left _ (List.mem_of_getElem? (l := tables_1_1) (i := 194) rfl))
set_option maxRecDepth 100000 in
theorem tw_88 : (Cond.code yX4_mark cX4_mark 4 (some .int) : Cond) ∈ lw_tbl := List.mem_append_right _ (List.mem_append_left _ (List.mem_of_getElem? (l := tables_1_1) (i := 208) rfl))
set_option maxRecDepth 100000 in
theorem tw_89 : (Cond.code yX1_has cX1_has 2 (some .boolean) : Cond) ∈ lw_tbl := List.mem_append_right _ (List.mem_append_left _ (List.mem_of_getElem? (l := tables_1_1) (i := 212) rfl))
set_option maxRecDepth 100000 in
theorem tw_90 : (Cond.selects RX1 yX1_has yX1_has : Cond) ∈ lw_tbl := List.mem_append_right _ (List.mem_append_left _ (List.mem_of_getElem? (l := tables_1_1) (i := 211) rfl))
set_option maxRecDepth 100000 in
theorem tw_91 : (Cond.instanceMethod yX1_has : Cond) ∈ lw_tbl := List.mem_append_right _ (List.mem_append_left _ (List.mem_of_getElem? (l := tables_1_1) (i := 210) rfl))
set_option maxRecDepth 100000 in
theorem tw_92 : (Cond.methodLink RX4 59 yX1_has : Cond) ∈ lw_tbl := List.mem_append_right _ (List.mem_append_left _ (List.mem_of_getElem? (l := tables_1_1) (i := 209) rfl))
set_option maxRecDepth 100000 in
theorem tw_93 : (Cond.fieldLink RX4 62 "AlikePosts$Net" "marks" "[I" : Cond) ∈ lw_tbl := List.mem_append_right _ (List.mem_append_left _ (List.mem_of_getElem? (l := tables_1_1) (i := 30) rfl))
set_option maxRecDepth 100000 in
theorem tw_94 : (Cond.selects RX4 yX4_mark yX4_mark : Cond) ∈ lw_tbl := List.mem_append_right _ (List.mem_append_left _ (List.mem_of_getElem? (l := tables_1_1) (i := 207) rfl))
set_option maxRecDepth 100000 in
theorem tw_95 : (Cond.instanceMethod yX4_mark : Cond) ∈ lw_tbl := List.mem_append_right _ (List.mem_append_left _ (List.mem_of_getElem? (l := tables_1_1) (i := 206) rfl))
set_option maxRecDepth 100000 in
theorem tw_96 : (Cond.methodLink RL 23 yX4_mark : Cond) ∈ lw_tbl := List.mem_append_right _ (List.mem_append_left _ (List.mem_of_getElem? (l := tables_1_1) (i := 205) rfl))
set_option maxRecDepth 100000 in
theorem tw_97 : (Cond.code yX4_line cX4_line 4 (some .int) : Cond) ∈ lw_tbl := List.mem_append_right _ (List.mem_append_left _ (List.mem_of_getElem? (l := tables_1_1) (i := 216) rfl))
set_option maxRecDepth 100000 in
theorem tw_98 : (Cond.instanceMethod yX1_tie : Cond) ∈ lw_tbl := List.mem_append_right _ (List.mem_append_left _ (List.mem_of_getElem? (l := tables_1_1) (i := 231) rfl))
set_option maxRecDepth 100000 in
theorem tw_99 : (Cond.methodLink RX1 60 yX1_tie : Cond) ∈ lw_tbl := List.mem_append_right _ (List.mem_append_left _ (List.mem_of_getElem? (l := tables_1_1) (i := 229) rfl))
set_option maxRecDepth 100000 in
theorem tw_100 : (Cond.code yX4_slotOf cX4_slotOf 2 (some .int) : Cond) ∈ lw_tbl := List.mem_append_right _ (List.mem_append_left _ (List.mem_of_getElem? (l := tables_1_1) (i := 228) rfl))
set_option maxRecDepth 100000 in
theorem tw_101 : (Cond.static yX4_slotOf : Cond) ∈ lw_tbl := List.mem_append_right _ (List.mem_append_left _ (List.mem_of_getElem? (l := tables_1_1) (i := 227) rfl))
set_option maxRecDepth 100000 in
theorem tw_102 : (Cond.code yX1_join cX1_join 3 none : Cond) ∈ lw_tbl := List.mem_append_right _ (List.mem_append_left _ (List.mem_of_getElem? (l := tables_1_1) (i := 225) rfl))
set_option maxRecDepth 100000 in
theorem tw_103 : (Cond.selects RX1 yX1_join yX1_join : Cond) ∈ lw_tbl := List.mem_append_right _ (List.mem_append_left _ (List.mem_of_getElem? (l := tables_1_1) (i := 224) rfl))
set_option maxRecDepth 100000 in
theorem tw_104 : (Cond.instanceMethod yX1_join : Cond) ∈ lw_tbl := List.mem_append_right _ (List.mem_append_left _ (List.mem_of_getElem? (l := tables_1_1) (i := 223) rfl))
set_option maxRecDepth 100000 in
theorem tw_105 : (Cond.methodLink RX4 76 yX1_join : Cond) ∈ lw_tbl := List.mem_append_right _ (List.mem_append_left _ (List.mem_of_getElem? (l := tables_1_1) (i := 222) rfl))
set_option maxRecDepth 100000 in
theorem tw_106 : (Cond.methodLink RX1 34 yX1_has : Cond) ∈ lw_tbl := List.mem_append_right _ (List.mem_append_left _ (List.mem_of_getElem? (l := tables_1_1) (i := 221) rfl))
set_option maxRecDepth 100000 in
theorem tw_107 : (Cond.code yX1_refusalOfLine cX1_refusalOfLine 4 (some .int) : Cond) ∈ lw_tbl := List.mem_append_right _ (List.mem_append_left _ (List.mem_of_getElem? (l := tables_1_1) (i := 220) rfl))
set_option maxRecDepth 100000 in
theorem tw_108 : (Cond.selects RX1 yX1_refusalOfLine yX1_refusalOfLine : Cond) ∈ lw_tbl := List.mem_append_right _ (List.mem_append_left _ (List.mem_of_getElem? (l := tables_1_1) (i := 219) rfl))
set_option maxRecDepth 100000 in
theorem tw_109 : (Cond.instanceMethod yX1_refusalOfLine : Cond) ∈ lw_tbl := List.mem_append_right _ (List.mem_append_left _ (List.mem_of_getElem? (l := tables_1_1) (i := 218) rfl))
set_option maxRecDepth 100000 in
theorem tw_110 : (Cond.methodLink RX4 72 yX1_refusalOfLine : Cond) ∈ lw_tbl := List.mem_append_right _ (List.mem_append_left _ (List.mem_of_getElem? (l := tables_1_1) (i := 217) rfl))
set_option maxRecDepth 100000 in
theorem tw_111 : (Cond.fieldLink RX4 80 "AlikePosts$Net" "lines" "I" : Cond) ∈ lw_tbl := List.mem_append_right _ (List.mem_append_left _ (List.mem_of_getElem? (l := tables_1_1) (i := 28) rfl))
set_option maxRecDepth 100000 in
theorem tw_112 : (Cond.fieldLink RX4 69 "AlikePosts$Net" "ports" "[I" : Cond) ∈ lw_tbl := List.mem_append_right _ (List.mem_append_left _ (List.mem_of_getElem? (l := tables_1_1) (i := 34) rfl))
set_option maxRecDepth 100000 in
theorem tw_113 : (Cond.code yX1_tie cX1_tie 3 none : Cond) ∈ lw_tbl := List.mem_append_right _ (List.mem_append_left _ (List.mem_of_getElem? (l := tables_1_1) (i := 232) rfl))
set_option maxRecDepth 100000 in
theorem tw_114 : (Cond.selects RX1 yX1_tie yX1_tie : Cond) ∈ lw_tbl := List.mem_append_left _ (List.mem_of_getElem? (l := k2_sels lw_privs) (i := 1) rfl)
set_option maxRecDepth 100000 in
theorem tw_115 : (Cond.selects RX4 yX4_line yX4_line : Cond) ∈ lw_tbl := List.mem_append_right _ (List.mem_append_left _ (List.mem_of_getElem? (l := tables_1_1) (i := 215) rfl))
set_option maxRecDepth 100000 in
theorem tw_116 : (Cond.instanceMethod yX4_line : Cond) ∈ lw_tbl := List.mem_append_right _ (List.mem_append_left _ (List.mem_of_getElem? (l := tables_1_1) (i := 214) rfl))
set_option maxRecDepth 100000 in
theorem tw_117 : (Cond.methodLink RL 28 yX4_line : Cond) ∈ lw_tbl := List.mem_append_right _ (List.mem_append_left _ (List.mem_of_getElem? (l := tables_1_1) (i := 213) rfl))
set_option maxRecDepth 100000 in
theorem tw_118 : (Cond.code yX4_lines cX4_lines 8 (some .int) : Cond) ∈ lw_tbl := List.mem_append_right _ (List.mem_append_left _ (List.mem_of_getElem? (l := tables_1_1) (i := 236) rfl))
set_option maxRecDepth 100000 in
theorem tw_119 : (Cond.instanceMethod yX3_holds : Cond) ∈ lw_tbl := List.mem_append_right _ (List.mem_append_right _ (List.mem_append_left _ (List.mem_of_getElem? (l := tables_1_2) (i := 13) rfl)))
set_option maxRecDepth 100000 in
theorem tw_120 : (Cond.methodLink RX4 102 yX3_holds : Cond) ∈ lw_tbl := List.mem_append_right _ (List.mem_append_right _ (List.mem_append_left _ (List.mem_of_getElem? (l := tables_1_2) (i := 12) rfl)))
set_option maxRecDepth 100000 in
theorem tw_121 : (Cond.code yX4_comeTo cX4_comeTo 2 (some .int) : Cond) ∈ lw_tbl := List.mem_append_right _ (List.mem_append_right _ (List.mem_append_left _ (List.mem_of_getElem? (l := tables_1_2) (i := 10) rfl)))
set_option maxRecDepth 100000 in
theorem tw_122 : (Cond.selects RX4 yX4_comeTo yX4_comeTo : Cond) ∈ lw_tbl := List.mem_append_left _ (List.mem_of_getElem? (l := k2_sels lw_privs) (i := 3) rfl)
set_option maxRecDepth 100000 in
theorem tw_123 : (Cond.instanceMethod yX4_comeTo : Cond) ∈ lw_tbl := List.mem_append_right _ (List.mem_append_right _ (List.mem_append_left _ (List.mem_of_getElem? (l := tables_1_2) (i := 9) rfl)))
set_option maxRecDepth 100000 in
theorem tw_124 : (Cond.methodLink RX4 97 yX4_comeTo : Cond) ∈ lw_tbl := List.mem_append_right _ (List.mem_append_right _ (List.mem_append_left _ (List.mem_of_getElem? (l := tables_1_2) (i := 7) rfl)))
set_option maxRecDepth 100000 in
theorem tw_125 : (Cond.fieldLink RX4 215 "AlikePosts$Sheet" "lane" "I" : Cond) ∈ lw_tbl := List.mem_append_right _ (List.mem_append_left _ (List.mem_of_getElem? (l := tables_1_1) (i := 145) rfl))
set_option maxRecDepth 100000 in
theorem tw_126 : (Cond.fieldLink RX4 211 "AlikePosts$Sheet" "there" "Z" : Cond) ∈ lw_tbl := List.mem_append_right _ (List.mem_append_left _ (List.mem_of_getElem? (l := tables_1_1) (i := 143) rfl))
set_option maxRecDepth 100000 in
theorem tw_127 : (Cond.code yX4_faultAsRowOf cX4_faultAsRowOf 2 (some .int) : Cond) ∈ lw_tbl := List.mem_append_right _ (List.mem_append_right _ (List.mem_append_left _ (List.mem_of_getElem? (l := tables_1_2) (i := 6) rfl)))
set_option maxRecDepth 100000 in
theorem tw_128 : (Cond.static yX4_faultAsRowOf : Cond) ∈ lw_tbl := List.mem_append_right _ (List.mem_append_right _ (List.mem_append_left _ (List.mem_of_getElem? (l := tables_1_2) (i := 5) rfl)))
set_option maxRecDepth 100000 in
theorem tw_129 : (Cond.methodLink RX4 93 yX4_faultAsRowOf : Cond) ∈ lw_tbl := List.mem_append_right _ (List.mem_append_right _ (List.mem_append_left _ (List.mem_of_getElem? (l := tables_1_2) (i := 4) rfl)))
set_option maxRecDepth 100000 in
theorem tw_130 : (Cond.code yX4_isLane cX4_isLane 1 (some .boolean) : Cond) ∈ lw_tbl := List.mem_append_right _ (List.mem_append_right _ (List.mem_append_left _ (List.mem_of_getElem? (l := tables_1_2) (i := 3) rfl)))
set_option maxRecDepth 100000 in
theorem tw_131 : (Cond.static yX4_isLane : Cond) ∈ lw_tbl := List.mem_append_right _ (List.mem_append_right _ (List.mem_append_left _ (List.mem_of_getElem? (l := tables_1_2) (i := 2) rfl)))
set_option maxRecDepth 100000 in
theorem tw_132 : (Cond.methodLink RX4 90 yX4_isLane : Cond) ∈ lw_tbl := List.mem_append_right _ (List.mem_append_right _ (List.mem_append_left _ (List.mem_of_getElem? (l := tables_1_2) (i := 1) rfl)))
set_option maxRecDepth 100000 in
theorem tw_133 : (Cond.code yX4_rowAt cX4_rowAt 2 (some (.object "AlikePosts$Sheet")) : Cond) ∈ lw_tbl := List.mem_append_right _ (List.mem_append_right _ (List.mem_append_left _ (List.mem_of_getElem? (l := tables_1_2) (i := 0) rfl)))
set_option maxRecDepth 100000 in
theorem tw_134 : (Cond.selects RX4 yX4_rowAt yX4_rowAt : Cond) ∈ lw_tbl := List.mem_append_left _ (List.mem_of_getElem? (l := k2_sels lw_privs) (i := 2) rfl)
set_option maxRecDepth 100000 in
theorem tw_135 : (Cond.instanceMethod yX4_rowAt : Cond) ∈ lw_tbl := List.mem_append_right _ (List.mem_append_left _ (List.mem_of_getElem? (l := tables_1_1) (i := 239) rfl))
set_option maxRecDepth 100000 in
theorem tw_136 : (Cond.methodLink RX4 86 yX4_rowAt : Cond) ∈ lw_tbl := List.mem_append_right _ (List.mem_append_left _ (List.mem_of_getElem? (l := tables_1_1) (i := 237) rfl))
set_option maxRecDepth 100000 in
theorem tw_137 : (Cond.constantLong RX4 100 (2) : Cond) ∈ lw_tbl := List.mem_append_right _ (List.mem_append_right _ (List.mem_append_left _ (List.mem_of_getElem? (l := tables_1_2) (i := 11) rfl)))
set_option maxRecDepth 100000 in
theorem tw_138 : (Cond.fieldLink RX4 83 "AlikePosts" "latestFault" "I" : Cond) ∈ lw_tbl := List.mem_append_right _ (List.mem_append_left _ (List.mem_of_getElem? (l := tables_1_1) (i := 164) rfl))
set_option maxRecDepth 100000 in
theorem tw_139 : (Cond.methodLink RX1 52 yX1_refusalOfLine : Cond) ∈ lw_tbl := List.mem_append_right _ (List.mem_append_right _ (List.mem_append_left _ (List.mem_of_getElem? (l := tables_1_2) (i := 23) rfl)))
set_option maxRecDepth 100000 in
theorem tw_140 : (Cond.fieldLink RX1 47 "AlikePosts$Sheet" "cells" "[I" : Cond) ∈ lw_tbl := List.mem_append_right _ (List.mem_append_left _ (List.mem_of_getElem? (l := tables_1_1) (i := 148) rfl))
set_option maxRecDepth 100000 in
theorem tw_141 : (Cond.initialized "java/lang/System" : Cond) ∈ lw_tbl := List.mem_append_right _ (List.mem_append_left _ (List.mem_of_getElem? (l := tables_1_1) (i := 7) rfl))
set_option maxRecDepth 100000 in
theorem tw_142 : (Cond.static arraycopyName : Cond) ∈ lw_tbl := List.mem_append_right _ (List.mem_append_right _ (List.mem_append_left _ (List.mem_of_getElem? (l := tables_1_2) (i := 21) rfl)))
set_option maxRecDepth 100000 in
theorem tw_143 : (Cond.native arraycopyName : Cond) ∈ lw_tbl := List.mem_append_right _ (List.mem_append_right _ (List.mem_append_left _ (List.mem_of_getElem? (l := tables_1_2) (i := 22) rfl)))
set_option maxRecDepth 100000 in
theorem tw_144 : (Cond.methodLink RX1 41 arraycopyName : Cond) ∈ lw_tbl := List.mem_append_right _ (List.mem_append_right _ (List.mem_append_left _ (List.mem_of_getElem? (l := tables_1_2) (i := 20) rfl)))
set_option maxRecDepth 100000 in
theorem tw_145 : (Cond.code yX1_refusalOfLines cX1_refusalOfLines 8 (some .int) : Cond) ∈ lw_tbl := List.mem_append_right _ (List.mem_append_right _ (List.mem_append_left _ (List.mem_of_getElem? (l := tables_1_2) (i := 19) rfl)))
set_option maxRecDepth 100000 in
theorem tw_146 : (Cond.selects RX1 yX1_refusalOfLines yX1_refusalOfLines : Cond) ∈ lw_tbl := List.mem_append_right _ (List.mem_append_right _ (List.mem_append_left _ (List.mem_of_getElem? (l := tables_1_2) (i := 18) rfl)))
set_option maxRecDepth 100000 in
theorem tw_147 : (Cond.instanceMethod yX1_refusalOfLines : Cond) ∈ lw_tbl := List.mem_append_right _ (List.mem_append_right _ (List.mem_append_left _ (List.mem_of_getElem? (l := tables_1_2) (i := 17) rfl)))
set_option maxRecDepth 100000 in
theorem tw_148 : (Cond.methodLink RX4 106 yX1_refusalOfLines : Cond) ∈ lw_tbl := List.mem_append_right _ (List.mem_append_right _ (List.mem_append_left _ (List.mem_of_getElem? (l := tables_1_2) (i := 16) rfl)))
set_option maxRecDepth 100000 in
theorem tw_149 : (Cond.fieldLink RX3 23 "AlikePosts$Sheet" "size" "I" : Cond) ∈ lw_tbl := List.mem_append_right _ (List.mem_append_left _ (List.mem_of_getElem? (l := tables_1_1) (i := 146) rfl))
set_option maxRecDepth 100000 in
theorem tw_150 : (Cond.code yX3_holds cX3_holds 4 (some .boolean) : Cond) ∈ lw_tbl := List.mem_append_right _ (List.mem_append_right _ (List.mem_append_left _ (List.mem_of_getElem? (l := tables_1_2) (i := 15) rfl)))
set_option maxRecDepth 100000 in
theorem tw_151 : (Cond.selects RX3 yX3_holds yX3_holds : Cond) ∈ lw_tbl := List.mem_append_right _ (List.mem_append_right _ (List.mem_append_left _ (List.mem_of_getElem? (l := tables_1_2) (i := 14) rfl)))
set_option maxRecDepth 100000 in
theorem tw_152 : (Cond.methodLink RX1 64 yX1_join : Cond) ∈ lw_tbl := List.mem_append_right _ (List.mem_append_right _ (List.mem_append_left _ (List.mem_of_getElem? (l := tables_1_2) (i := 28) rfl)))
set_option maxRecDepth 100000 in
theorem tw_153 : (Cond.code yX1_joinAll cX1_joinAll 5 none : Cond) ∈ lw_tbl := List.mem_append_right _ (List.mem_append_right _ (List.mem_append_left _ (List.mem_of_getElem? (l := tables_1_2) (i := 27) rfl)))
set_option maxRecDepth 100000 in
theorem tw_154 : (Cond.selects RX1 yX1_joinAll yX1_joinAll : Cond) ∈ lw_tbl := List.mem_append_right _ (List.mem_append_right _ (List.mem_append_left _ (List.mem_of_getElem? (l := tables_1_2) (i := 26) rfl)))
set_option maxRecDepth 100000 in
theorem tw_155 : (Cond.instanceMethod yX1_joinAll : Cond) ∈ lw_tbl := List.mem_append_right _ (List.mem_append_right _ (List.mem_append_left _ (List.mem_of_getElem? (l := tables_1_2) (i := 25) rfl)))
set_option maxRecDepth 100000 in
theorem tw_156 : (Cond.methodLink RX4 110 yX1_joinAll : Cond) ∈ lw_tbl := List.mem_append_right _ (List.mem_append_right _ (List.mem_append_left _ (List.mem_of_getElem? (l := tables_1_2) (i := 24) rfl)))
set_option maxRecDepth 100000 in
theorem tw_157 : (Cond.selects RX4 yX4_lines yX4_lines : Cond) ∈ lw_tbl := List.mem_append_right _ (List.mem_append_left _ (List.mem_of_getElem? (l := tables_1_1) (i := 235) rfl))
set_option maxRecDepth 100000 in
theorem tw_158 : (Cond.instanceMethod yX4_lines : Cond) ∈ lw_tbl := List.mem_append_right _ (List.mem_append_left _ (List.mem_of_getElem? (l := tables_1_1) (i := 234) rfl))
set_option maxRecDepth 100000 in
theorem tw_159 : (Cond.methodLink RL 32 yX4_lines : Cond) ∈ lw_tbl := List.mem_append_right _ (List.mem_append_left _ (List.mem_of_getElem? (l := tables_1_1) (i := 233) rfl))
set_option maxRecDepth 100000 in
theorem tw_160 : (Cond.code yX4_swap cX4_swap 4 (some .int) : Cond) ∈ lw_tbl := List.mem_append_right _ (List.mem_append_right _ (List.mem_append_left _ (List.mem_of_getElem? (l := tables_1_2) (i := 32) rfl)))
set_option maxRecDepth 100000 in
theorem tw_161 : (Cond.code yX1_hasPort cX1_hasPort 3 (some .boolean) : Cond) ∈ lw_tbl := List.mem_append_right _ (List.mem_append_right _ (List.mem_append_left _ (List.mem_of_getElem? (l := tables_1_2) (i := 36) rfl)))
set_option maxRecDepth 100000 in
theorem tw_162 : (Cond.selects RX1 yX1_hasPort yX1_hasPort : Cond) ∈ lw_tbl := List.mem_append_right _ (List.mem_append_right _ (List.mem_append_left _ (List.mem_of_getElem? (l := tables_1_2) (i := 35) rfl)))
set_option maxRecDepth 100000 in
theorem tw_163 : (Cond.instanceMethod yX1_hasPort : Cond) ∈ lw_tbl := List.mem_append_right _ (List.mem_append_right _ (List.mem_append_left _ (List.mem_of_getElem? (l := tables_1_2) (i := 34) rfl)))
set_option maxRecDepth 100000 in
theorem tw_164 : (Cond.methodLink RX4 114 yX1_hasPort : Cond) ∈ lw_tbl := List.mem_append_right _ (List.mem_append_right _ (List.mem_append_left _ (List.mem_of_getElem? (l := tables_1_2) (i := 33) rfl)))
set_option maxRecDepth 100000 in
theorem tw_165 : (Cond.code yX1_exchange cX1_exchange 5 none : Cond) ∈ lw_tbl := List.mem_append_right _ (List.mem_append_right _ (List.mem_append_left _ (List.mem_of_getElem? (l := tables_1_2) (i := 41) rfl)))
set_option maxRecDepth 100000 in
theorem tw_166 : (Cond.selects RX1 yX1_exchange yX1_exchange : Cond) ∈ lw_tbl := List.mem_append_right _ (List.mem_append_right _ (List.mem_append_left _ (List.mem_of_getElem? (l := tables_1_2) (i := 40) rfl)))
set_option maxRecDepth 100000 in
theorem tw_167 : (Cond.instanceMethod yX1_exchange : Cond) ∈ lw_tbl := List.mem_append_right _ (List.mem_append_right _ (List.mem_append_left _ (List.mem_of_getElem? (l := tables_1_2) (i := 39) rfl)))
set_option maxRecDepth 100000 in
theorem tw_168 : (Cond.methodLink RX4 122 yX1_exchange : Cond) ∈ lw_tbl := List.mem_append_right _ (List.mem_append_right _ (List.mem_append_left _ (List.mem_of_getElem? (l := tables_1_2) (i := 38) rfl)))
set_option maxRecDepth 100000 in
theorem tw_169 : (Cond.methodLink RX4 118 yX4_slotOf : Cond) ∈ lw_tbl := List.mem_append_right _ (List.mem_append_right _ (List.mem_append_left _ (List.mem_of_getElem? (l := tables_1_2) (i := 37) rfl)))
set_option maxRecDepth 100000 in
theorem tw_170 : (Cond.selects RX4 yX4_swap yX4_swap : Cond) ∈ lw_tbl := List.mem_append_right _ (List.mem_append_right _ (List.mem_append_left _ (List.mem_of_getElem? (l := tables_1_2) (i := 31) rfl)))
set_option maxRecDepth 100000 in
theorem tw_171 : (Cond.instanceMethod yX4_swap : Cond) ∈ lw_tbl := List.mem_append_right _ (List.mem_append_right _ (List.mem_append_left _ (List.mem_of_getElem? (l := tables_1_2) (i := 30) rfl)))
set_option maxRecDepth 100000 in
theorem tw_172 : (Cond.methodLink RL 37 yX4_swap : Cond) ∈ lw_tbl := List.mem_append_right _ (List.mem_append_right _ (List.mem_append_left _ (List.mem_of_getElem? (l := tables_1_2) (i := 29) rfl)))
set_option maxRecDepth 100000 in
theorem tw_173 : (Cond.code yX4_end cX4_end 5 (some .int) : Cond) ∈ lw_tbl := List.mem_append_right _ (List.mem_append_right _ (List.mem_append_left _ (List.mem_of_getElem? (l := tables_1_2) (i := 45) rfl)))
set_option maxRecDepth 100000 in
theorem tw_174 : (Cond.code yX4_portOf cX4_portOf 1 (some .int) : Cond) ∈ lw_tbl := List.mem_append_right _ (List.mem_append_right _ (List.mem_append_left _ (List.mem_of_getElem? (l := tables_1_2) (i := 51) rfl)))
set_option maxRecDepth 100000 in
theorem tw_175 : (Cond.static yX4_portOf : Cond) ∈ lw_tbl := List.mem_append_right _ (List.mem_append_right _ (List.mem_append_left _ (List.mem_of_getElem? (l := tables_1_2) (i := 50) rfl)))
set_option maxRecDepth 100000 in
theorem tw_176 : (Cond.methodLink RX4 131 yX4_portOf : Cond) ∈ lw_tbl := List.mem_append_right _ (List.mem_append_right _ (List.mem_append_left _ (List.mem_of_getElem? (l := tables_1_2) (i := 49) rfl)))
set_option maxRecDepth 100000 in
theorem tw_177 : (Cond.code yX4_postOf cX4_postOf 1 (some .int) : Cond) ∈ lw_tbl := List.mem_append_right _ (List.mem_append_right _ (List.mem_append_left _ (List.mem_of_getElem? (l := tables_1_2) (i := 48) rfl)))
set_option maxRecDepth 100000 in
theorem tw_178 : (Cond.static yX4_postOf : Cond) ∈ lw_tbl := List.mem_append_right _ (List.mem_append_right _ (List.mem_append_left _ (List.mem_of_getElem? (l := tables_1_2) (i := 47) rfl)))
set_option maxRecDepth 100000 in
theorem tw_179 : (Cond.methodLink RX4 128 yX4_postOf : Cond) ∈ lw_tbl := List.mem_append_right _ (List.mem_append_right _ (List.mem_append_left _ (List.mem_of_getElem? (l := tables_1_2) (i := 46) rfl)))
set_option maxRecDepth 100000 in
theorem tw_180 : (Cond.fieldLink RX4 125 "AlikePosts$Net" "across" "[I" : Cond) ∈ lw_tbl := List.mem_append_right _ (List.mem_append_left _ (List.mem_of_getElem? (l := tables_1_1) (i := 38) rfl))
set_option maxRecDepth 100000 in
theorem tw_181 : (Cond.selects RX4 yX4_end yX4_end : Cond) ∈ lw_tbl := List.mem_append_right _ (List.mem_append_right _ (List.mem_append_left _ (List.mem_of_getElem? (l := tables_1_2) (i := 44) rfl)))
set_option maxRecDepth 100000 in
theorem tw_182 : (Cond.instanceMethod yX4_end : Cond) ∈ lw_tbl := List.mem_append_right _ (List.mem_append_right _ (List.mem_append_left _ (List.mem_of_getElem? (l := tables_1_2) (i := 43) rfl)))
set_option maxRecDepth 100000 in
theorem tw_183 : (Cond.methodLink RL 42 yX4_end : Cond) ∈ lw_tbl := List.mem_append_right _ (List.mem_append_right _ (List.mem_append_left _ (List.mem_of_getElem? (l := tables_1_2) (i := 42) rfl)))
set_option maxRecDepth 100000 in
theorem tw_184 : (Cond.code yX4_doubled cX4_doubled 3 (some .int) : Cond) ∈ lw_tbl := List.mem_append_right _ (List.mem_append_right _ (List.mem_append_left _ (List.mem_of_getElem? (l := tables_1_2) (i := 55) rfl)))
set_option maxRecDepth 100000 in
theorem tw_185 : (Cond.code yX1_makeTwice cX1_makeTwice 5 none : Cond) ∈ lw_tbl := List.mem_append_right _ (List.mem_append_right _ (List.mem_append_left _ (List.mem_of_getElem? (l := tables_1_2) (i := 59) rfl)))
set_option maxRecDepth 100000 in
theorem tw_186 : (Cond.selects RX1 yX1_makeTwice yX1_makeTwice : Cond) ∈ lw_tbl := List.mem_append_right _ (List.mem_append_right _ (List.mem_append_left _ (List.mem_of_getElem? (l := tables_1_2) (i := 58) rfl)))
set_option maxRecDepth 100000 in
theorem tw_187 : (Cond.instanceMethod yX1_makeTwice : Cond) ∈ lw_tbl := List.mem_append_right _ (List.mem_append_right _ (List.mem_append_left _ (List.mem_of_getElem? (l := tables_1_2) (i := 57) rfl)))
set_option maxRecDepth 100000 in
theorem tw_188 : (Cond.methodLink RX4 134 yX1_makeTwice : Cond) ∈ lw_tbl := List.mem_append_right _ (List.mem_append_right _ (List.mem_append_left _ (List.mem_of_getElem? (l := tables_1_2) (i := 56) rfl)))
set_option maxRecDepth 100000 in
theorem tw_189 : (Cond.selects RX4 yX4_doubled yX4_doubled : Cond) ∈ lw_tbl := List.mem_append_right _ (List.mem_append_right _ (List.mem_append_left _ (List.mem_of_getElem? (l := tables_1_2) (i := 54) rfl)))
set_option maxRecDepth 100000 in
theorem tw_190 : (Cond.instanceMethod yX4_doubled : Cond) ∈ lw_tbl := List.mem_append_right _ (List.mem_append_right _ (List.mem_append_left _ (List.mem_of_getElem? (l := tables_1_2) (i := 53) rfl)))
set_option maxRecDepth 100000 in
theorem tw_191 : (Cond.methodLink RL 46 yX4_doubled : Cond) ∈ lw_tbl := List.mem_append_right _ (List.mem_append_right _ (List.mem_append_left _ (List.mem_of_getElem? (l := tables_1_2) (i := 52) rfl)))
set_option maxRecDepth 100000 in
theorem tw_192 : (Cond.code yX4_about cX4_about 3 (some .int) : Cond) ∈ lw_tbl := List.mem_append_right _ (List.mem_append_right _ (List.mem_append_left _ (List.mem_of_getElem? (l := tables_1_2) (i := 63) rfl)))
set_option maxRecDepth 100000 in
theorem tw_193 : (Cond.methodLink RX2 54 yX2_setFirstKeys : Cond) ∈ lw_tbl := List.mem_append_right _ (List.mem_append_right _ (List.mem_append_left _ (List.mem_of_getElem? (l := tables_1_2) (i := 72) rfl)))
set_option maxRecDepth 100000 in
theorem tw_194 : (Cond.code yX2_reckon cX2_reckon 2 none : Cond) ∈ lw_tbl := List.mem_append_right _ (List.mem_append_right _ (List.mem_append_left _ (List.mem_of_getElem? (l := tables_1_2) (i := 71) rfl)))
set_option maxRecDepth 100000 in
theorem tw_195 : (Cond.selects RX2 yX2_reckon yX2_reckon : Cond) ∈ lw_tbl := List.mem_append_left _ (List.mem_of_getElem? (l := k2_sels lw_privs) (i := 4) rfl)
set_option maxRecDepth 100000 in
theorem tw_196 : (Cond.instanceMethod yX2_reckon : Cond) ∈ lw_tbl := List.mem_append_right _ (List.mem_append_right _ (List.mem_append_left _ (List.mem_of_getElem? (l := tables_1_2) (i := 70) rfl)))
set_option maxRecDepth 100000 in
theorem tw_197 : (Cond.methodLink RX2 33 yX2_reckon : Cond) ∈ lw_tbl := List.mem_append_right _ (List.mem_append_right _ (List.mem_append_left _ (List.mem_of_getElem? (l := tables_1_2) (i := 68) rfl)))
set_option maxRecDepth 100000 in
theorem tw_198 : (Cond.fieldLink RX2 36 "AlikePosts$Ranks" "restDepth" "I" : Cond) ∈ lw_tbl := List.mem_append_right _ (List.mem_append_left _ (List.mem_of_getElem? (l := tables_1_1) (i := 73) rfl))
set_option maxRecDepth 100000 in
theorem tw_199 : (Cond.code yX2_atRest cX2_atRest 2 (some .int) : Cond) ∈ lw_tbl := List.mem_append_right _ (List.mem_append_right _ (List.mem_append_left _ (List.mem_of_getElem? (l := tables_1_2) (i := 67) rfl)))
set_option maxRecDepth 100000 in
theorem tw_200 : (Cond.selects RX2 yX2_atRest yX2_atRest : Cond) ∈ lw_tbl := List.mem_append_right _ (List.mem_append_right _ (List.mem_append_left _ (List.mem_of_getElem? (l := tables_1_2) (i := 66) rfl)))
set_option maxRecDepth 100000 in
theorem tw_201 : (Cond.instanceMethod yX2_atRest : Cond) ∈ lw_tbl := List.mem_append_right _ (List.mem_append_right _ (List.mem_append_left _ (List.mem_of_getElem? (l := tables_1_2) (i := 65) rfl)))
set_option maxRecDepth 100000 in
theorem tw_202 : (Cond.methodLink RX4 138 yX2_atRest : Cond) ∈ lw_tbl := List.mem_append_right _ (List.mem_append_right _ (List.mem_append_left _ (List.mem_of_getElem? (l := tables_1_2) (i := 64) rfl)))
set_option maxRecDepth 100000 in
theorem tw_203 : (Cond.fieldLink RX4 148 "AlikePosts$Net" "far" "[I" : Cond) ∈ lw_tbl := List.mem_append_right _ (List.mem_append_left _ (List.mem_of_getElem? (l := tables_1_1) (i := 41) rfl))
set_option maxRecDepth 100000 in
theorem tw_204 : (Cond.methodLink RX2 61 yX2_setKeysBehind : Cond) ∈ lw_tbl := List.mem_append_right _ (List.mem_append_right _ (List.mem_append_left _ (List.mem_of_getElem? (l := tables_1_2) (i := 89) rfl)))
set_option maxRecDepth 100000 in
theorem tw_205 : (Cond.code yX2_keysBelow cX2_keysBelow 5 (some .int) : Cond) ∈ lw_tbl := List.mem_append_right _ (List.mem_append_right _ (List.mem_append_left _ (List.mem_of_getElem? (l := tables_1_2) (i := 88) rfl)))
set_option maxRecDepth 100000 in
theorem tw_206 : (Cond.selects RX2 yX2_keysBelow yX2_keysBelow : Cond) ∈ lw_tbl := List.mem_append_left _ (List.mem_of_getElem? (l := k2_sels lw_privs) (i := 8) rfl)
set_option maxRecDepth 100000 in
theorem tw_207 : (Cond.instanceMethod yX2_keysBelow : Cond) ∈ lw_tbl := List.mem_append_right _ (List.mem_append_right _ (List.mem_append_left _ (List.mem_of_getElem? (l := tables_1_2) (i := 87) rfl)))
set_option maxRecDepth 100000 in
theorem tw_208 : (Cond.methodLink RX2 89 yX2_keysBelow : Cond) ∈ lw_tbl := List.mem_append_right _ (List.mem_append_right _ (List.mem_append_left _ (List.mem_of_getElem? (l := tables_1_2) (i := 85) rfl)))
set_option maxRecDepth 100000 in
theorem tw_209 : (Cond.code yX2_addUnlikeKey cX2_addUnlikeKey 6 (some .int) : Cond) ∈ lw_tbl := List.mem_append_right _ (List.mem_append_right _ (List.mem_append_left _ (List.mem_of_getElem? (l := tables_1_2) (i := 84) rfl)))
set_option maxRecDepth 100000 in
theorem tw_210 : (Cond.selects RX2 yX2_addUnlikeKey yX2_addUnlikeKey : Cond) ∈ lw_tbl := List.mem_append_left _ (List.mem_of_getElem? (l := k2_sels lw_privs) (i := 7) rfl)
set_option maxRecDepth 100000 in
theorem tw_211 : (Cond.instanceMethod yX2_addUnlikeKey : Cond) ∈ lw_tbl := List.mem_append_right _ (List.mem_append_right _ (List.mem_append_left _ (List.mem_of_getElem? (l := tables_1_2) (i := 83) rfl)))
set_option maxRecDepth 100000 in
theorem tw_212 : (Cond.methodLink RX2 85 yX2_addUnlikeKey : Cond) ∈ lw_tbl := List.mem_append_right _ (List.mem_append_right _ (List.mem_append_left _ (List.mem_of_getElem? (l := tables_1_2) (i := 81) rfl)))
set_option maxRecDepth 100000 in
theorem tw_213 : (Cond.code yX2_rankByKeys cX2_rankByKeys 4 (some .int) : Cond) ∈ lw_tbl := List.mem_append_right _ (List.mem_append_right _ (List.mem_append_left _ (List.mem_of_getElem? (l := tables_1_2) (i := 80) rfl)))
set_option maxRecDepth 100000 in
theorem tw_214 : (Cond.selects RX2 yX2_rankByKeys yX2_rankByKeys : Cond) ∈ lw_tbl := List.mem_append_left _ (List.mem_of_getElem? (l := k2_sels lw_privs) (i := 6) rfl)
set_option maxRecDepth 100000 in
theorem tw_215 : (Cond.instanceMethod yX2_rankByKeys : Cond) ∈ lw_tbl := List.mem_append_right _ (List.mem_append_right _ (List.mem_append_left _ (List.mem_of_getElem? (l := tables_1_2) (i := 79) rfl)))
set_option maxRecDepth 100000 in
theorem tw_216 : (Cond.methodLink RX2 57 yX2_rankByKeys : Cond) ∈ lw_tbl := List.mem_append_right _ (List.mem_append_right _ (List.mem_append_left _ (List.mem_of_getElem? (l := tables_1_2) (i := 77) rfl)))
set_option maxRecDepth 100000 in
theorem tw_217 : (Cond.fieldLink RX2 70 "AlikePosts$Net" "ports" "[I" : Cond) ∈ lw_tbl := List.mem_append_right _ (List.mem_append_left _ (List.mem_of_getElem? (l := tables_1_1) (i := 35) rfl))
set_option maxRecDepth 100000 in
theorem tw_218 : (Cond.constantLong RX2 68 (8) : Cond) ∈ lw_tbl := List.mem_append_right _ (List.mem_append_right _ (List.mem_append_left _ (List.mem_of_getElem? (l := tables_1_2) (i := 76) rfl)))
set_option maxRecDepth 100000 in
theorem tw_219 : (Cond.fieldLink RX2 65 "AlikePosts$Net" "marks" "[I" : Cond) ∈ lw_tbl := List.mem_append_right _ (List.mem_append_left _ (List.mem_of_getElem? (l := tables_1_1) (i := 31) rfl))
set_option maxRecDepth 100000 in
theorem tw_220 : (Cond.fieldLink RX2 49 "AlikePosts$Net" "posts" "I" : Cond) ∈ lw_tbl := List.mem_append_right _ (List.mem_append_left _ (List.mem_of_getElem? (l := tables_1_1) (i := 26) rfl))
set_option maxRecDepth 100000 in
theorem tw_221 : (Cond.code yX2_setFirstKeys cX2_setFirstKeys 2 none : Cond) ∈ lw_tbl := List.mem_append_right _ (List.mem_append_right _ (List.mem_append_left _ (List.mem_of_getElem? (l := tables_1_2) (i := 75) rfl)))
set_option maxRecDepth 100000 in
theorem tw_222 : (Cond.selects RX2 yX2_setFirstKeys yX2_setFirstKeys : Cond) ∈ lw_tbl := List.mem_append_left _ (List.mem_of_getElem? (l := k2_sels lw_privs) (i := 5) rfl)
set_option maxRecDepth 100000 in
theorem tw_223 : (Cond.instanceMethod yX2_setFirstKeys : Cond) ∈ lw_tbl := List.mem_append_right _ (List.mem_append_right _ (List.mem_append_left _ (List.mem_of_getElem? (l := tables_1_2) (i := 74) rfl)))
set_option maxRecDepth 100000 in
theorem tw_224 : (Cond.code yX1_measure cX1_measure 3 (some .int) : Cond) ∈ lw_tbl := List.mem_append_right _ (List.mem_append_right _ (List.mem_append_left _ (List.mem_of_getElem? (l := tables_1_2) (i := 107) rfl)))
set_option maxRecDepth 100000 in
theorem tw_225 : (Cond.selects RX1 yX1_measure yX1_measure : Cond) ∈ lw_tbl := List.mem_append_right _ (List.mem_append_right _ (List.mem_append_left _ (List.mem_of_getElem? (l := tables_1_2) (i := 106) rfl)))
set_option maxRecDepth 100000 in
theorem tw_226 : (Cond.instanceMethod yX1_measure : Cond) ∈ lw_tbl := List.mem_append_right _ (List.mem_append_right _ (List.mem_append_left _ (List.mem_of_getElem? (l := tables_1_2) (i := 105) rfl)))
set_option maxRecDepth 100000 in
theorem tw_227 : (Cond.methodLink RX4 144 yX1_measure : Cond) ∈ lw_tbl := List.mem_append_right _ (List.mem_append_right _ (List.mem_append_left _ (List.mem_of_getElem? (l := tables_1_2) (i := 104) rfl)))
set_option maxRecDepth 100000 in
theorem tw_228 : (Cond.code yX2_kindredOf cX2_kindredOf 4 (some .int) : Cond) ∈ lw_tbl := List.mem_append_right _ (List.mem_append_right _ (List.mem_append_left _ (List.mem_of_getElem? (l := tables_1_2) (i := 103) rfl)))
set_option maxRecDepth 100000 in
theorem tw_229 : (Cond.selects RX2 yX2_kindredOf yX2_kindredOf : Cond) ∈ lw_tbl := List.mem_append_right _ (List.mem_append_right _ (List.mem_append_left _ (List.mem_of_getElem? (l := tables_1_2) (i := 102) rfl)))
set_option maxRecDepth 100000 in
theorem tw_230 : (Cond.instanceMethod yX2_kindredOf : Cond) ∈ lw_tbl := List.mem_append_right _ (List.mem_append_right _ (List.mem_append_left _ (List.mem_of_getElem? (l := tables_1_2) (i := 101) rfl)))
set_option maxRecDepth 100000 in
theorem tw_231 : (Cond.methodLink RX4 141 yX2_kindredOf : Cond) ∈ lw_tbl := List.mem_append_right _ (List.mem_append_right _ (List.mem_append_left _ (List.mem_of_getElem? (l := tables_1_2) (i := 100) rfl)))
set_option maxRecDepth 100000 in
theorem tw_232 : (Cond.code yX2_inTable cX2_inTable 3 (some .int) : Cond) ∈ lw_tbl := List.mem_append_right _ (List.mem_append_right _ (List.mem_append_left _ (List.mem_of_getElem? (l := tables_1_2) (i := 99) rfl)))
set_option maxRecDepth 100000 in
theorem tw_233 : (Cond.selects RX2 yX2_inTable yX2_inTable : Cond) ∈ lw_tbl := List.mem_append_left _ (List.mem_of_getElem? (l := k2_sels lw_privs) (i := 10) rfl)
set_option maxRecDepth 100000 in
theorem tw_234 : (Cond.instanceMethod yX2_inTable : Cond) ∈ lw_tbl := List.mem_append_right _ (List.mem_append_right _ (List.mem_append_left _ (List.mem_of_getElem? (l := tables_1_2) (i := 98) rfl)))
set_option maxRecDepth 100000 in
theorem tw_235 : (Cond.methodLink RX2 46 yX2_inTable : Cond) ∈ lw_tbl := List.mem_append_right _ (List.mem_append_right _ (List.mem_append_left _ (List.mem_of_getElem? (l := tables_1_2) (i := 96) rfl)))
set_option maxRecDepth 100000 in
theorem tw_236 : (Cond.fieldLink RX2 73 "AlikePosts$Net" "across" "[I" : Cond) ∈ lw_tbl := List.mem_append_right _ (List.mem_append_left _ (List.mem_of_getElem? (l := tables_1_1) (i := 39) rfl))
set_option maxRecDepth 100000 in
theorem tw_237 : (Cond.code yX2_setKeysBehind cX2_setKeysBehind 8 none : Cond) ∈ lw_tbl := List.mem_append_right _ (List.mem_append_right _ (List.mem_append_left _ (List.mem_of_getElem? (l := tables_1_2) (i := 92) rfl)))
set_option maxRecDepth 100000 in
theorem tw_238 : (Cond.selects RX2 yX2_setKeysBehind yX2_setKeysBehind : Cond) ∈ lw_tbl := List.mem_append_left _ (List.mem_of_getElem? (l := k2_sels lw_privs) (i := 9) rfl)
set_option maxRecDepth 100000 in
theorem tw_239 : (Cond.instanceMethod yX2_setKeysBehind : Cond) ∈ lw_tbl := List.mem_append_right _ (List.mem_append_right _ (List.mem_append_left _ (List.mem_of_getElem? (l := tables_1_2) (i := 91) rfl)))
set_option maxRecDepth 100000 in
theorem tw_240 : (Cond.code yX1_reachFrom cX1_reachFrom 6 (some .int) : Cond) ∈ lw_tbl := List.mem_append_right _ (List.mem_append_right _ (List.mem_append_left _ (List.mem_of_getElem? (l := tables_1_2) (i := 114) rfl)))
set_option maxRecDepth 100000 in
theorem tw_241 : (Cond.selects RX1 yX1_reachFrom yX1_reachFrom : Cond) ∈ lw_tbl := List.mem_append_left _ (List.mem_of_getElem? (l := k2_sels lw_privs) (i := 11) rfl)
set_option maxRecDepth 100000 in
theorem tw_242 : (Cond.instanceMethod yX1_reachFrom : Cond) ∈ lw_tbl := List.mem_append_right _ (List.mem_append_right _ (List.mem_append_left _ (List.mem_of_getElem? (l := tables_1_2) (i := 113) rfl)))
set_option maxRecDepth 100000 in
theorem tw_243 : (Cond.methodLink RX1 73 yX1_reachFrom : Cond) ∈ lw_tbl := List.mem_append_right _ (List.mem_append_right _ (List.mem_append_left _ (List.mem_of_getElem? (l := tables_1_2) (i := 111) rfl)))
set_option maxRecDepth 100000 in
theorem tw_244 : (Cond.code yJ7_fill_53178 cJ7_fill_53178 4 none : Cond) ∈ lw_tbl := List.mem_append_right _ (List.mem_append_right _ (List.mem_append_left _ (List.mem_of_getElem? (l := tables_1_2) (i := 110) rfl)))
set_option maxRecDepth 100000 in
theorem tw_245 : (Cond.initialized RJ7 : Cond) ∈ lw_tbl := List.mem_append_right _ (List.mem_append_left _ (List.mem_of_getElem? (l := tables_1_1) (i := 8) rfl))
set_option maxRecDepth 100000 in
theorem tw_246 : (Cond.static yJ7_fill_53178 : Cond) ∈ lw_tbl := List.mem_append_right _ (List.mem_append_right _ (List.mem_append_left _ (List.mem_of_getElem? (l := tables_1_2) (i := 109) rfl)))
set_option maxRecDepth 100000 in
theorem tw_247 : (Cond.methodLink RX1 67 yJ7_fill_53178 : Cond) ∈ lw_tbl := List.mem_append_right _ (List.mem_append_right _ (List.mem_append_left _ (List.mem_of_getElem? (l := tables_1_2) (i := 108) rfl)))
set_option maxRecDepth 100000 in
theorem tw_248 : (Cond.selects RX4 yX4_about yX4_about : Cond) ∈ lw_tbl := List.mem_append_right _ (List.mem_append_right _ (List.mem_append_left _ (List.mem_of_getElem? (l := tables_1_2) (i := 62) rfl)))
set_option maxRecDepth 100000 in
theorem tw_249 : (Cond.instanceMethod yX4_about : Cond) ∈ lw_tbl := List.mem_append_right _ (List.mem_append_right _ (List.mem_append_left _ (List.mem_of_getElem? (l := tables_1_2) (i := 61) rfl)))
set_option maxRecDepth 100000 in
theorem tw_250 : (Cond.methodLink RL 50 yX4_about : Cond) ∈ lw_tbl := List.mem_append_right _ (List.mem_append_right _ (List.mem_append_left _ (List.mem_of_getElem? (l := tables_1_2) (i := 60) rfl)))
set_option maxRecDepth 100000 in
theorem tw_251 : (Cond.code yX4_together cX4_together 1 (some .int) : Cond) ∈ lw_tbl := List.mem_append_right _ (List.mem_append_right _ (List.mem_append_left _ (List.mem_of_getElem? (l := tables_1_2) (i := 119) rfl)))
set_option maxRecDepth 100000 in
theorem tw_252 : (Cond.code yX4_hangsTogether cX4_hangsTogether 1 (some .boolean) : Cond) ∈ lw_tbl := List.mem_append_right _ (List.mem_append_right _ (List.mem_append_left _ (List.mem_of_getElem? (l := tables_1_2) (i := 123) rfl)))
set_option maxRecDepth 100000 in
theorem tw_253 : (Cond.selects RX4 yX4_hangsTogether yX4_hangsTogether : Cond) ∈ lw_tbl := List.mem_append_left _ (List.mem_of_getElem? (l := k2_sels lw_privs) (i := 12) rfl)
set_option maxRecDepth 100000 in
theorem tw_254 : (Cond.instanceMethod yX4_hangsTogether : Cond) ∈ lw_tbl := List.mem_append_right _ (List.mem_append_right _ (List.mem_append_left _ (List.mem_of_getElem? (l := tables_1_2) (i := 122) rfl)))
set_option maxRecDepth 100000 in
theorem tw_255 : (Cond.methodLink RX4 151 yX4_hangsTogether : Cond) ∈ lw_tbl := List.mem_append_right _ (List.mem_append_right _ (List.mem_append_left _ (List.mem_of_getElem? (l := tables_1_2) (i := 120) rfl)))
set_option maxRecDepth 100000 in
theorem tw_256 : (Cond.selects RX4 yX4_together yX4_together : Cond) ∈ lw_tbl := List.mem_append_right _ (List.mem_append_right _ (List.mem_append_left _ (List.mem_of_getElem? (l := tables_1_2) (i := 118) rfl)))
set_option maxRecDepth 100000 in
theorem tw_257 : (Cond.instanceMethod yX4_together : Cond) ∈ lw_tbl := List.mem_append_right _ (List.mem_append_right _ (List.mem_append_left _ (List.mem_of_getElem? (l := tables_1_2) (i := 117) rfl)))
set_option maxRecDepth 100000 in
theorem tw_258 : (Cond.methodLink RL 54 yX4_together : Cond) ∈ lw_tbl := List.mem_append_right _ (List.mem_append_right _ (List.mem_append_left _ (List.mem_of_getElem? (l := tables_1_2) (i := 116) rfl)))
set_option maxRecDepth 100000 in
theorem tw_259 : (Cond.code yX4_rank cX4_rank 3 (some .int) : Cond) ∈ lw_tbl := List.mem_append_right _ (List.mem_append_right _ (List.mem_append_left _ (List.mem_of_getElem? (l := tables_1_2) (i := 127) rfl)))
set_option maxRecDepth 100000 in
theorem tw_260 : (Cond.code Lib.Math.min.name Lib.Math.min.code 2 (some .int) : Cond) ∈ lw_tbl := List.mem_append_right _ (List.mem_append_right _ (List.mem_append_left _ (List.mem_of_getElem? (l := tables_1_2) (i := 137) rfl)))
set_option maxRecDepth 100000 in
theorem tw_261 : (Cond.initialized "java/lang/Math" : Cond) ∈ lw_tbl := List.mem_append_right _ (List.mem_append_left _ (List.mem_of_getElem? (l := tables_1_1) (i := 9) rfl))
set_option maxRecDepth 100000 in
theorem tw_262 : (Cond.static Lib.Math.min.name : Cond) ∈ lw_tbl := List.mem_append_right _ (List.mem_append_right _ (List.mem_append_left _ (List.mem_of_getElem? (l := tables_1_2) (i := 136) rfl)))
set_option maxRecDepth 100000 in
theorem tw_263 : (Cond.methodLink RX2 40 Lib.Math.min.name : Cond) ∈ lw_tbl := List.mem_append_right _ (List.mem_append_right _ (List.mem_append_left _ (List.mem_of_getElem? (l := tables_1_2) (i := 135) rfl)))
set_option maxRecDepth 100000 in
theorem tw_264 : (Cond.code yX2_at cX2_at 3 (some .int) : Cond) ∈ lw_tbl := List.mem_append_right _ (List.mem_append_right _ (List.mem_append_left _ (List.mem_of_getElem? (l := tables_1_2) (i := 134) rfl)))
set_option maxRecDepth 100000 in
theorem tw_265 : (Cond.selects RX2 yX2_at yX2_at : Cond) ∈ lw_tbl := List.mem_append_right _ (List.mem_append_right _ (List.mem_append_left _ (List.mem_of_getElem? (l := tables_1_2) (i := 133) rfl)))
set_option maxRecDepth 100000 in
theorem tw_266 : (Cond.instanceMethod yX2_at : Cond) ∈ lw_tbl := List.mem_append_right _ (List.mem_append_right _ (List.mem_append_left _ (List.mem_of_getElem? (l := tables_1_2) (i := 132) rfl)))
set_option maxRecDepth 100000 in
theorem tw_267 : (Cond.methodLink RX4 158 yX2_at : Cond) ∈ lw_tbl := List.mem_append_right _ (List.mem_append_right _ (List.mem_append_left _ (List.mem_of_getElem? (l := tables_1_2) (i := 131) rfl)))
set_option maxRecDepth 100000 in
theorem tw_268 : (Cond.code yX4_isDepth cX4_isDepth 1 (some .boolean) : Cond) ∈ lw_tbl := List.mem_append_right _ (List.mem_append_right _ (List.mem_append_left _ (List.mem_of_getElem? (l := tables_1_2) (i := 130) rfl)))
set_option maxRecDepth 100000 in
theorem tw_269 : (Cond.static yX4_isDepth : Cond) ∈ lw_tbl := List.mem_append_right _ (List.mem_append_right _ (List.mem_append_left _ (List.mem_of_getElem? (l := tables_1_2) (i := 129) rfl)))
set_option maxRecDepth 100000 in
theorem tw_270 : (Cond.methodLink RX4 155 yX4_isDepth : Cond) ∈ lw_tbl := List.mem_append_right _ (List.mem_append_right _ (List.mem_append_left _ (List.mem_of_getElem? (l := tables_1_2) (i := 128) rfl)))
set_option maxRecDepth 100000 in
theorem tw_271 : (Cond.selects RX4 yX4_rank yX4_rank : Cond) ∈ lw_tbl := List.mem_append_right _ (List.mem_append_right _ (List.mem_append_left _ (List.mem_of_getElem? (l := tables_1_2) (i := 126) rfl)))
set_option maxRecDepth 100000 in
theorem tw_272 : (Cond.instanceMethod yX4_rank : Cond) ∈ lw_tbl := List.mem_append_right _ (List.mem_append_right _ (List.mem_append_left _ (List.mem_of_getElem? (l := tables_1_2) (i := 125) rfl)))
set_option maxRecDepth 100000 in
theorem tw_273 : (Cond.methodLink RL 58 yX4_rank : Cond) ∈ lw_tbl := List.mem_append_right _ (List.mem_append_right _ (List.mem_append_left _ (List.mem_of_getElem? (l := tables_1_2) (i := 124) rfl)))
set_option maxRecDepth 100000 in
theorem tw_274 : (Cond.code yX4_rest cX4_rest 1 (some .int) : Cond) ∈ lw_tbl := List.mem_append_right _ (List.mem_append_right _ (List.mem_append_left _ (List.mem_of_getElem? (l := tables_1_2) (i := 141) rfl)))
set_option maxRecDepth 100000 in
theorem tw_275 : (Cond.code yX2_depthOfRest cX2_depthOfRest 1 (some .int) : Cond) ∈ lw_tbl := List.mem_append_right _ (List.mem_append_right _ (List.mem_append_left _ (List.mem_of_getElem? (l := tables_1_2) (i := 145) rfl)))
set_option maxRecDepth 100000 in
theorem tw_276 : (Cond.selects RX2 yX2_depthOfRest yX2_depthOfRest : Cond) ∈ lw_tbl := List.mem_append_right _ (List.mem_append_right _ (List.mem_append_left _ (List.mem_of_getElem? (l := tables_1_2) (i := 144) rfl)))
set_option maxRecDepth 100000 in
theorem tw_277 : (Cond.instanceMethod yX2_depthOfRest : Cond) ∈ lw_tbl := List.mem_append_right _ (List.mem_append_right _ (List.mem_append_left _ (List.mem_of_getElem? (l := tables_1_2) (i := 143) rfl)))
set_option maxRecDepth 100000 in
theorem tw_278 : (Cond.methodLink RX4 161 yX2_depthOfRest : Cond) ∈ lw_tbl := List.mem_append_right _ (List.mem_append_right _ (List.mem_append_left _ (List.mem_of_getElem? (l := tables_1_2) (i := 142) rfl)))
set_option maxRecDepth 100000 in
theorem tw_279 : (Cond.selects RX4 yX4_rest yX4_rest : Cond) ∈ lw_tbl := List.mem_append_right _ (List.mem_append_right _ (List.mem_append_left _ (List.mem_of_getElem? (l := tables_1_2) (i := 140) rfl)))
set_option maxRecDepth 100000 in
theorem tw_280 : (Cond.instanceMethod yX4_rest : Cond) ∈ lw_tbl := List.mem_append_right _ (List.mem_append_right _ (List.mem_append_left _ (List.mem_of_getElem? (l := tables_1_2) (i := 139) rfl)))
set_option maxRecDepth 100000 in
theorem tw_281 : (Cond.methodLink RL 62 yX4_rest : Cond) ∈ lw_tbl := List.mem_append_right _ (List.mem_append_right _ (List.mem_append_left _ (List.mem_of_getElem? (l := tables_1_2) (i := 138) rfl)))
set_option maxRecDepth 100000 in
theorem tw_282 : (Cond.code yX4_ranks cX4_ranks 2 (some .int) : Cond) ∈ lw_tbl := List.mem_append_right _ (List.mem_append_right _ (List.mem_append_left _ (List.mem_of_getElem? (l := tables_1_2) (i := 149) rfl)))
set_option maxRecDepth 100000 in
theorem tw_283 : (Cond.code yX2_unlikeAt cX2_unlikeAt 2 (some .int) : Cond) ∈ lw_tbl := List.mem_append_right _ (List.mem_append_right _ (List.mem_append_left _ (List.mem_of_getElem? (l := tables_1_2) (i := 153) rfl)))
set_option maxRecDepth 100000 in
theorem tw_284 : (Cond.selects RX2 yX2_unlikeAt yX2_unlikeAt : Cond) ∈ lw_tbl := List.mem_append_right _ (List.mem_append_right _ (List.mem_append_left _ (List.mem_of_getElem? (l := tables_1_2) (i := 152) rfl)))
set_option maxRecDepth 100000 in
theorem tw_285 : (Cond.instanceMethod yX2_unlikeAt : Cond) ∈ lw_tbl := List.mem_append_right _ (List.mem_append_right _ (List.mem_append_left _ (List.mem_of_getElem? (l := tables_1_2) (i := 151) rfl)))
set_option maxRecDepth 100000 in
theorem tw_286 : (Cond.methodLink RX4 164 yX2_unlikeAt : Cond) ∈ lw_tbl := List.mem_append_right _ (List.mem_append_right _ (List.mem_append_left _ (List.mem_of_getElem? (l := tables_1_2) (i := 150) rfl)))
set_option maxRecDepth 100000 in
theorem tw_287 : (Cond.selects RX4 yX4_ranks yX4_ranks : Cond) ∈ lw_tbl := List.mem_append_right _ (List.mem_append_right _ (List.mem_append_left _ (List.mem_of_getElem? (l := tables_1_2) (i := 148) rfl)))
set_option maxRecDepth 100000 in
theorem tw_288 : (Cond.instanceMethod yX4_ranks : Cond) ∈ lw_tbl := List.mem_append_right _ (List.mem_append_right _ (List.mem_append_left _ (List.mem_of_getElem? (l := tables_1_2) (i := 147) rfl)))
set_option maxRecDepth 100000 in
theorem tw_289 : (Cond.methodLink RL 66 yX4_ranks : Cond) ∈ lw_tbl := List.mem_append_right _ (List.mem_append_right _ (List.mem_append_left _ (List.mem_of_getElem? (l := tables_1_2) (i := 146) rfl)))
set_option maxRecDepth 100000 in
theorem tw_290 : (Cond.code yX4_apart cX4_apart 3 (some .int) : Cond) ∈ lw_tbl := List.mem_append_right _ (List.mem_append_right _ (List.mem_append_left _ (List.mem_of_getElem? (l := tables_1_2) (i := 157) rfl)))
set_option maxRecDepth 100000 in
theorem tw_291 : (Cond.code yX2_firstApart cX2_firstApart 4 (some .int) : Cond) ∈ lw_tbl := List.mem_append_right _ (List.mem_append_right _ (List.mem_append_left _ (List.mem_of_getElem? (l := tables_1_2) (i := 161) rfl)))
set_option maxRecDepth 100000 in
theorem tw_292 : (Cond.selects RX2 yX2_firstApart yX2_firstApart : Cond) ∈ lw_tbl := List.mem_append_right _ (List.mem_append_right _ (List.mem_append_left _ (List.mem_of_getElem? (l := tables_1_2) (i := 160) rfl)))
set_option maxRecDepth 100000 in
theorem tw_293 : (Cond.instanceMethod yX2_firstApart : Cond) ∈ lw_tbl := List.mem_append_right _ (List.mem_append_right _ (List.mem_append_left _ (List.mem_of_getElem? (l := tables_1_2) (i := 159) rfl)))
set_option maxRecDepth 100000 in
theorem tw_294 : (Cond.methodLink RX4 167 yX2_firstApart : Cond) ∈ lw_tbl := List.mem_append_right _ (List.mem_append_right _ (List.mem_append_left _ (List.mem_of_getElem? (l := tables_1_2) (i := 158) rfl)))
set_option maxRecDepth 100000 in
theorem tw_295 : (Cond.selects RX4 yX4_apart yX4_apart : Cond) ∈ lw_tbl := List.mem_append_right _ (List.mem_append_right _ (List.mem_append_left _ (List.mem_of_getElem? (l := tables_1_2) (i := 156) rfl)))
set_option maxRecDepth 100000 in
theorem tw_296 : (Cond.instanceMethod yX4_apart : Cond) ∈ lw_tbl := List.mem_append_right _ (List.mem_append_right _ (List.mem_append_left _ (List.mem_of_getElem? (l := tables_1_2) (i := 155) rfl)))
set_option maxRecDepth 100000 in
theorem tw_297 : (Cond.methodLink RL 70 yX4_apart : Cond) ∈ lw_tbl := List.mem_append_right _ (List.mem_append_right _ (List.mem_append_left _ (List.mem_of_getElem? (l := tables_1_2) (i := 154) rfl)))
set_option maxRecDepth 100000 in
theorem tw_298 : (Cond.code yX4_chosen cX4_chosen 1 (some .int) : Cond) ∈ lw_tbl := List.mem_append_right _ (List.mem_append_right _ (List.mem_append_left _ (List.mem_of_getElem? (l := tables_1_2) (i := 165) rfl)))
set_option maxRecDepth 100000 in
theorem tw_299 : (Cond.code yX4_unlikeAtRest cX4_unlikeAtRest 1 (some .int) : Cond) ∈ lw_tbl := List.mem_append_right _ (List.mem_append_right _ (List.mem_append_left _ (List.mem_of_getElem? (l := tables_1_2) (i := 169) rfl)))
set_option maxRecDepth 100000 in
theorem tw_300 : (Cond.selects RX4 yX4_unlikeAtRest yX4_unlikeAtRest : Cond) ∈ lw_tbl := List.mem_append_left _ (List.mem_of_getElem? (l := k2_sels lw_privs) (i := 13) rfl)
set_option maxRecDepth 100000 in
theorem tw_301 : (Cond.instanceMethod yX4_unlikeAtRest : Cond) ∈ lw_tbl := List.mem_append_right _ (List.mem_append_right _ (List.mem_append_left _ (List.mem_of_getElem? (l := tables_1_2) (i := 168) rfl)))
set_option maxRecDepth 100000 in
theorem tw_302 : (Cond.methodLink RX4 170 yX4_unlikeAtRest : Cond) ∈ lw_tbl := List.mem_append_right _ (List.mem_append_right _ (List.mem_append_left _ (List.mem_of_getElem? (l := tables_1_2) (i := 166) rfl)))
set_option maxRecDepth 100000 in
theorem tw_303 : (Cond.code yX2_firstAtRest cX2_firstAtRest 2 (some .int) : Cond) ∈ lw_tbl := List.mem_append_right _ (List.mem_append_right _ (List.mem_append_left _ (List.mem_of_getElem? (l := tables_1_2) (i := 173) rfl)))
set_option maxRecDepth 100000 in
theorem tw_304 : (Cond.selects RX2 yX2_firstAtRest yX2_firstAtRest : Cond) ∈ lw_tbl := List.mem_append_right _ (List.mem_append_right _ (List.mem_append_left _ (List.mem_of_getElem? (l := tables_1_2) (i := 172) rfl)))
set_option maxRecDepth 100000 in
theorem tw_305 : (Cond.instanceMethod yX2_firstAtRest : Cond) ∈ lw_tbl := List.mem_append_right _ (List.mem_append_right _ (List.mem_append_left _ (List.mem_of_getElem? (l := tables_1_2) (i := 171) rfl)))
set_option maxRecDepth 100000 in
theorem tw_306 : (Cond.methodLink RX4 173 yX2_firstAtRest : Cond) ∈ lw_tbl := List.mem_append_right _ (List.mem_append_right _ (List.mem_append_left _ (List.mem_of_getElem? (l := tables_1_2) (i := 170) rfl)))
set_option maxRecDepth 100000 in
theorem tw_307 : (Cond.selects RX4 yX4_chosen yX4_chosen : Cond) ∈ lw_tbl := List.mem_append_right _ (List.mem_append_right _ (List.mem_append_left _ (List.mem_of_getElem? (l := tables_1_2) (i := 164) rfl)))
set_option maxRecDepth 100000 in
theorem tw_308 : (Cond.instanceMethod yX4_chosen : Cond) ∈ lw_tbl := List.mem_append_right _ (List.mem_append_right _ (List.mem_append_left _ (List.mem_of_getElem? (l := tables_1_2) (i := 163) rfl)))
set_option maxRecDepth 100000 in
theorem tw_309 : (Cond.methodLink RL 74 yX4_chosen : Cond) ∈ lw_tbl := List.mem_append_right _ (List.mem_append_right _ (List.mem_append_left _ (List.mem_of_getElem? (l := tables_1_2) (i := 162) rfl)))
set_option maxRecDepth 100000 in
theorem tw_310 : (Cond.code yX4_flood cX4_flood 4 (some .int) : Cond) ∈ lw_tbl := List.mem_append_right _ (List.mem_append_right _ (List.mem_append_left _ (List.mem_of_getElem? (l := tables_1_2) (i := 177) rfl)))
set_option maxRecDepth 100000 in
theorem tw_311 : (Cond.methodLink RX0 32 yJ7_fill_53178 : Cond) ∈ lw_tbl := List.mem_append_right _ (List.mem_append_right _ (List.mem_append_left _ (List.mem_of_getElem? (l := tables_1_2) (i := 182) rfl)))
set_option maxRecDepth 100000 in
theorem tw_312 : (Cond.fieldLink RX0 54 "AlikePosts$Flooding" "waiting" "I" : Cond) ∈ lw_tbl := List.mem_append_right _ (List.mem_append_left _ (List.mem_of_getElem? (l := tables_1_1) (i := 111) rfl))
set_option maxRecDepth 100000 in
theorem tw_313 : (Cond.fieldLink RX0 46 "AlikePosts$Flooding" "draw" "J" : Cond) ∈ lw_tbl := List.mem_append_right _ (List.mem_append_left _ (List.mem_of_getElem? (l := tables_1_1) (i := 112) rfl))
set_option maxRecDepth 100000 in
theorem tw_314 : (Cond.fieldLink RX0 42 "AlikePosts$Flooding" "words" "I" : Cond) ∈ lw_tbl := List.mem_append_right _ (List.mem_append_left _ (List.mem_of_getElem? (l := tables_1_1) (i := 100) rfl))
set_option maxRecDepth 100000 in
theorem tw_315 : (Cond.fieldLink RX0 38 "AlikePosts$Flooding" "there" "Z" : Cond) ∈ lw_tbl := List.mem_append_right _ (List.mem_append_left _ (List.mem_of_getElem? (l := tables_1_1) (i := 98) rfl))
set_option maxRecDepth 100000 in
theorem tw_316 : (Cond.code yX0_runFrom cX0_runFrom 5 none : Cond) ∈ lw_tbl := List.mem_append_right _ (List.mem_append_right _ (List.mem_append_left _ (List.mem_of_getElem? (l := tables_1_2) (i := 181) rfl)))
set_option maxRecDepth 100000 in
theorem tw_317 : (Cond.selects RX0 yX0_runFrom yX0_runFrom : Cond) ∈ lw_tbl := List.mem_append_right _ (List.mem_append_right _ (List.mem_append_left _ (List.mem_of_getElem? (l := tables_1_2) (i := 180) rfl)))
set_option maxRecDepth 100000 in
theorem tw_318 : (Cond.instanceMethod yX0_runFrom : Cond) ∈ lw_tbl := List.mem_append_right _ (List.mem_append_right _ (List.mem_append_left _ (List.mem_of_getElem? (l := tables_1_2) (i := 179) rfl)))
set_option maxRecDepth 100000 in
theorem tw_319 : (Cond.methodLink RX4 176 yX0_runFrom : Cond) ∈ lw_tbl := List.mem_append_right _ (List.mem_append_right _ (List.mem_append_left _ (List.mem_of_getElem? (l := tables_1_2) (i := 178) rfl)))
set_option maxRecDepth 100000 in
theorem tw_320 : (Cond.fieldLink RX4 180 "AlikePosts$Flooding" "words" "I" : Cond) ∈ lw_tbl := List.mem_append_right _ (List.mem_append_left _ (List.mem_of_getElem? (l := tables_1_1) (i := 101) rfl))
set_option maxRecDepth 100000 in
theorem tw_321 : (Cond.methodLink RX0 64 yX0_bringFrom : Cond) ∈ lw_tbl := List.mem_append_right _ (List.mem_append_right _ (List.mem_append_left _ (List.mem_of_getElem? (l := tables_1_2) (i := 200) rfl)))
set_option maxRecDepth 100000 in
theorem tw_322 : (Cond.code yX0_takeSlot cX0_takeSlot 4 (some .int) : Cond) ∈ lw_tbl := List.mem_append_right _ (List.mem_append_right _ (List.mem_append_left _ (List.mem_of_getElem? (l := tables_1_2) (i := 199) rfl)))
set_option maxRecDepth 100000 in
theorem tw_323 : (Cond.selects RX0 yX0_takeSlot yX0_takeSlot : Cond) ∈ lw_tbl := List.mem_append_left _ (List.mem_of_getElem? (l := k2_sels lw_privs) (i := 16) rfl)
set_option maxRecDepth 100000 in
theorem tw_324 : (Cond.instanceMethod yX0_takeSlot : Cond) ∈ lw_tbl := List.mem_append_right _ (List.mem_append_right _ (List.mem_append_left _ (List.mem_of_getElem? (l := tables_1_2) (i := 198) rfl)))
set_option maxRecDepth 100000 in
theorem tw_325 : (Cond.methodLink RX0 61 yX0_takeSlot : Cond) ∈ lw_tbl := List.mem_append_right _ (List.mem_append_right _ (List.mem_append_left _ (List.mem_of_getElem? (l := tables_1_2) (i := 196) rfl)))
set_option maxRecDepth 100000 in
theorem tw_326 : (Cond.constantLong RX0 82 (4096) : Cond) ∈ lw_tbl := List.mem_append_right _ (List.mem_append_right _ (List.mem_append_left _ (List.mem_of_getElem? (l := tables_1_2) (i := 195) rfl)))
set_option maxRecDepth 100000 in
theorem tw_327 : (Cond.constantLong RX0 80 (2147483647) : Cond) ∈ lw_tbl := List.mem_append_right _ (List.mem_append_right _ (List.mem_append_left _ (List.mem_of_getElem? (l := tables_1_2) (i := 194) rfl)))
set_option maxRecDepth 100000 in
theorem tw_328 : (Cond.constantLong RX0 78 (1442695040888963407) : Cond) ∈ lw_tbl := List.mem_append_right _ (List.mem_append_right _ (List.mem_append_left _ (List.mem_of_getElem? (l := tables_1_2) (i := 193) rfl)))
set_option maxRecDepth 100000 in
theorem tw_329 : (Cond.constantLong RX0 76 (6364136223846793005) : Cond) ∈ lw_tbl := List.mem_append_right _ (List.mem_append_right _ (List.mem_append_left _ (List.mem_of_getElem? (l := tables_1_2) (i := 192) rfl)))
set_option maxRecDepth 100000 in
theorem tw_330 : (Cond.code yX0_numberBelow cX0_numberBelow 2 (some .int) : Cond) ∈ lw_tbl := List.mem_append_right _ (List.mem_append_right _ (List.mem_append_left _ (List.mem_of_getElem? (l := tables_1_2) (i := 191) rfl)))
set_option maxRecDepth 100000 in
theorem tw_331 : (Cond.selects RX0 yX0_numberBelow yX0_numberBelow : Cond) ∈ lw_tbl := List.mem_append_left _ (List.mem_of_getElem? (l := k2_sels lw_privs) (i := 15) rfl)
set_option maxRecDepth 100000 in
theorem tw_332 : (Cond.instanceMethod yX0_numberBelow : Cond) ∈ lw_tbl := List.mem_append_right _ (List.mem_append_right _ (List.mem_append_left _ (List.mem_of_getElem? (l := tables_1_2) (i := 190) rfl)))
set_option maxRecDepth 100000 in
theorem tw_333 : (Cond.methodLink RX0 57 yX0_numberBelow : Cond) ∈ lw_tbl := List.mem_append_right _ (List.mem_append_right _ (List.mem_append_left _ (List.mem_of_getElem? (l := tables_1_2) (i := 188) rfl)))
set_option maxRecDepth 100000 in
theorem tw_334 : (Cond.fieldLink RX0 67 "AlikePosts$Net" "ports" "[I" : Cond) ∈ lw_tbl := List.mem_append_right _ (List.mem_append_left _ (List.mem_of_getElem? (l := tables_1_1) (i := 33) rfl))
set_option maxRecDepth 100000 in
theorem tw_335 : (Cond.code yX0_sendFrom cX0_sendFrom 3 none : Cond) ∈ lw_tbl := List.mem_append_right _ (List.mem_append_right _ (List.mem_append_left _ (List.mem_of_getElem? (l := tables_1_2) (i := 186) rfl)))
set_option maxRecDepth 100000 in
theorem tw_336 : (Cond.selects RX0 yX0_sendFrom yX0_sendFrom : Cond) ∈ lw_tbl := List.mem_append_left _ (List.mem_of_getElem? (l := k2_sels lw_privs) (i := 14) rfl)
set_option maxRecDepth 100000 in
theorem tw_337 : (Cond.instanceMethod yX0_sendFrom : Cond) ∈ lw_tbl := List.mem_append_right _ (List.mem_append_right _ (List.mem_append_left _ (List.mem_of_getElem? (l := tables_1_2) (i := 185) rfl)))
set_option maxRecDepth 100000 in
theorem tw_338 : (Cond.methodLink RX0 50 yX0_sendFrom : Cond) ∈ lw_tbl := List.mem_append_right _ (List.mem_append_right _ (List.mem_append_left _ (List.mem_of_getElem? (l := tables_1_2) (i := 183) rfl)))
set_option maxRecDepth 100000 in
theorem tw_339 : (Cond.fieldLink RX0 84 "AlikePosts$Net" "across" "[I" : Cond) ∈ lw_tbl := List.mem_append_right _ (List.mem_append_left _ (List.mem_of_getElem? (l := tables_1_1) (i := 37) rfl))
set_option maxRecDepth 100000 in
theorem tw_340 : (Cond.code yX0_bringFrom cX0_bringFrom 4 none : Cond) ∈ lw_tbl := List.mem_append_right _ (List.mem_append_right _ (List.mem_append_left _ (List.mem_of_getElem? (l := tables_1_2) (i := 203) rfl)))
set_option maxRecDepth 100000 in
theorem tw_341 : (Cond.selects RX0 yX0_bringFrom yX0_bringFrom : Cond) ∈ lw_tbl := List.mem_append_left _ (List.mem_of_getElem? (l := k2_sels lw_privs) (i := 17) rfl)
set_option maxRecDepth 100000 in
theorem tw_342 : (Cond.instanceMethod yX0_bringFrom : Cond) ∈ lw_tbl := List.mem_append_right _ (List.mem_append_right _ (List.mem_append_left _ (List.mem_of_getElem? (l := tables_1_2) (i := 202) rfl)))
set_option maxRecDepth 100000 in
theorem tw_343 : (Cond.selects RX4 yX4_flood yX4_flood : Cond) ∈ lw_tbl := List.mem_append_right _ (List.mem_append_right _ (List.mem_append_left _ (List.mem_of_getElem? (l := tables_1_2) (i := 176) rfl)))
set_option maxRecDepth 100000 in
theorem tw_344 : (Cond.instanceMethod yX4_flood : Cond) ∈ lw_tbl := List.mem_append_right _ (List.mem_append_right _ (List.mem_append_left _ (List.mem_of_getElem? (l := tables_1_2) (i := 175) rfl)))
set_option maxRecDepth 100000 in
theorem tw_345 : (Cond.methodLink RL 80 yX4_flood : Cond) ∈ lw_tbl := List.mem_append_right _ (List.mem_append_right _ (List.mem_append_left _ (List.mem_of_getElem? (l := tables_1_2) (i := 174) rfl)))
set_option maxRecDepth 100000 in
theorem tw_346 : (Cond.code yX4_flooded cX4_flooded 3 (some .int) : Cond) ∈ lw_tbl := List.mem_append_right _ (List.mem_append_right _ (List.mem_append_left _ (List.mem_of_getElem? (l := tables_1_2) (i := 209) rfl)))
set_option maxRecDepth 100000 in
theorem tw_347 : (Cond.fieldLink RX4 193 "AlikePosts$Flooding" "loads" "[I" : Cond) ∈ lw_tbl := List.mem_append_right _ (List.mem_append_left _ (List.mem_of_getElem? (l := tables_1_1) (i := 109) rfl))
set_option maxRecDepth 100000 in
theorem tw_348 : (Cond.fieldLink RX4 190 "AlikePosts$Flooding" "depths" "[I" : Cond) ∈ lw_tbl := List.mem_append_right _ (List.mem_append_left _ (List.mem_of_getElem? (l := tables_1_1) (i := 107) rfl))
set_option maxRecDepth 100000 in
theorem tw_349 : (Cond.fieldLink RX4 187 "AlikePosts$Flooding" "parentPorts" "[I" : Cond) ∈ lw_tbl := List.mem_append_right _ (List.mem_append_left _ (List.mem_of_getElem? (l := tables_1_1) (i := 105) rfl))
set_option maxRecDepth 100000 in
theorem tw_350 : (Cond.selects RX4 yX4_flooded yX4_flooded : Cond) ∈ lw_tbl := List.mem_append_right _ (List.mem_append_right _ (List.mem_append_left _ (List.mem_of_getElem? (l := tables_1_2) (i := 208) rfl)))
set_option maxRecDepth 100000 in
theorem tw_351 : (Cond.instanceMethod yX4_flooded : Cond) ∈ lw_tbl := List.mem_append_right _ (List.mem_append_right _ (List.mem_append_left _ (List.mem_of_getElem? (l := tables_1_2) (i := 207) rfl)))
set_option maxRecDepth 100000 in
theorem tw_352 : (Cond.methodLink RL 85 yX4_flooded : Cond) ∈ lw_tbl := List.mem_append_right _ (List.mem_append_right _ (List.mem_append_left _ (List.mem_of_getElem? (l := tables_1_2) (i := 206) rfl)))
set_option maxRecDepth 100000 in
theorem tw_353 : (Cond.code yX4_word cX4_word 2 (some .int) : Cond) ∈ lw_tbl := List.mem_append_right _ (List.mem_append_right _ (List.mem_append_left _ (List.mem_of_getElem? (l := tables_1_2) (i := 213) rfl)))
set_option maxRecDepth 100000 in
theorem tw_354 : (Cond.fieldLink RX4 196 "AlikePosts$Flooding" "comings" "[I" : Cond) ∈ lw_tbl := List.mem_append_right _ (List.mem_append_left _ (List.mem_of_getElem? (l := tables_1_1) (i := 103) rfl))
set_option maxRecDepth 100000 in
theorem tw_355 : (Cond.selects RX4 yX4_word yX4_word : Cond) ∈ lw_tbl := List.mem_append_right _ (List.mem_append_right _ (List.mem_append_left _ (List.mem_of_getElem? (l := tables_1_2) (i := 212) rfl)))
set_option maxRecDepth 100000 in
theorem tw_356 : (Cond.instanceMethod yX4_word : Cond) ∈ lw_tbl := List.mem_append_right _ (List.mem_append_right _ (List.mem_append_left _ (List.mem_of_getElem? (l := tables_1_2) (i := 211) rfl)))
set_option maxRecDepth 100000 in
theorem tw_357 : (Cond.methodLink RL 89 yX4_word : Cond) ∈ lw_tbl := List.mem_append_right _ (List.mem_append_right _ (List.mem_append_left _ (List.mem_of_getElem? (l := tables_1_2) (i := 210) rfl)))
set_option maxRecDepth 100000 in
theorem tw_358 : (Cond.code yX4_lots cX4_lots 3 (some .long) : Cond) ∈ lw_tbl := List.mem_append_right _ (List.mem_append_right _ (List.mem_append_left _ (List.mem_of_getElem? (l := tables_1_2) (i := 217) rfl)))
set_option maxRecDepth 100000 in
theorem tw_359 : (Cond.code yX4_rowsWithOneGreatest cX4_rowsWithOneGreatest 5 (some .long) : Cond) ∈ lw_tbl := List.mem_append_right _ (List.mem_append_right _ (List.mem_append_left _ (List.mem_of_getElem? (l := tables_1_2) (i := 224) rfl)))
set_option maxRecDepth 100000 in
theorem tw_360 : (Cond.static yX4_rowsWithOneGreatest : Cond) ∈ lw_tbl := List.mem_append_right _ (List.mem_append_right _ (List.mem_append_left _ (List.mem_of_getElem? (l := tables_1_2) (i := 223) rfl)))
set_option maxRecDepth 100000 in
theorem tw_361 : (Cond.methodLink RX4 205 yX4_rowsWithOneGreatest : Cond) ∈ lw_tbl := List.mem_append_right _ (List.mem_append_right _ (List.mem_append_left _ (List.mem_of_getElem? (l := tables_1_2) (i := 222) rfl)))
set_option maxRecDepth 100000 in
theorem tw_362 : (Cond.code yX4_power cX4_power 5 (some .long) : Cond) ∈ lw_tbl := List.mem_append_right _ (List.mem_append_right _ (List.mem_append_left _ (List.mem_of_getElem? (l := tables_1_2) (i := 221) rfl)))
set_option maxRecDepth 100000 in
theorem tw_363 : (Cond.static yX4_power : Cond) ∈ lw_tbl := List.mem_append_right _ (List.mem_append_right _ (List.mem_append_left _ (List.mem_of_getElem? (l := tables_1_2) (i := 220) rfl)))
set_option maxRecDepth 100000 in
theorem tw_364 : (Cond.methodLink RX4 201 yX4_power : Cond) ∈ lw_tbl := List.mem_append_right _ (List.mem_append_right _ (List.mem_append_left _ (List.mem_of_getElem? (l := tables_1_2) (i := 219) rfl)))
set_option maxRecDepth 100000 in
theorem tw_365 : (Cond.constantLong RX4 199 (-9223372036854775808) : Cond) ∈ lw_tbl := List.mem_append_right _ (List.mem_append_right _ (List.mem_append_left _ (List.mem_of_getElem? (l := tables_1_2) (i := 218) rfl)))
set_option maxRecDepth 100000 in
theorem tw_366 : (Cond.selects RX4 yX4_lots yX4_lots : Cond) ∈ lw_tbl := List.mem_append_right _ (List.mem_append_right _ (List.mem_append_left _ (List.mem_of_getElem? (l := tables_1_2) (i := 216) rfl)))
set_option maxRecDepth 100000 in
theorem tw_367 : (Cond.instanceMethod yX4_lots : Cond) ∈ lw_tbl := List.mem_append_right _ (List.mem_append_right _ (List.mem_append_left _ (List.mem_of_getElem? (l := tables_1_2) (i := 215) rfl)))
set_option maxRecDepth 100000 in
theorem tw_368 : (Cond.methodLink RL 93 yX4_lots : Cond) ∈ lw_tbl := List.mem_append_right _ (List.mem_append_right _ (List.mem_append_left _ (List.mem_of_getElem? (l := tables_1_2) (i := 214) rfl)))
set_option maxRecDepth 100000 in
theorem tw_369 : (Cond.code yX4_sheet cX4_sheet 5 (some .int) : Cond) ∈ lw_tbl := List.mem_append_right _ (List.mem_append_right _ (List.mem_append_left _ (List.mem_of_getElem? (l := tables_1_2) (i := 228) rfl)))
set_option maxRecDepth 100000 in
theorem tw_370 : (Cond.methodLink RX3 26 yJ7_fill_53178 : Cond) ∈ lw_tbl := List.mem_append_right _ (List.mem_append_right _ (List.mem_append_left _ (List.mem_of_getElem? (l := tables_1_2) (i := 233) rfl)))
set_option maxRecDepth 100000 in
theorem tw_371 : (Cond.fieldLink RX3 19 "AlikePosts$Sheet" "lane" "I" : Cond) ∈ lw_tbl := List.mem_append_right _ (List.mem_append_left _ (List.mem_of_getElem? (l := tables_1_1) (i := 144) rfl))
set_option maxRecDepth 100000 in
theorem tw_372 : (Cond.fieldLink RX3 15 "AlikePosts$Sheet" "there" "Z" : Cond) ∈ lw_tbl := List.mem_append_right _ (List.mem_append_left _ (List.mem_of_getElem? (l := tables_1_1) (i := 142) rfl))
set_option maxRecDepth 100000 in
theorem tw_373 : (Cond.code yX3_renew cX3_renew 3 none : Cond) ∈ lw_tbl := List.mem_append_right _ (List.mem_append_right _ (List.mem_append_left _ (List.mem_of_getElem? (l := tables_1_2) (i := 232) rfl)))
set_option maxRecDepth 100000 in
theorem tw_374 : (Cond.selects RX3 yX3_renew yX3_renew : Cond) ∈ lw_tbl := List.mem_append_right _ (List.mem_append_right _ (List.mem_append_left _ (List.mem_of_getElem? (l := tables_1_2) (i := 231) rfl)))
set_option maxRecDepth 100000 in
theorem tw_375 : (Cond.instanceMethod yX3_renew : Cond) ∈ lw_tbl := List.mem_append_right _ (List.mem_append_right _ (List.mem_append_left _ (List.mem_of_getElem? (l := tables_1_2) (i := 230) rfl)))
set_option maxRecDepth 100000 in
theorem tw_376 : (Cond.methodLink RX4 208 yX3_renew : Cond) ∈ lw_tbl := List.mem_append_right _ (List.mem_append_right _ (List.mem_append_left _ (List.mem_of_getElem? (l := tables_1_2) (i := 229) rfl)))
set_option maxRecDepth 100000 in
theorem tw_377 : (Cond.selects RX4 yX4_sheet yX4_sheet : Cond) ∈ lw_tbl := List.mem_append_right _ (List.mem_append_right _ (List.mem_append_left _ (List.mem_of_getElem? (l := tables_1_2) (i := 227) rfl)))
set_option maxRecDepth 100000 in
theorem tw_378 : (Cond.instanceMethod yX4_sheet : Cond) ∈ lw_tbl := List.mem_append_right _ (List.mem_append_right _ (List.mem_append_left _ (List.mem_of_getElem? (l := tables_1_2) (i := 226) rfl)))
set_option maxRecDepth 100000 in
theorem tw_379 : (Cond.methodLink RL 98 yX4_sheet : Cond) ∈ lw_tbl := List.mem_append_right _ (List.mem_append_right _ (List.mem_append_left _ (List.mem_of_getElem? (l := tables_1_2) (i := 225) rfl)))
set_option maxRecDepth 100000 in
theorem tw_380 : (Cond.code yX4_lose cX4_lose 4 (some .int) : Cond) ∈ lw_tbl := List.mem_append_right _ (List.mem_append_right _ (List.mem_append_left _ (List.mem_of_getElem? (l := tables_1_2) (i := 237) rfl)))
set_option maxRecDepth 100000 in
theorem tw_381 : (Cond.selects RX4 yX4_lose yX4_lose : Cond) ∈ lw_tbl := List.mem_append_right _ (List.mem_append_right _ (List.mem_append_left _ (List.mem_of_getElem? (l := tables_1_2) (i := 236) rfl)))
set_option maxRecDepth 100000 in
theorem tw_382 : (Cond.instanceMethod yX4_lose : Cond) ∈ lw_tbl := List.mem_append_right _ (List.mem_append_right _ (List.mem_append_left _ (List.mem_of_getElem? (l := tables_1_2) (i := 235) rfl)))
set_option maxRecDepth 100000 in
theorem tw_383 : (Cond.methodLink RL 102 yX4_lose : Cond) ∈ lw_tbl := List.mem_append_right _ (List.mem_append_right _ (List.mem_append_left _ (List.mem_of_getElem? (l := tables_1_2) (i := 234) rfl)))
set_option maxRecDepth 100000 in
theorem tw_384 : (Cond.code yX4_put cX4_put 5 (some .int) : Cond) ∈ lw_tbl := List.mem_append_right _ (List.mem_append_right _ (List.mem_append_right _ (List.mem_append_left _ (List.mem_of_getElem? (l := tables_1_3) (i := 1) rfl))))
set_option maxRecDepth 100000 in
theorem tw_385 : (Cond.code yX4_cutTo cX4_cutTo 2 (some .int) : Cond) ∈ lw_tbl := List.mem_append_right _ (List.mem_append_right _ (List.mem_append_right _ (List.mem_append_left _ (List.mem_of_getElem? (l := tables_1_3) (i := 4) rfl))))
set_option maxRecDepth 100000 in
theorem tw_386 : (Cond.static yX4_cutTo : Cond) ∈ lw_tbl := List.mem_append_right _ (List.mem_append_right _ (List.mem_append_right _ (List.mem_append_left _ (List.mem_of_getElem? (l := tables_1_3) (i := 3) rfl))))
set_option maxRecDepth 100000 in
theorem tw_387 : (Cond.methodLink RX4 218 yX4_cutTo : Cond) ∈ lw_tbl := List.mem_append_right _ (List.mem_append_right _ (List.mem_append_right _ (List.mem_append_left _ (List.mem_of_getElem? (l := tables_1_3) (i := 2) rfl))))
set_option maxRecDepth 100000 in
theorem tw_388 : (Cond.fieldLink RX4 212 "AlikePosts$Sheet" "cells" "[I" : Cond) ∈ lw_tbl := List.mem_append_right _ (List.mem_append_left _ (List.mem_of_getElem? (l := tables_1_1) (i := 149) rfl))
set_option maxRecDepth 100000 in
theorem tw_389 : (Cond.selects RX4 yX4_put yX4_put : Cond) ∈ lw_tbl := List.mem_append_right _ (List.mem_append_right _ (List.mem_append_right _ (List.mem_append_left _ (List.mem_of_getElem? (l := tables_1_3) (i := 0) rfl))))
set_option maxRecDepth 100000 in
theorem tw_390 : (Cond.instanceMethod yX4_put : Cond) ∈ lw_tbl := List.mem_append_right _ (List.mem_append_right _ (List.mem_append_left _ (List.mem_of_getElem? (l := tables_1_2) (i := 239) rfl)))
set_option maxRecDepth 100000 in
theorem tw_391 : (Cond.methodLink RL 106 yX4_put : Cond) ∈ lw_tbl := List.mem_append_right _ (List.mem_append_right _ (List.mem_append_left _ (List.mem_of_getElem? (l := tables_1_2) (i := 238) rfl)))
set_option maxRecDepth 100000 in
theorem tw_392 : (Cond.code yX4_cell cX4_cell 6 (some .long) : Cond) ∈ lw_tbl := List.mem_append_right _ (List.mem_append_right _ (List.mem_append_right _ (List.mem_append_left _ (List.mem_of_getElem? (l := tables_1_3) (i := 8) rfl))))
set_option maxRecDepth 100000 in
theorem tw_393 : (Cond.selects RX4 yX4_cell yX4_cell : Cond) ∈ lw_tbl := List.mem_append_right _ (List.mem_append_right _ (List.mem_append_right _ (List.mem_append_left _ (List.mem_of_getElem? (l := tables_1_3) (i := 7) rfl))))
set_option maxRecDepth 100000 in
theorem tw_394 : (Cond.instanceMethod yX4_cell : Cond) ∈ lw_tbl := List.mem_append_right _ (List.mem_append_right _ (List.mem_append_right _ (List.mem_append_left _ (List.mem_of_getElem? (l := tables_1_3) (i := 6) rfl))))
set_option maxRecDepth 100000 in
theorem tw_395 : (Cond.methodLink RL 110 yX4_cell : Cond) ∈ lw_tbl := List.mem_append_right _ (List.mem_append_right _ (List.mem_append_right _ (List.mem_append_left _ (List.mem_of_getElem? (l := tables_1_3) (i := 5) rfl))))
set_option maxRecDepth 100000 in
theorem tw_396 : (Cond.code yX4_copy cX4_copy 8 (some .int) : Cond) ∈ lw_tbl := List.mem_append_right _ (List.mem_append_right _ (List.mem_append_right _ (List.mem_append_left _ (List.mem_of_getElem? (l := tables_1_3) (i := 12) rfl))))
set_option maxRecDepth 100000 in
theorem tw_397 : (Cond.methodLink RX4 221 arraycopyName : Cond) ∈ lw_tbl := List.mem_append_right _ (List.mem_append_right _ (List.mem_append_right _ (List.mem_append_left _ (List.mem_of_getElem? (l := tables_1_3) (i := 13) rfl))))
set_option maxRecDepth 100000 in
theorem tw_398 : (Cond.selects RX4 yX4_copy yX4_copy : Cond) ∈ lw_tbl := List.mem_append_right _ (List.mem_append_right _ (List.mem_append_right _ (List.mem_append_left _ (List.mem_of_getElem? (l := tables_1_3) (i := 11) rfl))))
set_option maxRecDepth 100000 in
theorem tw_399 : (Cond.instanceMethod yX4_copy : Cond) ∈ lw_tbl := List.mem_append_right _ (List.mem_append_right _ (List.mem_append_right _ (List.mem_append_left _ (List.mem_of_getElem? (l := tables_1_3) (i := 10) rfl))))
set_option maxRecDepth 100000 in
theorem tw_400 : (Cond.methodLink RL 115 yX4_copy : Cond) ∈ lw_tbl := List.mem_append_right _ (List.mem_append_right _ (List.mem_append_right _ (List.mem_append_left _ (List.mem_of_getElem? (l := tables_1_3) (i := 9) rfl))))
set_option maxRecDepth 100000 in
theorem tw_401 : (Cond.code yX4_tell cX4_tell 2 (some .int) : Cond) ∈ lw_tbl := List.mem_append_right _ (List.mem_append_right _ (List.mem_append_right _ (List.mem_append_left _ (List.mem_of_getElem? (l := tables_1_3) (i := 17) rfl))))
set_option maxRecDepth 100000 in
theorem tw_402 : (Cond.instanceMethod yX4_tellAsPost : Cond) ∈ lw_tbl := List.mem_append_right _ (List.mem_append_right _ (List.mem_append_right _ (List.mem_append_left _ (List.mem_of_getElem? (l := tables_1_3) (i := 32) rfl))))
set_option maxRecDepth 100000 in
theorem tw_403 : (Cond.methodLink RX4 236 yX4_tellAsPost : Cond) ∈ lw_tbl := List.mem_append_right _ (List.mem_append_right _ (List.mem_append_right _ (List.mem_append_left _ (List.mem_of_getElem? (l := tables_1_3) (i := 30) rfl))))
set_option maxRecDepth 100000 in
theorem tw_404 : (Cond.fieldLink RX4 242 "AlikePosts" "traceSoFar" "I" : Cond) ∈ lw_tbl := List.mem_append_right _ (List.mem_append_left _ (List.mem_of_getElem? (l := tables_1_1) (i := 163) rfl))
set_option maxRecDepth 100000 in
theorem tw_405 : (Cond.code yX4_leave cX4_leave 2 none : Cond) ∈ lw_tbl := List.mem_append_right _ (List.mem_append_right _ (List.mem_append_right _ (List.mem_append_left _ (List.mem_of_getElem? (l := tables_1_3) (i := 29) rfl))))
set_option maxRecDepth 100000 in
theorem tw_406 : (Cond.selects RX4 yX4_leave yX4_leave : Cond) ∈ lw_tbl := List.mem_append_left _ (List.mem_of_getElem? (l := k2_sels lw_privs) (i := 20) rfl)
set_option maxRecDepth 100000 in
theorem tw_407 : (Cond.instanceMethod yX4_leave : Cond) ∈ lw_tbl := List.mem_append_right _ (List.mem_append_right _ (List.mem_append_right _ (List.mem_append_left _ (List.mem_of_getElem? (l := tables_1_3) (i := 28) rfl))))
set_option maxRecDepth 100000 in
theorem tw_408 : (Cond.methodLink RX4 239 yX4_leave : Cond) ∈ lw_tbl := List.mem_append_right _ (List.mem_append_right _ (List.mem_append_right _ (List.mem_append_left _ (List.mem_of_getElem? (l := tables_1_3) (i := 26) rfl))))
set_option maxRecDepth 100000 in
theorem tw_409 : (Cond.code yX4_tellAsEnd cX4_tellAsEnd 2 (some .int) : Cond) ∈ lw_tbl := List.mem_append_right _ (List.mem_append_right _ (List.mem_append_right _ (List.mem_append_left _ (List.mem_of_getElem? (l := tables_1_3) (i := 25) rfl))))
set_option maxRecDepth 100000 in
theorem tw_410 : (Cond.selects RX4 yX4_tellAsEnd yX4_tellAsEnd : Cond) ∈ lw_tbl := List.mem_append_left _ (List.mem_of_getElem? (l := k2_sels lw_privs) (i := 19) rfl)
set_option maxRecDepth 100000 in
theorem tw_411 : (Cond.instanceMethod yX4_tellAsEnd : Cond) ∈ lw_tbl := List.mem_append_right _ (List.mem_append_right _ (List.mem_append_right _ (List.mem_append_left _ (List.mem_of_getElem? (l := tables_1_3) (i := 24) rfl))))
set_option maxRecDepth 100000 in
theorem tw_412 : (Cond.methodLink RX4 230 yX4_tellAsEnd : Cond) ∈ lw_tbl := List.mem_append_right _ (List.mem_append_right _ (List.mem_append_right _ (List.mem_append_left _ (List.mem_of_getElem? (l := tables_1_3) (i := 22) rfl))))
set_option maxRecDepth 100000 in
theorem tw_413 : (Cond.code yX4_isOfKind cX4_isOfKind 3 (some .boolean) : Cond) ∈ lw_tbl := List.mem_append_right _ (List.mem_append_right _ (List.mem_append_right _ (List.mem_append_left _ (List.mem_of_getElem? (l := tables_1_3) (i := 21) rfl))))
set_option maxRecDepth 100000 in
theorem tw_414 : (Cond.selects RX4 yX4_isOfKind yX4_isOfKind : Cond) ∈ lw_tbl := List.mem_append_left _ (List.mem_of_getElem? (l := k2_sels lw_privs) (i := 18) rfl)
set_option maxRecDepth 100000 in
theorem tw_415 : (Cond.instanceMethod yX4_isOfKind : Cond) ∈ lw_tbl := List.mem_append_right _ (List.mem_append_right _ (List.mem_append_right _ (List.mem_append_left _ (List.mem_of_getElem? (l := tables_1_3) (i := 20) rfl))))
set_option maxRecDepth 100000 in
theorem tw_416 : (Cond.methodLink RX4 227 yX4_isOfKind : Cond) ∈ lw_tbl := List.mem_append_right _ (List.mem_append_right _ (List.mem_append_right _ (List.mem_append_left _ (List.mem_of_getElem? (l := tables_1_3) (i := 18) rfl))))
set_option maxRecDepth 100000 in
theorem tw_417 : (Cond.code yX4_tellAsJoined cX4_tellAsJoined 2 (some .int) : Cond) ∈ lw_tbl := List.mem_append_right _ (List.mem_append_right _ (List.mem_append_right _ (List.mem_append_left _ (List.mem_of_getElem? (l := tables_1_3) (i := 37) rfl))))
set_option maxRecDepth 100000 in
theorem tw_418 : (Cond.selects RX4 yX4_tellAsJoined yX4_tellAsJoined : Cond) ∈ lw_tbl := List.mem_append_left _ (List.mem_of_getElem? (l := k2_sels lw_privs) (i := 22) rfl)
set_option maxRecDepth 100000 in
theorem tw_419 : (Cond.instanceMethod yX4_tellAsJoined : Cond) ∈ lw_tbl := List.mem_append_right _ (List.mem_append_right _ (List.mem_append_right _ (List.mem_append_left _ (List.mem_of_getElem? (l := tables_1_3) (i := 36) rfl))))
set_option maxRecDepth 100000 in
theorem tw_420 : (Cond.methodLink RX4 233 yX4_tellAsJoined : Cond) ∈ lw_tbl := List.mem_append_right _ (List.mem_append_right _ (List.mem_append_right _ (List.mem_append_left _ (List.mem_of_getElem? (l := tables_1_3) (i := 34) rfl))))
set_option maxRecDepth 100000 in
theorem tw_421 : (Cond.code yX4_tellAsPost cX4_tellAsPost 2 (some .int) : Cond) ∈ lw_tbl := List.mem_append_right _ (List.mem_append_right _ (List.mem_append_right _ (List.mem_append_left _ (List.mem_of_getElem? (l := tables_1_3) (i := 33) rfl))))
set_option maxRecDepth 100000 in
theorem tw_422 : (Cond.selects RX4 yX4_tellAsPost yX4_tellAsPost : Cond) ∈ lw_tbl := List.mem_append_left _ (List.mem_of_getElem? (l := k2_sels lw_privs) (i := 21) rfl)
set_option maxRecDepth 100000 in
theorem tw_423 : (Cond.selects RX4 yX4_tell yX4_tell : Cond) ∈ lw_tbl := List.mem_append_right _ (List.mem_append_right _ (List.mem_append_right _ (List.mem_append_left _ (List.mem_of_getElem? (l := tables_1_3) (i := 16) rfl))))
set_option maxRecDepth 100000 in
theorem tw_424 : (Cond.instanceMethod yX4_tell : Cond) ∈ lw_tbl := List.mem_append_right _ (List.mem_append_right _ (List.mem_append_right _ (List.mem_append_left _ (List.mem_of_getElem? (l := tables_1_3) (i := 15) rfl))))
set_option maxRecDepth 100000 in
theorem tw_425 : (Cond.methodLink RL 120 yX4_tell : Cond) ∈ lw_tbl := List.mem_append_right _ (List.mem_append_right _ (List.mem_append_right _ (List.mem_append_left _ (List.mem_of_getElem? (l := tables_1_3) (i := 14) rfl))))
set_option maxRecDepth 100000 in
theorem tw_426 : (Cond.code yX4_hear cX4_hear 2 (some .int) : Cond) ∈ lw_tbl := List.mem_append_right _ (List.mem_append_right _ (List.mem_append_right _ (List.mem_append_left _ (List.mem_of_getElem? (l := tables_1_3) (i := 41) rfl))))
set_option maxRecDepth 100000 in
theorem tw_427 : (Cond.selects RX4 yX4_hear yX4_hear : Cond) ∈ lw_tbl := List.mem_append_right _ (List.mem_append_right _ (List.mem_append_right _ (List.mem_append_left _ (List.mem_of_getElem? (l := tables_1_3) (i := 40) rfl))))
set_option maxRecDepth 100000 in
theorem tw_428 : (Cond.instanceMethod yX4_hear : Cond) ∈ lw_tbl := List.mem_append_right _ (List.mem_append_right _ (List.mem_append_right _ (List.mem_append_left _ (List.mem_of_getElem? (l := tables_1_3) (i := 39) rfl))))
set_option maxRecDepth 100000 in
theorem tw_429 : (Cond.methodLink RL 124 yX4_hear : Cond) ∈ lw_tbl := List.mem_append_right _ (List.mem_append_right _ (List.mem_append_right _ (List.mem_append_left _ (List.mem_of_getElem? (l := tables_1_3) (i := 38) rfl))))
set_option maxRecDepth 100000 in
theorem tw_430 : (Cond.code yX4_as cX4_as 3 (some .int) : Cond) ∈ lw_tbl := List.mem_append_right _ (List.mem_append_right _ (List.mem_append_right _ (List.mem_append_left _ (List.mem_of_getElem? (l := tables_1_3) (i := 45) rfl))))
set_option maxRecDepth 100000 in
theorem tw_431 : (Cond.selects RX4 yX4_as yX4_as : Cond) ∈ lw_tbl := List.mem_append_right _ (List.mem_append_right _ (List.mem_append_right _ (List.mem_append_left _ (List.mem_of_getElem? (l := tables_1_3) (i := 44) rfl))))
set_option maxRecDepth 100000 in
theorem tw_432 : (Cond.instanceMethod yX4_as : Cond) ∈ lw_tbl := List.mem_append_right _ (List.mem_append_right _ (List.mem_append_right _ (List.mem_append_left _ (List.mem_of_getElem? (l := tables_1_3) (i := 43) rfl))))
set_option maxRecDepth 100000 in
theorem tw_433 : (Cond.methodLink RL 128 yX4_as : Cond) ∈ lw_tbl := List.mem_append_right _ (List.mem_append_right _ (List.mem_append_right _ (List.mem_append_left _ (List.mem_of_getElem? (l := tables_1_3) (i := 42) rfl))))
set_option maxRecDepth 100000 in
theorem tw_434 : (Cond.code yX4_trace cX4_trace 1 (some .int) : Cond) ∈ lw_tbl := List.mem_append_right _ (List.mem_append_right _ (List.mem_append_right _ (List.mem_append_left _ (List.mem_of_getElem? (l := tables_1_3) (i := 49) rfl))))
set_option maxRecDepth 100000 in
theorem tw_435 : (Cond.selects RX4 yX4_trace yX4_trace : Cond) ∈ lw_tbl := List.mem_append_right _ (List.mem_append_right _ (List.mem_append_right _ (List.mem_append_left _ (List.mem_of_getElem? (l := tables_1_3) (i := 48) rfl))))
set_option maxRecDepth 100000 in
theorem tw_436 : (Cond.instanceMethod yX4_trace : Cond) ∈ lw_tbl := List.mem_append_right _ (List.mem_append_right _ (List.mem_append_right _ (List.mem_append_left _ (List.mem_of_getElem? (l := tables_1_3) (i := 47) rfl))))
set_option maxRecDepth 100000 in
theorem tw_437 : (Cond.methodLink RL 132 yX4_trace : Cond) ∈ lw_tbl := List.mem_append_right _ (List.mem_append_right _ (List.mem_append_right _ (List.mem_append_left _ (List.mem_of_getElem? (l := tables_1_3) (i := 46) rfl))))
set_option maxRecDepth 100000 in
theorem tw_438 : (Cond.code yX4_fault cX4_fault 1 (some .int) : Cond) ∈ lw_tbl := List.mem_append_right _ (List.mem_append_right _ (List.mem_append_right _ (List.mem_append_left _ (List.mem_of_getElem? (l := tables_1_3) (i := 53) rfl))))
set_option maxRecDepth 100000 in
theorem tw_439 : (Cond.selects RX4 yX4_fault yX4_fault : Cond) ∈ lw_tbl := List.mem_append_right _ (List.mem_append_right _ (List.mem_append_right _ (List.mem_append_left _ (List.mem_of_getElem? (l := tables_1_3) (i := 52) rfl))))
set_option maxRecDepth 100000 in
theorem tw_440 : (Cond.instanceMethod yX4_fault : Cond) ∈ lw_tbl := List.mem_append_right _ (List.mem_append_right _ (List.mem_append_right _ (List.mem_append_left _ (List.mem_of_getElem? (l := tables_1_3) (i := 51) rfl))))
set_option maxRecDepth 100000 in
theorem tw_441 : (Cond.methodLink RL 136 yX4_fault : Cond) ∈ lw_tbl := List.mem_append_right _ (List.mem_append_right _ (List.mem_append_right _ (List.mem_append_left _ (List.mem_of_getElem? (l := tables_1_3) (i := 50) rfl))))
set_option maxRecDepth 100000 in
theorem tw_442 : (Cond.code yX4_told cX4_told 2 (some .int) : Cond) ∈ lw_tbl := List.mem_append_right _ (List.mem_append_right _ (List.mem_append_right _ (List.mem_append_left _ (List.mem_of_getElem? (l := tables_1_3) (i := 57) rfl))))
set_option maxRecDepth 100000 in
theorem tw_443 : (Cond.code yX1_ends cX1_ends 3 (some .int) : Cond) ∈ lw_tbl := List.mem_append_right _ (List.mem_append_right _ (List.mem_append_right _ (List.mem_append_left _ (List.mem_of_getElem? (l := tables_1_3) (i := 61) rfl))))
set_option maxRecDepth 100000 in
theorem tw_444 : (Cond.selects RX1 yX1_ends yX1_ends : Cond) ∈ lw_tbl := List.mem_append_right _ (List.mem_append_right _ (List.mem_append_right _ (List.mem_append_left _ (List.mem_of_getElem? (l := tables_1_3) (i := 60) rfl))))
set_option maxRecDepth 100000 in
theorem tw_445 : (Cond.instanceMethod yX1_ends : Cond) ∈ lw_tbl := List.mem_append_right _ (List.mem_append_right _ (List.mem_append_right _ (List.mem_append_left _ (List.mem_of_getElem? (l := tables_1_3) (i := 59) rfl))))
set_option maxRecDepth 100000 in
theorem tw_446 : (Cond.methodLink RX4 245 yX1_ends : Cond) ∈ lw_tbl := List.mem_append_right _ (List.mem_append_right _ (List.mem_append_right _ (List.mem_append_left _ (List.mem_of_getElem? (l := tables_1_3) (i := 58) rfl))))
set_option maxRecDepth 100000 in
theorem tw_447 : (Cond.selects RX4 yX4_told yX4_told : Cond) ∈ lw_tbl := List.mem_append_right _ (List.mem_append_right _ (List.mem_append_right _ (List.mem_append_left _ (List.mem_of_getElem? (l := tables_1_3) (i := 56) rfl))))
set_option maxRecDepth 100000 in
theorem tw_448 : (Cond.instanceMethod yX4_told : Cond) ∈ lw_tbl := List.mem_append_right _ (List.mem_append_right _ (List.mem_append_right _ (List.mem_append_left _ (List.mem_of_getElem? (l := tables_1_3) (i := 55) rfl))))
set_option maxRecDepth 100000 in
theorem tw_449 : (Cond.methodLink RL 140 yX4_told : Cond) ∈ lw_tbl := List.mem_append_right _ (List.mem_append_right _ (List.mem_append_right _ (List.mem_append_left _ (List.mem_of_getElem? (l := tables_1_3) (i := 54) rfl))))
set_option maxRecDepth 100000 in
theorem tw_450 : (Cond.code yX5_init cX5_init 2 none : Cond) ∈ lw_tbl := List.mem_append_right _ (List.mem_append_right _ (List.mem_append_right _ (List.mem_append_left _ (List.mem_of_getElem? (l := tables_1_3) (i := 66) rfl))))
set_option maxRecDepth 100000 in
theorem tw_451 : (Cond.fieldLink RX5 61 "AlikePostsModel" "portsWere" "[I" : Cond) ∈ lw_tbl := List.mem_append_right _ (List.mem_append_right _ (List.mem_append_right _ (List.mem_append_left _ (List.mem_of_getElem? (l := tables_1_3) (i := 93) rfl))))
set_option maxRecDepth 100000 in
theorem tw_452 : (Cond.fieldLink RX5 58 "AlikePostsModel" "hands" "[I" : Cond) ∈ lw_tbl := List.mem_append_right _ (List.mem_append_right _ (List.mem_append_right _ (List.mem_append_left _ (List.mem_of_getElem? (l := tables_1_3) (i := 92) rfl))))
set_option maxRecDepth 100000 in
theorem tw_453 : (Cond.fieldLink RX5 55 "AlikePostsModel" "sheet" "[I" : Cond) ∈ lw_tbl := List.mem_append_right _ (List.mem_append_right _ (List.mem_append_right _ (List.mem_append_left _ (List.mem_of_getElem? (l := tables_1_3) (i := 91) rfl))))
set_option maxRecDepth 100000 in
theorem tw_454 : (Cond.fieldLink RX5 52 "AlikePostsModel" "sheetLane" "[I" : Cond) ∈ lw_tbl := List.mem_append_right _ (List.mem_append_right _ (List.mem_append_right _ (List.mem_append_left _ (List.mem_of_getElem? (l := tables_1_3) (i := 90) rfl))))
set_option maxRecDepth 100000 in
theorem tw_455 : (Cond.fieldLink RX5 49 "AlikePostsModel" "sheetSize" "[I" : Cond) ∈ lw_tbl := List.mem_append_right _ (List.mem_append_right _ (List.mem_append_right _ (List.mem_append_left _ (List.mem_of_getElem? (l := tables_1_3) (i := 89) rfl))))
set_option maxRecDepth 100000 in
theorem tw_456 : (Cond.fieldLink RX5 46 "AlikePostsModel" "sent" "[I" : Cond) ∈ lw_tbl := List.mem_append_right _ (List.mem_append_right _ (List.mem_append_right _ (List.mem_append_left _ (List.mem_of_getElem? (l := tables_1_3) (i := 88) rfl))))
set_option maxRecDepth 100000 in
theorem tw_457 : (Cond.fieldLink RX5 43 "AlikePostsModel" "loads" "[I" : Cond) ∈ lw_tbl := List.mem_append_right _ (List.mem_append_right _ (List.mem_append_right _ (List.mem_append_left _ (List.mem_of_getElem? (l := tables_1_3) (i := 87) rfl))))
set_option maxRecDepth 100000 in
theorem tw_458 : (Cond.fieldLink RX5 40 "AlikePostsModel" "depths" "[I" : Cond) ∈ lw_tbl := List.mem_append_right _ (List.mem_append_right _ (List.mem_append_right _ (List.mem_append_left _ (List.mem_of_getElem? (l := tables_1_3) (i := 86) rfl))))
set_option maxRecDepth 100000 in
theorem tw_459 : (Cond.fieldLink RX5 37 "AlikePostsModel" "parents" "[I" : Cond) ∈ lw_tbl := List.mem_append_right _ (List.mem_append_right _ (List.mem_append_right _ (List.mem_append_left _ (List.mem_of_getElem? (l := tables_1_3) (i := 85) rfl))))
set_option maxRecDepth 100000 in
theorem tw_460 : (Cond.fieldLink RX5 34 "AlikePostsModel" "wordTo" "[I" : Cond) ∈ lw_tbl := List.mem_append_right _ (List.mem_append_right _ (List.mem_append_right _ (List.mem_append_left _ (List.mem_of_getElem? (l := tables_1_3) (i := 84) rfl))))
set_option maxRecDepth 100000 in
theorem tw_461 : (Cond.fieldLink RX5 31 "AlikePostsModel" "row" "[I" : Cond) ∈ lw_tbl := List.mem_append_right _ (List.mem_append_right _ (List.mem_append_right _ (List.mem_append_left _ (List.mem_of_getElem? (l := tables_1_3) (i := 81) rfl))))
set_option maxRecDepth 100000 in
theorem tw_462 : (Cond.fieldLink RX5 28 "AlikePostsModel" "unlike" "[I" : Cond) ∈ lw_tbl := List.mem_append_right _ (List.mem_append_right _ (List.mem_append_right _ (List.mem_append_left _ (List.mem_of_getElem? (l := tables_1_3) (i := 79) rfl))))
set_option maxRecDepth 100000 in
theorem tw_463 : (Cond.fieldLink RX5 25 "AlikePostsModel" "ranks" "[I" : Cond) ∈ lw_tbl := List.mem_append_right _ (List.mem_append_right _ (List.mem_append_right _ (List.mem_append_left _ (List.mem_of_getElem? (l := tables_1_3) (i := 78) rfl))))
set_option maxRecDepth 100000 in
theorem tw_464 : (Cond.fieldLink RX5 22 "AlikePostsModel" "far" "[I" : Cond) ∈ lw_tbl := List.mem_append_right _ (List.mem_append_right _ (List.mem_append_right _ (List.mem_append_left _ (List.mem_of_getElem? (l := tables_1_3) (i := 77) rfl))))
set_option maxRecDepth 100000 in
theorem tw_465 : (Cond.fieldLink RX5 19 "AlikePostsModel" "toPort" "[I" : Cond) ∈ lw_tbl := List.mem_append_right _ (List.mem_append_right _ (List.mem_append_right _ (List.mem_append_left _ (List.mem_of_getElem? (l := tables_1_3) (i := 74) rfl))))
set_option maxRecDepth 100000 in
theorem tw_466 : (Cond.fieldLink RX5 16 "AlikePostsModel" "toPost" "[I" : Cond) ∈ lw_tbl := List.mem_append_right _ (List.mem_append_right _ (List.mem_append_right _ (List.mem_append_left _ (List.mem_of_getElem? (l := tables_1_3) (i := 73) rfl))))
set_option maxRecDepth 100000 in
theorem tw_467 : (Cond.fieldLink RX5 13 "AlikePostsModel" "ports" "[I" : Cond) ∈ lw_tbl := List.mem_append_right _ (List.mem_append_right _ (List.mem_append_right _ (List.mem_append_left _ (List.mem_of_getElem? (l := tables_1_3) (i := 72) rfl))))
set_option maxRecDepth 100000 in
theorem tw_468 : (Cond.fieldLink RX5 7 "AlikePostsModel" "marks" "[I" : Cond) ∈ lw_tbl := List.mem_append_right _ (List.mem_append_right _ (List.mem_append_right _ (List.mem_append_left _ (List.mem_of_getElem? (l := tables_1_3) (i := 71) rfl))))
set_option maxRecDepth 100000 in
theorem tw_469 : (Cond.methodLink RX5 1 objectInit : Cond) ∈ lw_tbl := List.mem_append_right _ (List.mem_append_right _ (List.mem_append_right _ (List.mem_append_left _ (List.mem_of_getElem? (l := tables_1_3) (i := 67) rfl))))
set_option maxRecDepth 100000 in
theorem tw_470 : (Cond.code yX5_clear cX5_clear 2 (some .int) : Cond) ∈ lw_tbl := List.mem_append_right _ (List.mem_append_right _ (List.mem_append_right _ (List.mem_append_left _ (List.mem_of_getElem? (l := tables_1_3) (i := 153) rfl))))
set_option maxRecDepth 100000 in
theorem tw_471 : (Cond.fieldLink RX5 89 "AlikePostsModel" "isRanked" "Z" : Cond) ∈ lw_tbl := List.mem_append_right _ (List.mem_append_right _ (List.mem_append_right _ (List.mem_append_left _ (List.mem_of_getElem? (l := tables_1_3) (i := 76) rfl))))
set_option maxRecDepth 100000 in
theorem tw_472 : (Cond.fieldLink RX5 85 "AlikePostsModel" "isFlooded" "Z" : Cond) ∈ lw_tbl := List.mem_append_right _ (List.mem_append_right _ (List.mem_append_right _ (List.mem_append_left _ (List.mem_of_getElem? (l := tables_1_3) (i := 75) rfl))))
set_option maxRecDepth 100000 in
theorem tw_473 : (Cond.code yX5_other cX5_other 1 none : Cond) ∈ lw_tbl := List.mem_append_right _ (List.mem_append_right _ (List.mem_append_right _ (List.mem_append_left _ (List.mem_of_getElem? (l := tables_1_3) (i := 157) rfl))))
set_option maxRecDepth 100000 in
theorem tw_474 : (Cond.initialized RX5 : Cond) ∈ lw_tbl := List.mem_append_right _ (List.mem_append_left _ (List.mem_of_getElem? (l := tables_1_1) (i := 6) rfl))
set_option maxRecDepth 100000 in
theorem tw_475 : (Cond.selects RX5 yX5_other yX5_other : Cond) ∈ lw_tbl := List.mem_append_left _ (List.mem_of_getElem? (l := k2_sels lw_privs) (i := 23) rfl)
set_option maxRecDepth 100000 in
theorem tw_476 : (Cond.instanceMethod yX5_other : Cond) ∈ lw_tbl := List.mem_append_right _ (List.mem_append_right _ (List.mem_append_right _ (List.mem_append_left _ (List.mem_of_getElem? (l := tables_1_3) (i := 156) rfl))))
set_option maxRecDepth 100000 in
theorem tw_477 : (Cond.methodLink RX5 95 yX5_other : Cond) ∈ lw_tbl := List.mem_append_right _ (List.mem_append_right _ (List.mem_append_right _ (List.mem_append_left _ (List.mem_of_getElem? (l := tables_1_3) (i := 154) rfl))))
set_option maxRecDepth 100000 in
theorem tw_478 : (Cond.fieldLink RX5 92 "AlikePostsModel" "lineMany" "I" : Cond) ∈ lw_tbl := List.mem_append_right _ (List.mem_append_right _ (List.mem_append_right _ (List.mem_append_left _ (List.mem_of_getElem? (l := tables_1_3) (i := 70) rfl))))
set_option maxRecDepth 100000 in
theorem tw_479 : (Cond.fieldLink RX5 74 "AlikePostsModel" "posts" "I" : Cond) ∈ lw_tbl := List.mem_append_right _ (List.mem_append_right _ (List.mem_append_right _ (List.mem_append_left _ (List.mem_of_getElem? (l := tables_1_3) (i := 69) rfl))))
set_option maxRecDepth 100000 in
theorem tw_480 : (Cond.selects RX5 yX5_clear yX5_clear : Cond) ∈ lw_tbl := List.mem_append_right _ (List.mem_append_right _ (List.mem_append_right _ (List.mem_append_left _ (List.mem_of_getElem? (l := tables_1_3) (i := 152) rfl))))
set_option maxRecDepth 100000 in
theorem tw_481 : (Cond.instanceMethod yX5_clear : Cond) ∈ lw_tbl := List.mem_append_right _ (List.mem_append_right _ (List.mem_append_right _ (List.mem_append_left _ (List.mem_of_getElem? (l := tables_1_3) (i := 151) rfl))))
set_option maxRecDepth 100000 in
theorem tw_482 : (Cond.methodLink RL 17 yX5_clear : Cond) ∈ lw_tbl := List.mem_append_right _ (List.mem_append_right _ (List.mem_append_right _ (List.mem_append_left _ (List.mem_of_getElem? (l := tables_1_3) (i := 150) rfl))))
set_option maxRecDepth 100000 in
theorem tw_483 : (Cond.code yX5_post cX5_post 2 (some .int) : Cond) ∈ lw_tbl := List.mem_append_right _ (List.mem_append_right _ (List.mem_append_right _ (List.mem_append_left _ (List.mem_of_getElem? (l := tables_1_3) (i := 161) rfl))))
set_option maxRecDepth 100000 in
theorem tw_484 : (Cond.code yX5_addPost cX5_addPost 2 none : Cond) ∈ lw_tbl := List.mem_append_right _ (List.mem_append_right _ (List.mem_append_right _ (List.mem_append_left _ (List.mem_of_getElem? (l := tables_1_3) (i := 169) rfl))))
set_option maxRecDepth 100000 in
theorem tw_485 : (Cond.selects RX5 yX5_addPost yX5_addPost : Cond) ∈ lw_tbl := List.mem_append_left _ (List.mem_of_getElem? (l := k2_sels lw_privs) (i := 24) rfl)
set_option maxRecDepth 100000 in
theorem tw_486 : (Cond.instanceMethod yX5_addPost : Cond) ∈ lw_tbl := List.mem_append_right _ (List.mem_append_right _ (List.mem_append_right _ (List.mem_append_left _ (List.mem_of_getElem? (l := tables_1_3) (i := 168) rfl))))
set_option maxRecDepth 100000 in
theorem tw_487 : (Cond.methodLink RX5 100 yX5_addPost : Cond) ∈ lw_tbl := List.mem_append_right _ (List.mem_append_right _ (List.mem_append_right _ (List.mem_append_left _ (List.mem_of_getElem? (l := tables_1_3) (i := 166) rfl))))
set_option maxRecDepth 100000 in
theorem tw_488 : (Cond.code yX5_in cX5_in 6 (some .boolean) : Cond) ∈ lw_tbl := List.mem_append_right _ (List.mem_append_right _ (List.mem_append_right _ (List.mem_append_left _ (List.mem_of_getElem? (l := tables_1_3) (i := 165) rfl))))
set_option maxRecDepth 100000 in
theorem tw_489 : (Cond.static yX5_in : Cond) ∈ lw_tbl := List.mem_append_right _ (List.mem_append_right _ (List.mem_append_right _ (List.mem_append_left _ (List.mem_of_getElem? (l := tables_1_3) (i := 164) rfl))))
set_option maxRecDepth 100000 in
theorem tw_490 : (Cond.methodLink RX5 77 yX5_in : Cond) ∈ lw_tbl := List.mem_append_right _ (List.mem_append_right _ (List.mem_append_right _ (List.mem_append_left _ (List.mem_of_getElem? (l := tables_1_3) (i := 163) rfl))))
set_option maxRecDepth 100000 in
theorem tw_491 : (Cond.constantLong RX5 98 (9) : Cond) ∈ lw_tbl := List.mem_append_right _ (List.mem_append_right _ (List.mem_append_right _ (List.mem_append_left _ (List.mem_of_getElem? (l := tables_1_3) (i := 162) rfl))))
set_option maxRecDepth 100000 in
theorem tw_492 : (Cond.selects RX5 yX5_post yX5_post : Cond) ∈ lw_tbl := List.mem_append_right _ (List.mem_append_right _ (List.mem_append_right _ (List.mem_append_left _ (List.mem_of_getElem? (l := tables_1_3) (i := 160) rfl))))
set_option maxRecDepth 100000 in
theorem tw_493 : (Cond.instanceMethod yX5_post : Cond) ∈ lw_tbl := List.mem_append_right _ (List.mem_append_right _ (List.mem_append_right _ (List.mem_append_left _ (List.mem_of_getElem? (l := tables_1_3) (i := 159) rfl))))
set_option maxRecDepth 100000 in
theorem tw_494 : (Cond.methodLink RL 22 yX5_post : Cond) ∈ lw_tbl := List.mem_append_right _ (List.mem_append_right _ (List.mem_append_right _ (List.mem_append_left _ (List.mem_of_getElem? (l := tables_1_3) (i := 158) rfl))))
set_option maxRecDepth 100000 in
theorem tw_495 : (Cond.code yX5_mark cX5_mark 4 (some .int) : Cond) ∈ lw_tbl := List.mem_append_right _ (List.mem_append_right _ (List.mem_append_right _ (List.mem_append_left _ (List.mem_of_getElem? (l := tables_1_3) (i := 173) rfl))))
set_option maxRecDepth 100000 in
theorem tw_496 : (Cond.code yX5_noPost cX5_noPost 2 (some .boolean) : Cond) ∈ lw_tbl := List.mem_append_right _ (List.mem_append_right _ (List.mem_append_right _ (List.mem_append_left _ (List.mem_of_getElem? (l := tables_1_3) (i := 177) rfl))))
set_option maxRecDepth 100000 in
theorem tw_497 : (Cond.selects RX5 yX5_noPost yX5_noPost : Cond) ∈ lw_tbl := List.mem_append_left _ (List.mem_of_getElem? (l := k2_sels lw_privs) (i := 25) rfl)
set_option maxRecDepth 100000 in
theorem tw_498 : (Cond.instanceMethod yX5_noPost : Cond) ∈ lw_tbl := List.mem_append_right _ (List.mem_append_right _ (List.mem_append_right _ (List.mem_append_left _ (List.mem_of_getElem? (l := tables_1_3) (i := 176) rfl))))
set_option maxRecDepth 100000 in
theorem tw_499 : (Cond.methodLink RX5 81 yX5_noPost : Cond) ∈ lw_tbl := List.mem_append_right _ (List.mem_append_right _ (List.mem_append_right _ (List.mem_append_left _ (List.mem_of_getElem? (l := tables_1_3) (i := 174) rfl))))
set_option maxRecDepth 100000 in
theorem tw_500 : (Cond.selects RX5 yX5_mark yX5_mark : Cond) ∈ lw_tbl := List.mem_append_right _ (List.mem_append_right _ (List.mem_append_right _ (List.mem_append_left _ (List.mem_of_getElem? (l := tables_1_3) (i := 172) rfl))))
set_option maxRecDepth 100000 in
theorem tw_501 : (Cond.instanceMethod yX5_mark : Cond) ∈ lw_tbl := List.mem_append_right _ (List.mem_append_right _ (List.mem_append_right _ (List.mem_append_left _ (List.mem_of_getElem? (l := tables_1_3) (i := 171) rfl))))
set_option maxRecDepth 100000 in
theorem tw_502 : (Cond.methodLink RL 27 yX5_mark : Cond) ∈ lw_tbl := List.mem_append_right _ (List.mem_append_right _ (List.mem_append_right _ (List.mem_append_left _ (List.mem_of_getElem? (l := tables_1_3) (i := 170) rfl))))
set_option maxRecDepth 100000 in
theorem tw_503 : (Cond.code yX5_line cX5_line 4 (some .int) : Cond) ∈ lw_tbl := List.mem_append_right _ (List.mem_append_right _ (List.mem_append_right _ (List.mem_append_left _ (List.mem_of_getElem? (l := tables_1_3) (i := 181) rfl))))
set_option maxRecDepth 100000 in
theorem tw_504 : (Cond.code yX5_link cX5_link 5 none : Cond) ∈ lw_tbl := List.mem_append_right _ (List.mem_append_right _ (List.mem_append_right _ (List.mem_append_left _ (List.mem_of_getElem? (l := tables_1_3) (i := 193) rfl))))
set_option maxRecDepth 100000 in
theorem tw_505 : (Cond.selects RX5 yX5_link yX5_link : Cond) ∈ lw_tbl := List.mem_append_left _ (List.mem_of_getElem? (l := k2_sels lw_privs) (i := 28) rfl)
set_option maxRecDepth 100000 in
theorem tw_506 : (Cond.instanceMethod yX5_link : Cond) ∈ lw_tbl := List.mem_append_right _ (List.mem_append_right _ (List.mem_append_right _ (List.mem_append_left _ (List.mem_of_getElem? (l := tables_1_3) (i := 192) rfl))))
set_option maxRecDepth 100000 in
theorem tw_507 : (Cond.methodLink RX5 104 yX5_link : Cond) ∈ lw_tbl := List.mem_append_right _ (List.mem_append_right _ (List.mem_append_right _ (List.mem_append_left _ (List.mem_of_getElem? (l := tables_1_3) (i := 190) rfl))))
set_option maxRecDepth 100000 in
theorem tw_508 : (Cond.code yX5_addLine cX5_addLine 3 none : Cond) ∈ lw_tbl := List.mem_append_right _ (List.mem_append_right _ (List.mem_append_right _ (List.mem_append_left _ (List.mem_of_getElem? (l := tables_1_3) (i := 189) rfl))))
set_option maxRecDepth 100000 in
theorem tw_509 : (Cond.selects RX5 yX5_addLine yX5_addLine : Cond) ∈ lw_tbl := List.mem_append_left _ (List.mem_of_getElem? (l := k2_sels lw_privs) (i := 27) rfl)
set_option maxRecDepth 100000 in
theorem tw_510 : (Cond.instanceMethod yX5_addLine : Cond) ∈ lw_tbl := List.mem_append_right _ (List.mem_append_right _ (List.mem_append_right _ (List.mem_append_left _ (List.mem_of_getElem? (l := tables_1_3) (i := 188) rfl))))
set_option maxRecDepth 100000 in
theorem tw_511 : (Cond.methodLink RX5 112 yX5_addLine : Cond) ∈ lw_tbl := List.mem_append_right _ (List.mem_append_right _ (List.mem_append_right _ (List.mem_append_left _ (List.mem_of_getElem? (l := tables_1_3) (i := 186) rfl))))
set_option maxRecDepth 100000 in
theorem tw_512 : (Cond.code yX5_refusalOf cX5_refusalOf 3 (some .int) : Cond) ∈ lw_tbl := List.mem_append_right _ (List.mem_append_right _ (List.mem_append_right _ (List.mem_append_left _ (List.mem_of_getElem? (l := tables_1_3) (i := 185) rfl))))
set_option maxRecDepth 100000 in
theorem tw_513 : (Cond.selects RX5 yX5_refusalOf yX5_refusalOf : Cond) ∈ lw_tbl := List.mem_append_left _ (List.mem_of_getElem? (l := k2_sels lw_privs) (i := 26) rfl)
set_option maxRecDepth 100000 in
theorem tw_514 : (Cond.instanceMethod yX5_refusalOf : Cond) ∈ lw_tbl := List.mem_append_right _ (List.mem_append_right _ (List.mem_append_right _ (List.mem_append_left _ (List.mem_of_getElem? (l := tables_1_3) (i := 184) rfl))))
set_option maxRecDepth 100000 in
theorem tw_515 : (Cond.methodLink RX5 108 yX5_refusalOf : Cond) ∈ lw_tbl := List.mem_append_right _ (List.mem_append_right _ (List.mem_append_right _ (List.mem_append_left _ (List.mem_of_getElem? (l := tables_1_3) (i := 182) rfl))))
set_option maxRecDepth 100000 in
theorem tw_516 : (Cond.selects RX5 yX5_line yX5_line : Cond) ∈ lw_tbl := List.mem_append_right _ (List.mem_append_right _ (List.mem_append_right _ (List.mem_append_left _ (List.mem_of_getElem? (l := tables_1_3) (i := 180) rfl))))
set_option maxRecDepth 100000 in
theorem tw_517 : (Cond.instanceMethod yX5_line : Cond) ∈ lw_tbl := List.mem_append_right _ (List.mem_append_right _ (List.mem_append_right _ (List.mem_append_left _ (List.mem_of_getElem? (l := tables_1_3) (i := 179) rfl))))
set_option maxRecDepth 100000 in
theorem tw_518 : (Cond.methodLink RL 31 yX5_line : Cond) ∈ lw_tbl := List.mem_append_right _ (List.mem_append_right _ (List.mem_append_right _ (List.mem_append_left _ (List.mem_of_getElem? (l := tables_1_3) (i := 178) rfl))))
set_option maxRecDepth 100000 in
theorem tw_519 : (Cond.code yX5_lines cX5_lines 5 (some .int) : Cond) ∈ lw_tbl := List.mem_append_right _ (List.mem_append_right _ (List.mem_append_right _ (List.mem_append_right _ (List.mem_of_getElem? (l := tables_1_4) (i := 118) rfl))))
set_option maxRecDepth 100000 in
theorem tw_520 : (Cond.methodLink RX5 209 yX5_addLines : Cond) ∈ lw_tbl := List.mem_append_right _ (List.mem_append_right _ (List.mem_append_right _ (List.mem_append_right _ (List.mem_of_getElem? (l := tables_1_4) (i := 119) rfl))))
set_option maxRecDepth 100000 in
theorem tw_521 : (Cond.code yX5_isBeyond cX5_isBeyond 4 (some .boolean) : Cond) ∈ lw_tbl := List.mem_append_right _ (List.mem_append_right _ (List.mem_append_right _ (List.mem_append_right _ (List.mem_of_getElem? (l := tables_1_4) (i := 114) rfl))))
set_option maxRecDepth 100000 in
theorem tw_522 : (Cond.static yX5_isBeyond : Cond) ∈ lw_tbl := List.mem_append_right _ (List.mem_append_right _ (List.mem_append_right _ (List.mem_append_right _ (List.mem_of_getElem? (l := tables_1_4) (i := 113) rfl))))
set_option maxRecDepth 100000 in
theorem tw_523 : (Cond.methodLink RX5 205 yX5_isBeyond : Cond) ∈ lw_tbl := List.mem_append_right _ (List.mem_append_right _ (List.mem_append_right _ (List.mem_append_right _ (List.mem_of_getElem? (l := tables_1_4) (i := 112) rfl))))
set_option maxRecDepth 100000 in
theorem tw_524 : (Cond.code yX5_failed cX5_failed 2 (some .int) : Cond) ∈ lw_tbl := List.mem_append_right _ (List.mem_append_right _ (List.mem_append_right _ (List.mem_append_right _ (List.mem_of_getElem? (l := tables_1_4) (i := 87) rfl))))
set_option maxRecDepth 100000 in
theorem tw_525 : (Cond.selects RX5 yX5_failed yX5_failed : Cond) ∈ lw_tbl := List.mem_append_left _ (List.mem_of_getElem? (l := k2_sels lw_privs) (i := 41) rfl)
set_option maxRecDepth 100000 in
theorem tw_526 : (Cond.instanceMethod yX5_failed : Cond) ∈ lw_tbl := List.mem_append_right _ (List.mem_append_right _ (List.mem_append_right _ (List.mem_append_right _ (List.mem_of_getElem? (l := tables_1_4) (i := 86) rfl))))
set_option maxRecDepth 100000 in
theorem tw_527 : (Cond.methodLink RX5 195 yX5_failed : Cond) ∈ lw_tbl := List.mem_append_right _ (List.mem_append_right _ (List.mem_append_right _ (List.mem_append_right _ (List.mem_of_getElem? (l := tables_1_4) (i := 84) rfl))))
set_option maxRecDepth 100000 in
theorem tw_528 : (Cond.fieldLink RX5 66 "AlikePostsModel" "fault" "I" : Cond) ∈ lw_tbl := List.mem_append_right _ (List.mem_append_right _ (List.mem_append_right _ (List.mem_append_left _ (List.mem_of_getElem? (l := tables_1_3) (i := 68) rfl))))
set_option maxRecDepth 100000 in
theorem tw_529 : (Cond.code yX5_refused cX5_refused 2 (some .int) : Cond) ∈ lw_tbl := List.mem_append_right _ (List.mem_append_right _ (List.mem_append_right _ (List.mem_append_right _ (List.mem_of_getElem? (l := tables_1_4) (i := 83) rfl))))
set_option maxRecDepth 100000 in
theorem tw_530 : (Cond.selects RX5 yX5_refused yX5_refused : Cond) ∈ lw_tbl := List.mem_append_left _ (List.mem_of_getElem? (l := k2_sels lw_privs) (i := 40) rfl)
set_option maxRecDepth 100000 in
theorem tw_531 : (Cond.instanceMethod yX5_refused : Cond) ∈ lw_tbl := List.mem_append_right _ (List.mem_append_right _ (List.mem_append_right _ (List.mem_append_right _ (List.mem_of_getElem? (l := tables_1_4) (i := 82) rfl))))
set_option maxRecDepth 100000 in
theorem tw_532 : (Cond.methodLink RX5 192 yX5_refused : Cond) ∈ lw_tbl := List.mem_append_right _ (List.mem_append_right _ (List.mem_append_right _ (List.mem_append_right _ (List.mem_of_getElem? (l := tables_1_4) (i := 80) rfl))))
set_option maxRecDepth 100000 in
theorem tw_533 : (Cond.constantLong RX5 187 (3) : Cond) ∈ lw_tbl := List.mem_append_right _ (List.mem_append_right _ (List.mem_append_right _ (List.mem_append_right _ (List.mem_of_getElem? (l := tables_1_4) (i := 79) rfl))))
set_option maxRecDepth 100000 in
theorem tw_534 : (Cond.code yX5_noSheet cX5_noSheet 1 (some .boolean) : Cond) ∈ lw_tbl := List.mem_append_right _ (List.mem_append_right _ (List.mem_append_right _ (List.mem_append_right _ (List.mem_of_getElem? (l := tables_1_4) (i := 78) rfl))))
set_option maxRecDepth 100000 in
theorem tw_535 : (Cond.static yX5_noSheet : Cond) ∈ lw_tbl := List.mem_append_right _ (List.mem_append_right _ (List.mem_append_right _ (List.mem_append_right _ (List.mem_of_getElem? (l := tables_1_4) (i := 77) rfl))))
set_option maxRecDepth 100000 in
theorem tw_536 : (Cond.methodLink RX5 189 yX5_noSheet : Cond) ∈ lw_tbl := List.mem_append_right _ (List.mem_append_right _ (List.mem_append_right _ (List.mem_append_right _ (List.mem_of_getElem? (l := tables_1_4) (i := 76) rfl))))
set_option maxRecDepth 100000 in
theorem tw_537 : (Cond.constantLong RX5 181 (2) : Cond) ∈ lw_tbl := List.mem_append_right _ (List.mem_append_right _ (List.mem_append_right _ (List.mem_append_right _ (List.mem_of_getElem? (l := tables_1_4) (i := 64) rfl))))
set_option maxRecDepth 100000 in
theorem tw_538 : (Cond.code yX5_addLines cX5_addLines 9 (some .int) : Cond) ∈ lw_tbl := List.mem_append_right _ (List.mem_append_right _ (List.mem_append_right _ (List.mem_append_right _ (List.mem_of_getElem? (l := tables_1_4) (i := 122) rfl))))
set_option maxRecDepth 100000 in
theorem tw_539 : (Cond.selects RX5 yX5_addLines yX5_addLines : Cond) ∈ lw_tbl := List.mem_append_left _ (List.mem_of_getElem? (l := k2_sels lw_privs) (i := 44) rfl)
set_option maxRecDepth 100000 in
theorem tw_540 : (Cond.instanceMethod yX5_addLines : Cond) ∈ lw_tbl := List.mem_append_right _ (List.mem_append_right _ (List.mem_append_right _ (List.mem_append_right _ (List.mem_of_getElem? (l := tables_1_4) (i := 121) rfl))))
set_option maxRecDepth 100000 in
theorem tw_541 : (Cond.selects RX5 yX5_lines yX5_lines : Cond) ∈ lw_tbl := List.mem_append_right _ (List.mem_append_right _ (List.mem_append_right _ (List.mem_append_right _ (List.mem_of_getElem? (l := tables_1_4) (i := 117) rfl))))
set_option maxRecDepth 100000 in
theorem tw_542 : (Cond.instanceMethod yX5_lines : Cond) ∈ lw_tbl := List.mem_append_right _ (List.mem_append_right _ (List.mem_append_right _ (List.mem_append_right _ (List.mem_of_getElem? (l := tables_1_4) (i := 116) rfl))))
set_option maxRecDepth 100000 in
theorem tw_543 : (Cond.methodLink RL 36 yX5_lines : Cond) ∈ lw_tbl := List.mem_append_right _ (List.mem_append_right _ (List.mem_append_right _ (List.mem_append_right _ (List.mem_of_getElem? (l := tables_1_4) (i := 115) rfl))))
set_option maxRecDepth 100000 in
theorem tw_544 : (Cond.code yX5_swap cX5_swap 8 (some .int) : Cond) ∈ lw_tbl := List.mem_append_right _ (List.mem_append_right _ (List.mem_append_right _ (List.mem_append_left _ (List.mem_of_getElem? (l := tables_1_3) (i := 197) rfl))))
set_option maxRecDepth 100000 in
theorem tw_545 : (Cond.code yX5_noPort cX5_noPort 3 (some .boolean) : Cond) ∈ lw_tbl := List.mem_append_right _ (List.mem_append_right _ (List.mem_append_right _ (List.mem_append_left _ (List.mem_of_getElem? (l := tables_1_3) (i := 201) rfl))))
set_option maxRecDepth 100000 in
theorem tw_546 : (Cond.selects RX5 yX5_noPort yX5_noPort : Cond) ∈ lw_tbl := List.mem_append_left _ (List.mem_of_getElem? (l := k2_sels lw_privs) (i := 29) rfl)
set_option maxRecDepth 100000 in
theorem tw_547 : (Cond.instanceMethod yX5_noPort : Cond) ∈ lw_tbl := List.mem_append_right _ (List.mem_append_right _ (List.mem_append_right _ (List.mem_append_left _ (List.mem_of_getElem? (l := tables_1_3) (i := 200) rfl))))
set_option maxRecDepth 100000 in
theorem tw_548 : (Cond.methodLink RX5 116 yX5_noPort : Cond) ∈ lw_tbl := List.mem_append_right _ (List.mem_append_right _ (List.mem_append_right _ (List.mem_append_left _ (List.mem_of_getElem? (l := tables_1_3) (i := 198) rfl))))
set_option maxRecDepth 100000 in
theorem tw_549 : (Cond.selects RX5 yX5_swap yX5_swap : Cond) ∈ lw_tbl := List.mem_append_right _ (List.mem_append_right _ (List.mem_append_right _ (List.mem_append_left _ (List.mem_of_getElem? (l := tables_1_3) (i := 196) rfl))))
set_option maxRecDepth 100000 in
theorem tw_550 : (Cond.instanceMethod yX5_swap : Cond) ∈ lw_tbl := List.mem_append_right _ (List.mem_append_right _ (List.mem_append_right _ (List.mem_append_left _ (List.mem_of_getElem? (l := tables_1_3) (i := 195) rfl))))
set_option maxRecDepth 100000 in
theorem tw_551 : (Cond.methodLink RL 41 yX5_swap : Cond) ∈ lw_tbl := List.mem_append_right _ (List.mem_append_right _ (List.mem_append_right _ (List.mem_append_left _ (List.mem_of_getElem? (l := tables_1_3) (i := 194) rfl))))
set_option maxRecDepth 100000 in
theorem tw_552 : (Cond.code yX5_end cX5_end 4 (some .int) : Cond) ∈ lw_tbl := List.mem_append_right _ (List.mem_append_right _ (List.mem_append_right _ (List.mem_append_left _ (List.mem_of_getElem? (l := tables_1_3) (i := 205) rfl))))
set_option maxRecDepth 100000 in
theorem tw_553 : (Cond.selects RX5 yX5_end yX5_end : Cond) ∈ lw_tbl := List.mem_append_right _ (List.mem_append_right _ (List.mem_append_right _ (List.mem_append_left _ (List.mem_of_getElem? (l := tables_1_3) (i := 204) rfl))))
set_option maxRecDepth 100000 in
theorem tw_554 : (Cond.instanceMethod yX5_end : Cond) ∈ lw_tbl := List.mem_append_right _ (List.mem_append_right _ (List.mem_append_right _ (List.mem_append_left _ (List.mem_of_getElem? (l := tables_1_3) (i := 203) rfl))))
set_option maxRecDepth 100000 in
theorem tw_555 : (Cond.methodLink RL 45 yX5_end : Cond) ∈ lw_tbl := List.mem_append_right _ (List.mem_append_right _ (List.mem_append_right _ (List.mem_append_left _ (List.mem_of_getElem? (l := tables_1_3) (i := 202) rfl))))
set_option maxRecDepth 100000 in
theorem tw_556 : (Cond.code yX5_doubled cX5_doubled 6 (some .int) : Cond) ∈ lw_tbl := List.mem_append_right _ (List.mem_append_right _ (List.mem_append_right _ (List.mem_append_left _ (List.mem_of_getElem? (l := tables_1_3) (i := 209) rfl))))
set_option maxRecDepth 100000 in
theorem tw_557 : (Cond.selects RX5 yX5_doubled yX5_doubled : Cond) ∈ lw_tbl := List.mem_append_right _ (List.mem_append_right _ (List.mem_append_right _ (List.mem_append_left _ (List.mem_of_getElem? (l := tables_1_3) (i := 208) rfl))))
set_option maxRecDepth 100000 in
theorem tw_558 : (Cond.instanceMethod yX5_doubled : Cond) ∈ lw_tbl := List.mem_append_right _ (List.mem_append_right _ (List.mem_append_right _ (List.mem_append_left _ (List.mem_of_getElem? (l := tables_1_3) (i := 207) rfl))))
set_option maxRecDepth 100000 in
theorem tw_559 : (Cond.methodLink RL 49 yX5_doubled : Cond) ∈ lw_tbl := List.mem_append_right _ (List.mem_append_right _ (List.mem_append_right _ (List.mem_append_left _ (List.mem_of_getElem? (l := tables_1_3) (i := 206) rfl))))
set_option maxRecDepth 100000 in
theorem tw_560 : (Cond.code yX5_about cX5_about 3 (some .int) : Cond) ∈ lw_tbl := List.mem_append_right _ (List.mem_append_right _ (List.mem_append_right _ (List.mem_append_right _ (List.mem_of_getElem? (l := tables_1_4) (i := 22) rfl))))
set_option maxRecDepth 100000 in
theorem tw_561 : (Cond.code yX5_rankAt cX5_rankAt 4 none : Cond) ∈ lw_tbl := List.mem_append_right _ (List.mem_append_right _ (List.mem_append_right _ (List.mem_append_left _ (List.mem_of_getElem? (l := tables_1_3) (i := 230) rfl))))
set_option maxRecDepth 100000 in
theorem tw_562 : (Cond.selects RX5 yX5_rankAt yX5_rankAt : Cond) ∈ lw_tbl := List.mem_append_left _ (List.mem_of_getElem? (l := k2_sels lw_privs) (i := 32) rfl)
set_option maxRecDepth 100000 in
theorem tw_563 : (Cond.instanceMethod yX5_rankAt : Cond) ∈ lw_tbl := List.mem_append_right _ (List.mem_append_right _ (List.mem_append_right _ (List.mem_append_left _ (List.mem_of_getElem? (l := tables_1_3) (i := 229) rfl))))
set_option maxRecDepth 100000 in
theorem tw_564 : (Cond.methodLink RX5 134 yX5_rankAt : Cond) ∈ lw_tbl := List.mem_append_right _ (List.mem_append_right _ (List.mem_append_right _ (List.mem_append_left _ (List.mem_of_getElem? (l := tables_1_3) (i := 227) rfl))))
set_option maxRecDepth 100000 in
theorem tw_565 : (Cond.fieldLink RX5 131 "AlikePostsModel" "restAt" "I" : Cond) ∈ lw_tbl := List.mem_append_right _ (List.mem_append_right _ (List.mem_append_right _ (List.mem_append_left _ (List.mem_of_getElem? (l := tables_1_3) (i := 80) rfl))))
set_option maxRecDepth 100000 in
theorem tw_566 : (Cond.code yX5_rankAll cX5_rankAll 4 none : Cond) ∈ lw_tbl := List.mem_append_right _ (List.mem_append_right _ (List.mem_append_right _ (List.mem_append_left _ (List.mem_of_getElem? (l := tables_1_3) (i := 226) rfl))))
set_option maxRecDepth 100000 in
theorem tw_567 : (Cond.selects RX5 yX5_rankAll yX5_rankAll : Cond) ∈ lw_tbl := List.mem_append_left _ (List.mem_of_getElem? (l := k2_sels lw_privs) (i := 31) rfl)
set_option maxRecDepth 100000 in
theorem tw_568 : (Cond.instanceMethod yX5_rankAll : Cond) ∈ lw_tbl := List.mem_append_right _ (List.mem_append_right _ (List.mem_append_right _ (List.mem_append_left _ (List.mem_of_getElem? (l := tables_1_3) (i := 225) rfl))))
set_option maxRecDepth 100000 in
theorem tw_569 : (Cond.methodLink RX5 139 yX5_rankAll : Cond) ∈ lw_tbl := List.mem_append_right _ (List.mem_append_right _ (List.mem_append_right _ (List.mem_append_left _ (List.mem_of_getElem? (l := tables_1_3) (i := 223) rfl))))
set_option maxRecDepth 100000 in
theorem tw_570 : (Cond.code yX5_reach cX5_reach 6 (some .int) : Cond) ∈ lw_tbl := List.mem_append_right _ (List.mem_append_right _ (List.mem_append_right _ (List.mem_append_left _ (List.mem_of_getElem? (l := tables_1_3) (i := 217) rfl))))
set_option maxRecDepth 100000 in
theorem tw_571 : (Cond.selects RX5 yX5_reach yX5_reach : Cond) ∈ lw_tbl := List.mem_append_left _ (List.mem_of_getElem? (l := k2_sels lw_privs) (i := 30) rfl)
set_option maxRecDepth 100000 in
theorem tw_572 : (Cond.instanceMethod yX5_reach : Cond) ∈ lw_tbl := List.mem_append_right _ (List.mem_append_right _ (List.mem_append_right _ (List.mem_append_left _ (List.mem_of_getElem? (l := tables_1_3) (i := 216) rfl))))
set_option maxRecDepth 100000 in
theorem tw_573 : (Cond.methodLink RX5 120 yX5_reach : Cond) ∈ lw_tbl := List.mem_append_right _ (List.mem_append_right _ (List.mem_append_right _ (List.mem_append_left _ (List.mem_of_getElem? (l := tables_1_3) (i := 214) rfl))))
set_option maxRecDepth 100000 in
theorem tw_574 : (Cond.code yX5_kindred cX5_kindred 4 (some .int) : Cond) ∈ lw_tbl := List.mem_append_right _ (List.mem_append_right _ (List.mem_append_right _ (List.mem_append_right _ (List.mem_of_getElem? (l := tables_1_4) (i := 26) rfl))))
set_option maxRecDepth 100000 in
theorem tw_575 : (Cond.selects RX5 yX5_kindred yX5_kindred : Cond) ∈ lw_tbl := List.mem_append_left _ (List.mem_of_getElem? (l := k2_sels lw_privs) (i := 35) rfl)
set_option maxRecDepth 100000 in
theorem tw_576 : (Cond.instanceMethod yX5_kindred : Cond) ∈ lw_tbl := List.mem_append_right _ (List.mem_append_right _ (List.mem_append_right _ (List.mem_append_right _ (List.mem_of_getElem? (l := tables_1_4) (i := 25) rfl))))
set_option maxRecDepth 100000 in
theorem tw_577 : (Cond.methodLink RX5 149 yX5_kindred : Cond) ∈ lw_tbl := List.mem_append_right _ (List.mem_append_right _ (List.mem_append_right _ (List.mem_append_right _ (List.mem_of_getElem? (l := tables_1_4) (i := 23) rfl))))
set_option maxRecDepth 100000 in
theorem tw_578 : (Cond.code yX5_restRank cX5_restRank 2 (some .int) : Cond) ∈ lw_tbl := List.mem_append_right _ (List.mem_append_right _ (List.mem_append_right _ (List.mem_append_right _ (List.mem_of_getElem? (l := tables_1_4) (i := 18) rfl))))
set_option maxRecDepth 100000 in
theorem tw_579 : (Cond.selects RX5 yX5_restRank yX5_restRank : Cond) ∈ lw_tbl := List.mem_append_left _ (List.mem_of_getElem? (l := k2_sels lw_privs) (i := 34) rfl)
set_option maxRecDepth 100000 in
theorem tw_580 : (Cond.instanceMethod yX5_restRank : Cond) ∈ lw_tbl := List.mem_append_right _ (List.mem_append_right _ (List.mem_append_right _ (List.mem_append_right _ (List.mem_of_getElem? (l := tables_1_4) (i := 17) rfl))))
set_option maxRecDepth 100000 in
theorem tw_581 : (Cond.methodLink RX5 145 yX5_restRank : Cond) ∈ lw_tbl := List.mem_append_right _ (List.mem_append_right _ (List.mem_append_right _ (List.mem_append_right _ (List.mem_of_getElem? (l := tables_1_4) (i := 15) rfl))))
set_option maxRecDepth 100000 in
theorem tw_582 : (Cond.code yX5_compareTwo cX5_compareTwo 2 (some .int) : Cond) ∈ lw_tbl := List.mem_append_right _ (List.mem_append_right _ (List.mem_append_right _ (List.mem_append_left _ (List.mem_of_getElem? (l := tables_1_3) (i := 237) rfl))))
set_option maxRecDepth 100000 in
theorem tw_583 : (Cond.static yX5_compareTwo : Cond) ∈ lw_tbl := List.mem_append_right _ (List.mem_append_right _ (List.mem_append_right _ (List.mem_append_left _ (List.mem_of_getElem? (l := tables_1_3) (i := 236) rfl))))
set_option maxRecDepth 100000 in
theorem tw_584 : (Cond.methodLink RX5 124 yX5_compareTwo : Cond) ∈ lw_tbl := List.mem_append_right _ (List.mem_append_right _ (List.mem_append_right _ (List.mem_append_left _ (List.mem_of_getElem? (l := tables_1_3) (i := 235) rfl))))
set_option maxRecDepth 100000 in
theorem tw_585 : (Cond.code yX5_compare cX5_compare 7 (some .int) : Cond) ∈ lw_tbl := List.mem_append_right _ (List.mem_append_right _ (List.mem_append_right _ (List.mem_append_left _ (List.mem_of_getElem? (l := tables_1_3) (i := 234) rfl))))
set_option maxRecDepth 100000 in
theorem tw_586 : (Cond.selects RX5 yX5_compare yX5_compare : Cond) ∈ lw_tbl := List.mem_append_left _ (List.mem_of_getElem? (l := k2_sels lw_privs) (i := 33) rfl)
set_option maxRecDepth 100000 in
theorem tw_587 : (Cond.instanceMethod yX5_compare : Cond) ∈ lw_tbl := List.mem_append_right _ (List.mem_append_right _ (List.mem_append_right _ (List.mem_append_left _ (List.mem_of_getElem? (l := tables_1_3) (i := 233) rfl))))
set_option maxRecDepth 100000 in
theorem tw_588 : (Cond.methodLink RX5 127 yX5_compare : Cond) ∈ lw_tbl := List.mem_append_right _ (List.mem_append_right _ (List.mem_append_right _ (List.mem_append_left _ (List.mem_of_getElem? (l := tables_1_3) (i := 231) rfl))))
set_option maxRecDepth 100000 in
theorem tw_589 : (Cond.selects RX5 yX5_about yX5_about : Cond) ∈ lw_tbl := List.mem_append_right _ (List.mem_append_right _ (List.mem_append_right _ (List.mem_append_right _ (List.mem_of_getElem? (l := tables_1_4) (i := 21) rfl))))
set_option maxRecDepth 100000 in
theorem tw_590 : (Cond.instanceMethod yX5_about : Cond) ∈ lw_tbl := List.mem_append_right _ (List.mem_append_right _ (List.mem_append_right _ (List.mem_append_right _ (List.mem_of_getElem? (l := tables_1_4) (i := 20) rfl))))
set_option maxRecDepth 100000 in
theorem tw_591 : (Cond.methodLink RL 53 yX5_about : Cond) ∈ lw_tbl := List.mem_append_right _ (List.mem_append_right _ (List.mem_append_right _ (List.mem_append_right _ (List.mem_of_getElem? (l := tables_1_4) (i := 19) rfl))))
set_option maxRecDepth 100000 in
theorem tw_592 : (Cond.code yX5_together cX5_together 1 (some .int) : Cond) ∈ lw_tbl := List.mem_append_right _ (List.mem_append_right _ (List.mem_append_right _ (List.mem_append_left _ (List.mem_of_getElem? (l := tables_1_3) (i := 213) rfl))))
set_option maxRecDepth 100000 in
theorem tw_593 : (Cond.selects RX5 yX5_together yX5_together : Cond) ∈ lw_tbl := List.mem_append_right _ (List.mem_append_right _ (List.mem_append_right _ (List.mem_append_left _ (List.mem_of_getElem? (l := tables_1_3) (i := 212) rfl))))
set_option maxRecDepth 100000 in
theorem tw_594 : (Cond.instanceMethod yX5_together : Cond) ∈ lw_tbl := List.mem_append_right _ (List.mem_append_right _ (List.mem_append_right _ (List.mem_append_left _ (List.mem_of_getElem? (l := tables_1_3) (i := 211) rfl))))
set_option maxRecDepth 100000 in
theorem tw_595 : (Cond.methodLink RL 57 yX5_together : Cond) ∈ lw_tbl := List.mem_append_right _ (List.mem_append_right _ (List.mem_append_right _ (List.mem_append_left _ (List.mem_of_getElem? (l := tables_1_3) (i := 210) rfl))))
set_option maxRecDepth 100000 in
theorem tw_596 : (Cond.code yX5_rank cX5_rank 3 (some .int) : Cond) ∈ lw_tbl := List.mem_append_right _ (List.mem_append_right _ (List.mem_append_right _ (List.mem_append_left _ (List.mem_of_getElem? (l := tables_1_3) (i := 221) rfl))))
set_option maxRecDepth 100000 in
theorem tw_597 : (Cond.constantLong RX5 137 (20) : Cond) ∈ lw_tbl := List.mem_append_right _ (List.mem_append_right _ (List.mem_append_right _ (List.mem_append_left _ (List.mem_of_getElem? (l := tables_1_3) (i := 222) rfl))))
set_option maxRecDepth 100000 in
theorem tw_598 : (Cond.selects RX5 yX5_rank yX5_rank : Cond) ∈ lw_tbl := List.mem_append_right _ (List.mem_append_right _ (List.mem_append_right _ (List.mem_append_left _ (List.mem_of_getElem? (l := tables_1_3) (i := 220) rfl))))
set_option maxRecDepth 100000 in
theorem tw_599 : (Cond.instanceMethod yX5_rank : Cond) ∈ lw_tbl := List.mem_append_right _ (List.mem_append_right _ (List.mem_append_right _ (List.mem_append_left _ (List.mem_of_getElem? (l := tables_1_3) (i := 219) rfl))))
set_option maxRecDepth 100000 in
theorem tw_600 : (Cond.methodLink RL 61 yX5_rank : Cond) ∈ lw_tbl := List.mem_append_right _ (List.mem_append_right _ (List.mem_append_right _ (List.mem_append_left _ (List.mem_of_getElem? (l := tables_1_3) (i := 218) rfl))))
set_option maxRecDepth 100000 in
theorem tw_601 : (Cond.code yX5_rest cX5_rest 1 (some .int) : Cond) ∈ lw_tbl := List.mem_append_right _ (List.mem_append_right _ (List.mem_append_right _ (List.mem_append_right _ (List.mem_of_getElem? (l := tables_1_4) (i := 1) rfl))))
set_option maxRecDepth 100000 in
theorem tw_602 : (Cond.selects RX5 yX5_rest yX5_rest : Cond) ∈ lw_tbl := List.mem_append_right _ (List.mem_append_right _ (List.mem_append_right _ (List.mem_append_right _ (List.mem_of_getElem? (l := tables_1_4) (i := 0) rfl))))
set_option maxRecDepth 100000 in
theorem tw_603 : (Cond.instanceMethod yX5_rest : Cond) ∈ lw_tbl := List.mem_append_right _ (List.mem_append_right _ (List.mem_append_right _ (List.mem_append_left _ (List.mem_of_getElem? (l := tables_1_3) (i := 239) rfl))))
set_option maxRecDepth 100000 in
theorem tw_604 : (Cond.methodLink RL 65 yX5_rest : Cond) ∈ lw_tbl := List.mem_append_right _ (List.mem_append_right _ (List.mem_append_right _ (List.mem_append_left _ (List.mem_of_getElem? (l := tables_1_3) (i := 238) rfl))))
set_option maxRecDepth 100000 in
theorem tw_605 : (Cond.code yX5_ranks cX5_ranks 2 (some .int) : Cond) ∈ lw_tbl := List.mem_append_right _ (List.mem_append_right _ (List.mem_append_right _ (List.mem_append_right _ (List.mem_of_getElem? (l := tables_1_4) (i := 5) rfl))))
set_option maxRecDepth 100000 in
theorem tw_606 : (Cond.selects RX5 yX5_ranks yX5_ranks : Cond) ∈ lw_tbl := List.mem_append_right _ (List.mem_append_right _ (List.mem_append_right _ (List.mem_append_right _ (List.mem_of_getElem? (l := tables_1_4) (i := 4) rfl))))
set_option maxRecDepth 100000 in
theorem tw_607 : (Cond.instanceMethod yX5_ranks : Cond) ∈ lw_tbl := List.mem_append_right _ (List.mem_append_right _ (List.mem_append_right _ (List.mem_append_right _ (List.mem_of_getElem? (l := tables_1_4) (i := 3) rfl))))
set_option maxRecDepth 100000 in
theorem tw_608 : (Cond.methodLink RL 69 yX5_ranks : Cond) ∈ lw_tbl := List.mem_append_right _ (List.mem_append_right _ (List.mem_append_right _ (List.mem_append_right _ (List.mem_of_getElem? (l := tables_1_4) (i := 2) rfl))))
set_option maxRecDepth 100000 in
theorem tw_609 : (Cond.code yX5_apart cX5_apart 4 (some .int) : Cond) ∈ lw_tbl := List.mem_append_right _ (List.mem_append_right _ (List.mem_append_right _ (List.mem_append_right _ (List.mem_of_getElem? (l := tables_1_4) (i := 9) rfl))))
set_option maxRecDepth 100000 in
theorem tw_610 : (Cond.selects RX5 yX5_apart yX5_apart : Cond) ∈ lw_tbl := List.mem_append_right _ (List.mem_append_right _ (List.mem_append_right _ (List.mem_append_right _ (List.mem_of_getElem? (l := tables_1_4) (i := 8) rfl))))
set_option maxRecDepth 100000 in
theorem tw_611 : (Cond.instanceMethod yX5_apart : Cond) ∈ lw_tbl := List.mem_append_right _ (List.mem_append_right _ (List.mem_append_right _ (List.mem_append_right _ (List.mem_of_getElem? (l := tables_1_4) (i := 7) rfl))))
set_option maxRecDepth 100000 in
theorem tw_612 : (Cond.methodLink RL 73 yX5_apart : Cond) ∈ lw_tbl := List.mem_append_right _ (List.mem_append_right _ (List.mem_append_right _ (List.mem_append_right _ (List.mem_of_getElem? (l := tables_1_4) (i := 6) rfl))))
set_option maxRecDepth 100000 in
theorem tw_613 : (Cond.code yX5_chosen cX5_chosen 2 (some .int) : Cond) ∈ lw_tbl := List.mem_append_right _ (List.mem_append_right _ (List.mem_append_right _ (List.mem_append_right _ (List.mem_of_getElem? (l := tables_1_4) (i := 13) rfl))))
set_option maxRecDepth 100000 in
theorem tw_614 : (Cond.methodLink RX5 142 yX5_together : Cond) ∈ lw_tbl := List.mem_append_right _ (List.mem_append_right _ (List.mem_append_right _ (List.mem_append_right _ (List.mem_of_getElem? (l := tables_1_4) (i := 14) rfl))))
set_option maxRecDepth 100000 in
theorem tw_615 : (Cond.selects RX5 yX5_chosen yX5_chosen : Cond) ∈ lw_tbl := List.mem_append_right _ (List.mem_append_right _ (List.mem_append_right _ (List.mem_append_right _ (List.mem_of_getElem? (l := tables_1_4) (i := 12) rfl))))
set_option maxRecDepth 100000 in
theorem tw_616 : (Cond.instanceMethod yX5_chosen : Cond) ∈ lw_tbl := List.mem_append_right _ (List.mem_append_right _ (List.mem_append_right _ (List.mem_append_right _ (List.mem_of_getElem? (l := tables_1_4) (i := 11) rfl))))
set_option maxRecDepth 100000 in
theorem tw_617 : (Cond.methodLink RL 77 yX5_chosen : Cond) ∈ lw_tbl := List.mem_append_right _ (List.mem_append_right _ (List.mem_append_right _ (List.mem_append_right _ (List.mem_of_getElem? (l := tables_1_4) (i := 10) rfl))))
set_option maxRecDepth 100000 in
theorem tw_618 : (Cond.code yX5_flood cX5_flood 7 (some .int) : Cond) ∈ lw_tbl := List.mem_append_right _ (List.mem_append_right _ (List.mem_append_right _ (List.mem_append_right _ (List.mem_of_getElem? (l := tables_1_4) (i := 30) rfl))))
set_option maxRecDepth 100000 in
theorem tw_619 : (Cond.selects RX5 yX5_onWay yX5_onWay : Cond) ∈ lw_tbl := List.mem_append_left _ (List.mem_of_getElem? (l := k2_sels lw_privs) (i := 37) rfl)
set_option maxRecDepth 100000 in
theorem tw_620 : (Cond.instanceMethod yX5_onWay : Cond) ∈ lw_tbl := List.mem_append_right _ (List.mem_append_right _ (List.mem_append_right _ (List.mem_append_right _ (List.mem_of_getElem? (l := tables_1_4) (i := 37) rfl))))
set_option maxRecDepth 100000 in
theorem tw_621 : (Cond.methodLink RX5 170 yX5_onWay : Cond) ∈ lw_tbl := List.mem_append_right _ (List.mem_append_right _ (List.mem_append_right _ (List.mem_append_right _ (List.mem_of_getElem? (l := tables_1_4) (i := 35) rfl))))
set_option maxRecDepth 100000 in
theorem tw_622 : (Cond.code yX5_sendAll cX5_sendAll 4 none : Cond) ∈ lw_tbl := List.mem_append_right _ (List.mem_append_right _ (List.mem_append_right _ (List.mem_append_right _ (List.mem_of_getElem? (l := tables_1_4) (i := 34) rfl))))
set_option maxRecDepth 100000 in
theorem tw_623 : (Cond.selects RX5 yX5_sendAll yX5_sendAll : Cond) ∈ lw_tbl := List.mem_append_left _ (List.mem_of_getElem? (l := k2_sels lw_privs) (i := 36) rfl)
set_option maxRecDepth 100000 in
theorem tw_624 : (Cond.instanceMethod yX5_sendAll : Cond) ∈ lw_tbl := List.mem_append_right _ (List.mem_append_right _ (List.mem_append_right _ (List.mem_append_right _ (List.mem_of_getElem? (l := tables_1_4) (i := 33) rfl))))
set_option maxRecDepth 100000 in
theorem tw_625 : (Cond.methodLink RX5 167 yX5_sendAll : Cond) ∈ lw_tbl := List.mem_append_right _ (List.mem_append_right _ (List.mem_append_right _ (List.mem_append_right _ (List.mem_of_getElem? (l := tables_1_4) (i := 31) rfl))))
set_option maxRecDepth 100000 in
theorem tw_626 : (Cond.fieldLink RX5 164 "AlikePostsModel" "words" "I" : Cond) ∈ lw_tbl := List.mem_append_right _ (List.mem_append_right _ (List.mem_append_right _ (List.mem_append_left _ (List.mem_of_getElem? (l := tables_1_3) (i := 83) rfl))))
set_option maxRecDepth 100000 in
theorem tw_627 : (Cond.fieldLink RX5 152 "AlikePostsModel" "draw" "J" : Cond) ∈ lw_tbl := List.mem_append_right _ (List.mem_append_right _ (List.mem_append_right _ (List.mem_append_left _ (List.mem_of_getElem? (l := tables_1_3) (i := 82) rfl))))
set_option maxRecDepth 100000 in
theorem tw_628 : (Cond.code yX5_come cX5_come 4 none : Cond) ∈ lw_tbl := List.mem_append_right _ (List.mem_append_right _ (List.mem_append_right _ (List.mem_append_right _ (List.mem_of_getElem? (l := tables_1_4) (i := 50) rfl))))
set_option maxRecDepth 100000 in
theorem tw_629 : (Cond.selects RX5 yX5_come yX5_come : Cond) ∈ lw_tbl := List.mem_append_left _ (List.mem_of_getElem? (l := k2_sels lw_privs) (i := 39) rfl)
set_option maxRecDepth 100000 in
theorem tw_630 : (Cond.instanceMethod yX5_come : Cond) ∈ lw_tbl := List.mem_append_right _ (List.mem_append_right _ (List.mem_append_right _ (List.mem_append_right _ (List.mem_of_getElem? (l := tables_1_4) (i := 49) rfl))))
set_option maxRecDepth 100000 in
theorem tw_631 : (Cond.methodLink RX5 176 yX5_come : Cond) ∈ lw_tbl := List.mem_append_right _ (List.mem_append_right _ (List.mem_append_right _ (List.mem_append_right _ (List.mem_of_getElem? (l := tables_1_4) (i := 47) rfl))))
set_option maxRecDepth 100000 in
theorem tw_632 : (Cond.constantLong RX5 162 (4096) : Cond) ∈ lw_tbl := List.mem_append_right _ (List.mem_append_right _ (List.mem_append_right _ (List.mem_append_right _ (List.mem_of_getElem? (l := tables_1_4) (i := 46) rfl))))
set_option maxRecDepth 100000 in
theorem tw_633 : (Cond.constantLong RX5 160 (2147483647) : Cond) ∈ lw_tbl := List.mem_append_right _ (List.mem_append_right _ (List.mem_append_right _ (List.mem_append_right _ (List.mem_of_getElem? (l := tables_1_4) (i := 45) rfl))))
set_option maxRecDepth 100000 in
theorem tw_634 : (Cond.constantLong RX5 158 (1442695040888963407) : Cond) ∈ lw_tbl := List.mem_append_right _ (List.mem_append_right _ (List.mem_append_right _ (List.mem_append_right _ (List.mem_of_getElem? (l := tables_1_4) (i := 44) rfl))))
set_option maxRecDepth 100000 in
theorem tw_635 : (Cond.constantLong RX5 156 (6364136223846793005) : Cond) ∈ lw_tbl := List.mem_append_right _ (List.mem_append_right _ (List.mem_append_right _ (List.mem_append_right _ (List.mem_of_getElem? (l := tables_1_4) (i := 43) rfl))))
set_option maxRecDepth 100000 in
theorem tw_636 : (Cond.code yX5_numberBelow cX5_numberBelow 2 (some .int) : Cond) ∈ lw_tbl := List.mem_append_right _ (List.mem_append_right _ (List.mem_append_right _ (List.mem_append_right _ (List.mem_of_getElem? (l := tables_1_4) (i := 42) rfl))))
set_option maxRecDepth 100000 in
theorem tw_637 : (Cond.selects RX5 yX5_numberBelow yX5_numberBelow : Cond) ∈ lw_tbl := List.mem_append_left _ (List.mem_of_getElem? (l := k2_sels lw_privs) (i := 38) rfl)
set_option maxRecDepth 100000 in
theorem tw_638 : (Cond.instanceMethod yX5_numberBelow : Cond) ∈ lw_tbl := List.mem_append_right _ (List.mem_append_right _ (List.mem_append_right _ (List.mem_append_right _ (List.mem_of_getElem? (l := tables_1_4) (i := 41) rfl))))
set_option maxRecDepth 100000 in
theorem tw_639 : (Cond.methodLink RX5 173 yX5_numberBelow : Cond) ∈ lw_tbl := List.mem_append_right _ (List.mem_append_right _ (List.mem_append_right _ (List.mem_append_right _ (List.mem_of_getElem? (l := tables_1_4) (i := 39) rfl))))
set_option maxRecDepth 100000 in
theorem tw_640 : (Cond.code yX5_onWay cX5_onWay 3 (some .int) : Cond) ∈ lw_tbl := List.mem_append_right _ (List.mem_append_right _ (List.mem_append_right _ (List.mem_append_right _ (List.mem_of_getElem? (l := tables_1_4) (i := 38) rfl))))
set_option maxRecDepth 100000 in
theorem tw_641 : (Cond.selects RX5 yX5_flood yX5_flood : Cond) ∈ lw_tbl := List.mem_append_right _ (List.mem_append_right _ (List.mem_append_right _ (List.mem_append_right _ (List.mem_of_getElem? (l := tables_1_4) (i := 29) rfl))))
set_option maxRecDepth 100000 in
theorem tw_642 : (Cond.instanceMethod yX5_flood : Cond) ∈ lw_tbl := List.mem_append_right _ (List.mem_append_right _ (List.mem_append_right _ (List.mem_append_right _ (List.mem_of_getElem? (l := tables_1_4) (i := 28) rfl))))
set_option maxRecDepth 100000 in
theorem tw_643 : (Cond.methodLink RL 84 yX5_flood : Cond) ∈ lw_tbl := List.mem_append_right _ (List.mem_append_right _ (List.mem_append_right _ (List.mem_append_right _ (List.mem_of_getElem? (l := tables_1_4) (i := 27) rfl))))
set_option maxRecDepth 100000 in
theorem tw_644 : (Cond.code yX5_flooded cX5_flooded 3 (some .int) : Cond) ∈ lw_tbl := List.mem_append_right _ (List.mem_append_right _ (List.mem_append_right _ (List.mem_append_right _ (List.mem_of_getElem? (l := tables_1_4) (i := 54) rfl))))
set_option maxRecDepth 100000 in
theorem tw_645 : (Cond.selects RX5 yX5_flooded yX5_flooded : Cond) ∈ lw_tbl := List.mem_append_right _ (List.mem_append_right _ (List.mem_append_right _ (List.mem_append_right _ (List.mem_of_getElem? (l := tables_1_4) (i := 53) rfl))))
set_option maxRecDepth 100000 in
theorem tw_646 : (Cond.instanceMethod yX5_flooded : Cond) ∈ lw_tbl := List.mem_append_right _ (List.mem_append_right _ (List.mem_append_right _ (List.mem_append_right _ (List.mem_of_getElem? (l := tables_1_4) (i := 52) rfl))))
set_option maxRecDepth 100000 in
theorem tw_647 : (Cond.methodLink RL 88 yX5_flooded : Cond) ∈ lw_tbl := List.mem_append_right _ (List.mem_append_right _ (List.mem_append_right _ (List.mem_append_right _ (List.mem_of_getElem? (l := tables_1_4) (i := 51) rfl))))
set_option maxRecDepth 100000 in
theorem tw_648 : (Cond.code yX5_word cX5_word 2 (some .int) : Cond) ∈ lw_tbl := List.mem_append_right _ (List.mem_append_right _ (List.mem_append_right _ (List.mem_append_right _ (List.mem_of_getElem? (l := tables_1_4) (i := 58) rfl))))
set_option maxRecDepth 100000 in
theorem tw_649 : (Cond.selects RX5 yX5_word yX5_word : Cond) ∈ lw_tbl := List.mem_append_right _ (List.mem_append_right _ (List.mem_append_right _ (List.mem_append_right _ (List.mem_of_getElem? (l := tables_1_4) (i := 57) rfl))))
set_option maxRecDepth 100000 in
theorem tw_650 : (Cond.instanceMethod yX5_word : Cond) ∈ lw_tbl := List.mem_append_right _ (List.mem_append_right _ (List.mem_append_right _ (List.mem_append_right _ (List.mem_of_getElem? (l := tables_1_4) (i := 56) rfl))))
set_option maxRecDepth 100000 in
theorem tw_651 : (Cond.methodLink RL 92 yX5_word : Cond) ∈ lw_tbl := List.mem_append_right _ (List.mem_append_right _ (List.mem_append_right _ (List.mem_append_right _ (List.mem_of_getElem? (l := tables_1_4) (i := 55) rfl))))
set_option maxRecDepth 100000 in
theorem tw_652 : (Cond.code yX5_lots cX5_lots 6 (some .long) : Cond) ∈ lw_tbl := List.mem_append_right _ (List.mem_append_right _ (List.mem_append_right _ (List.mem_append_right _ (List.mem_of_getElem? (l := tables_1_4) (i := 62) rfl))))
set_option maxRecDepth 100000 in
theorem tw_653 : (Cond.code yX5_power cX5_power 6 (some .long) : Cond) ∈ lw_tbl := List.mem_append_right _ (List.mem_append_right _ (List.mem_append_right _ (List.mem_append_right _ (List.mem_of_getElem? (l := tables_1_4) (i := 71) rfl))))
set_option maxRecDepth 100000 in
theorem tw_654 : (Cond.static yX5_power : Cond) ∈ lw_tbl := List.mem_append_right _ (List.mem_append_right _ (List.mem_append_right _ (List.mem_append_right _ (List.mem_of_getElem? (l := tables_1_4) (i := 70) rfl))))
set_option maxRecDepth 100000 in
theorem tw_655 : (Cond.methodLink RX5 183 yX5_power : Cond) ∈ lw_tbl := List.mem_append_right _ (List.mem_append_right _ (List.mem_append_right _ (List.mem_append_right _ (List.mem_of_getElem? (l := tables_1_4) (i := 69) rfl))))
set_option maxRecDepth 100000 in
theorem tw_656 : (Cond.constantLong RX5 64 (-9223372036854775808) : Cond) ∈ lw_tbl := List.mem_append_right _ (List.mem_append_right _ (List.mem_append_right _ (List.mem_append_right _ (List.mem_of_getElem? (l := tables_1_4) (i := 68) rfl))))
set_option maxRecDepth 100000 in
theorem tw_657 : (Cond.code yX5_lost cX5_lost 0 (some .long) : Cond) ∈ lw_tbl := List.mem_append_right _ (List.mem_append_right _ (List.mem_append_right _ (List.mem_append_right _ (List.mem_of_getElem? (l := tables_1_4) (i := 67) rfl))))
set_option maxRecDepth 100000 in
theorem tw_658 : (Cond.static yX5_lost : Cond) ∈ lw_tbl := List.mem_append_right _ (List.mem_append_right _ (List.mem_append_right _ (List.mem_append_right _ (List.mem_of_getElem? (l := tables_1_4) (i := 66) rfl))))
set_option maxRecDepth 100000 in
theorem tw_659 : (Cond.methodLink RX5 70 yX5_lost : Cond) ∈ lw_tbl := List.mem_append_right _ (List.mem_append_right _ (List.mem_append_right _ (List.mem_append_right _ (List.mem_of_getElem? (l := tables_1_4) (i := 65) rfl))))
set_option maxRecDepth 100000 in
theorem tw_660 : (Cond.constantLong RX5 179 (6) : Cond) ∈ lw_tbl := List.mem_append_right _ (List.mem_append_right _ (List.mem_append_right _ (List.mem_append_right _ (List.mem_of_getElem? (l := tables_1_4) (i := 63) rfl))))
set_option maxRecDepth 100000 in
theorem tw_661 : (Cond.selects RX5 yX5_lots yX5_lots : Cond) ∈ lw_tbl := List.mem_append_right _ (List.mem_append_right _ (List.mem_append_right _ (List.mem_append_right _ (List.mem_of_getElem? (l := tables_1_4) (i := 61) rfl))))
set_option maxRecDepth 100000 in
theorem tw_662 : (Cond.instanceMethod yX5_lots : Cond) ∈ lw_tbl := List.mem_append_right _ (List.mem_append_right _ (List.mem_append_right _ (List.mem_append_right _ (List.mem_of_getElem? (l := tables_1_4) (i := 60) rfl))))
set_option maxRecDepth 100000 in
theorem tw_663 : (Cond.methodLink RL 97 yX5_lots : Cond) ∈ lw_tbl := List.mem_append_right _ (List.mem_append_right _ (List.mem_append_right _ (List.mem_append_right _ (List.mem_of_getElem? (l := tables_1_4) (i := 59) rfl))))
set_option maxRecDepth 100000 in
theorem tw_664 : (Cond.code yX5_sheet cX5_sheet 5 (some .int) : Cond) ∈ lw_tbl := List.mem_append_right _ (List.mem_append_right _ (List.mem_append_right _ (List.mem_append_right _ (List.mem_of_getElem? (l := tables_1_4) (i := 75) rfl))))
set_option maxRecDepth 100000 in
theorem tw_665 : (Cond.selects RX5 yX5_sheet yX5_sheet : Cond) ∈ lw_tbl := List.mem_append_right _ (List.mem_append_right _ (List.mem_append_right _ (List.mem_append_right _ (List.mem_of_getElem? (l := tables_1_4) (i := 74) rfl))))
set_option maxRecDepth 100000 in
theorem tw_666 : (Cond.instanceMethod yX5_sheet : Cond) ∈ lw_tbl := List.mem_append_right _ (List.mem_append_right _ (List.mem_append_right _ (List.mem_append_right _ (List.mem_of_getElem? (l := tables_1_4) (i := 73) rfl))))
set_option maxRecDepth 100000 in
theorem tw_667 : (Cond.methodLink RL 101 yX5_sheet : Cond) ∈ lw_tbl := List.mem_append_right _ (List.mem_append_right _ (List.mem_append_right _ (List.mem_append_right _ (List.mem_of_getElem? (l := tables_1_4) (i := 72) rfl))))
set_option maxRecDepth 100000 in
theorem tw_668 : (Cond.code yX5_lose cX5_lose 3 (some .int) : Cond) ∈ lw_tbl := List.mem_append_right _ (List.mem_append_right _ (List.mem_append_right _ (List.mem_append_right _ (List.mem_of_getElem? (l := tables_1_4) (i := 91) rfl))))
set_option maxRecDepth 100000 in
theorem tw_669 : (Cond.selects RX5 yX5_lose yX5_lose : Cond) ∈ lw_tbl := List.mem_append_right _ (List.mem_append_right _ (List.mem_append_right _ (List.mem_append_right _ (List.mem_of_getElem? (l := tables_1_4) (i := 90) rfl))))
set_option maxRecDepth 100000 in
theorem tw_670 : (Cond.instanceMethod yX5_lose : Cond) ∈ lw_tbl := List.mem_append_right _ (List.mem_append_right _ (List.mem_append_right _ (List.mem_append_right _ (List.mem_of_getElem? (l := tables_1_4) (i := 89) rfl))))
set_option maxRecDepth 100000 in
theorem tw_671 : (Cond.methodLink RL 105 yX5_lose : Cond) ∈ lw_tbl := List.mem_append_right _ (List.mem_append_right _ (List.mem_append_right _ (List.mem_append_right _ (List.mem_of_getElem? (l := tables_1_4) (i := 88) rfl))))
set_option maxRecDepth 100000 in
theorem tw_672 : (Cond.code yX5_put cX5_put 4 (some .int) : Cond) ∈ lw_tbl := List.mem_append_right _ (List.mem_append_right _ (List.mem_append_right _ (List.mem_append_right _ (List.mem_of_getElem? (l := tables_1_4) (i := 95) rfl))))
set_option maxRecDepth 100000 in
theorem tw_673 : (Cond.code yX5_noCell cX5_noCell 3 (some .int) : Cond) ∈ lw_tbl := List.mem_append_right _ (List.mem_append_right _ (List.mem_append_right _ (List.mem_append_right _ (List.mem_of_getElem? (l := tables_1_4) (i := 99) rfl))))
set_option maxRecDepth 100000 in
theorem tw_674 : (Cond.selects RX5 yX5_noCell yX5_noCell : Cond) ∈ lw_tbl := List.mem_append_left _ (List.mem_of_getElem? (l := k2_sels lw_privs) (i := 42) rfl)
set_option maxRecDepth 100000 in
theorem tw_675 : (Cond.instanceMethod yX5_noCell : Cond) ∈ lw_tbl := List.mem_append_right _ (List.mem_append_right _ (List.mem_append_right _ (List.mem_append_right _ (List.mem_of_getElem? (l := tables_1_4) (i := 98) rfl))))
set_option maxRecDepth 100000 in
theorem tw_676 : (Cond.methodLink RX5 198 yX5_noCell : Cond) ∈ lw_tbl := List.mem_append_right _ (List.mem_append_right _ (List.mem_append_right _ (List.mem_append_right _ (List.mem_of_getElem? (l := tables_1_4) (i := 96) rfl))))
set_option maxRecDepth 100000 in
theorem tw_677 : (Cond.selects RX5 yX5_put yX5_put : Cond) ∈ lw_tbl := List.mem_append_right _ (List.mem_append_right _ (List.mem_append_right _ (List.mem_append_right _ (List.mem_of_getElem? (l := tables_1_4) (i := 94) rfl))))
set_option maxRecDepth 100000 in
theorem tw_678 : (Cond.instanceMethod yX5_put : Cond) ∈ lw_tbl := List.mem_append_right _ (List.mem_append_right _ (List.mem_append_right _ (List.mem_append_right _ (List.mem_of_getElem? (l := tables_1_4) (i := 93) rfl))))
set_option maxRecDepth 100000 in
theorem tw_679 : (Cond.methodLink RL 109 yX5_put : Cond) ∈ lw_tbl := List.mem_append_right _ (List.mem_append_right _ (List.mem_append_right _ (List.mem_append_right _ (List.mem_of_getElem? (l := tables_1_4) (i := 92) rfl))))
set_option maxRecDepth 100000 in
theorem tw_680 : (Cond.code yX5_cell cX5_cell 4 (some .long) : Cond) ∈ lw_tbl := List.mem_append_right _ (List.mem_append_right _ (List.mem_append_right _ (List.mem_append_right _ (List.mem_of_getElem? (l := tables_1_4) (i := 103) rfl))))
set_option maxRecDepth 100000 in
theorem tw_681 : (Cond.code yX5_failedLong cX5_failedLong 2 (some .long) : Cond) ∈ lw_tbl := List.mem_append_right _ (List.mem_append_right _ (List.mem_append_right _ (List.mem_append_right _ (List.mem_of_getElem? (l := tables_1_4) (i := 107) rfl))))
set_option maxRecDepth 100000 in
theorem tw_682 : (Cond.selects RX5 yX5_failedLong yX5_failedLong : Cond) ∈ lw_tbl := List.mem_append_left _ (List.mem_of_getElem? (l := k2_sels lw_privs) (i := 43) rfl)
set_option maxRecDepth 100000 in
theorem tw_683 : (Cond.instanceMethod yX5_failedLong : Cond) ∈ lw_tbl := List.mem_append_right _ (List.mem_append_right _ (List.mem_append_right _ (List.mem_append_right _ (List.mem_of_getElem? (l := tables_1_4) (i := 106) rfl))))
set_option maxRecDepth 100000 in
theorem tw_684 : (Cond.methodLink RX5 201 yX5_failedLong : Cond) ∈ lw_tbl := List.mem_append_right _ (List.mem_append_right _ (List.mem_append_right _ (List.mem_append_right _ (List.mem_of_getElem? (l := tables_1_4) (i := 104) rfl))))
set_option maxRecDepth 100000 in
theorem tw_685 : (Cond.selects RX5 yX5_cell yX5_cell : Cond) ∈ lw_tbl := List.mem_append_right _ (List.mem_append_right _ (List.mem_append_right _ (List.mem_append_right _ (List.mem_of_getElem? (l := tables_1_4) (i := 102) rfl))))
set_option maxRecDepth 100000 in
theorem tw_686 : (Cond.instanceMethod yX5_cell : Cond) ∈ lw_tbl := List.mem_append_right _ (List.mem_append_right _ (List.mem_append_right _ (List.mem_append_right _ (List.mem_of_getElem? (l := tables_1_4) (i := 101) rfl))))
set_option maxRecDepth 100000 in
theorem tw_687 : (Cond.methodLink RL 114 yX5_cell : Cond) ∈ lw_tbl := List.mem_append_right _ (List.mem_append_right _ (List.mem_append_right _ (List.mem_append_right _ (List.mem_of_getElem? (l := tables_1_4) (i := 100) rfl))))
set_option maxRecDepth 100000 in
theorem tw_688 : (Cond.code yX5_copy cX5_copy 7 (some .int) : Cond) ∈ lw_tbl := List.mem_append_right _ (List.mem_append_right _ (List.mem_append_right _ (List.mem_append_right _ (List.mem_of_getElem? (l := tables_1_4) (i := 111) rfl))))
set_option maxRecDepth 100000 in
theorem tw_689 : (Cond.selects RX5 yX5_copy yX5_copy : Cond) ∈ lw_tbl := List.mem_append_right _ (List.mem_append_right _ (List.mem_append_right _ (List.mem_append_right _ (List.mem_of_getElem? (l := tables_1_4) (i := 110) rfl))))
set_option maxRecDepth 100000 in
theorem tw_690 : (Cond.instanceMethod yX5_copy : Cond) ∈ lw_tbl := List.mem_append_right _ (List.mem_append_right _ (List.mem_append_right _ (List.mem_append_right _ (List.mem_of_getElem? (l := tables_1_4) (i := 109) rfl))))
set_option maxRecDepth 100000 in
theorem tw_691 : (Cond.methodLink RL 119 yX5_copy : Cond) ∈ lw_tbl := List.mem_append_right _ (List.mem_append_right _ (List.mem_append_right _ (List.mem_append_right _ (List.mem_of_getElem? (l := tables_1_4) (i := 108) rfl))))
set_option maxRecDepth 100000 in
theorem tw_692 : (Cond.code yX5_tell cX5_tell 3 (some .int) : Cond) ∈ lw_tbl := List.mem_append_right _ (List.mem_append_right _ (List.mem_append_right _ (List.mem_append_right _ (List.mem_of_getElem? (l := tables_1_4) (i := 126) rfl))))
set_option maxRecDepth 100000 in
theorem tw_693 : (Cond.fieldLink RX5 212 "AlikePostsModel" "trace" "I" : Cond) ∈ lw_tbl := List.mem_append_right _ (List.mem_append_right _ (List.mem_append_right _ (List.mem_append_left _ (List.mem_of_getElem? (l := tables_1_3) (i := 94) rfl))))
set_option maxRecDepth 100000 in
theorem tw_694 : (Cond.code yX5_traced cX5_traced 2 none : Cond) ∈ lw_tbl := List.mem_append_right _ (List.mem_append_right _ (List.mem_append_right _ (List.mem_append_right _ (List.mem_of_getElem? (l := tables_1_4) (i := 134) rfl))))
set_option maxRecDepth 100000 in
theorem tw_695 : (Cond.selects RX5 yX5_traced yX5_traced : Cond) ∈ lw_tbl := List.mem_append_left _ (List.mem_of_getElem? (l := k2_sels lw_privs) (i := 46) rfl)
set_option maxRecDepth 100000 in
theorem tw_696 : (Cond.instanceMethod yX5_traced : Cond) ∈ lw_tbl := List.mem_append_right _ (List.mem_append_right _ (List.mem_append_right _ (List.mem_append_right _ (List.mem_of_getElem? (l := tables_1_4) (i := 133) rfl))))
set_option maxRecDepth 100000 in
theorem tw_697 : (Cond.methodLink RX5 218 yX5_traced : Cond) ∈ lw_tbl := List.mem_append_right _ (List.mem_append_right _ (List.mem_append_right _ (List.mem_append_right _ (List.mem_of_getElem? (l := tables_1_4) (i := 131) rfl))))
set_option maxRecDepth 100000 in
theorem tw_698 : (Cond.code yX5_kindOf cX5_kindOf 2 (some .int) : Cond) ∈ lw_tbl := List.mem_append_right _ (List.mem_append_right _ (List.mem_append_right _ (List.mem_append_right _ (List.mem_of_getElem? (l := tables_1_4) (i := 130) rfl))))
set_option maxRecDepth 100000 in
theorem tw_699 : (Cond.selects RX5 yX5_kindOf yX5_kindOf : Cond) ∈ lw_tbl := List.mem_append_left _ (List.mem_of_getElem? (l := k2_sels lw_privs) (i := 45) rfl)
set_option maxRecDepth 100000 in
theorem tw_700 : (Cond.instanceMethod yX5_kindOf : Cond) ∈ lw_tbl := List.mem_append_right _ (List.mem_append_right _ (List.mem_append_right _ (List.mem_append_right _ (List.mem_of_getElem? (l := tables_1_4) (i := 129) rfl))))
set_option maxRecDepth 100000 in
theorem tw_701 : (Cond.methodLink RX5 215 yX5_kindOf : Cond) ∈ lw_tbl := List.mem_append_right _ (List.mem_append_right _ (List.mem_append_right _ (List.mem_append_right _ (List.mem_of_getElem? (l := tables_1_4) (i := 127) rfl))))
set_option maxRecDepth 100000 in
theorem tw_702 : (Cond.selects RX5 yX5_tell yX5_tell : Cond) ∈ lw_tbl := List.mem_append_right _ (List.mem_append_right _ (List.mem_append_right _ (List.mem_append_right _ (List.mem_of_getElem? (l := tables_1_4) (i := 125) rfl))))
set_option maxRecDepth 100000 in
theorem tw_703 : (Cond.instanceMethod yX5_tell : Cond) ∈ lw_tbl := List.mem_append_right _ (List.mem_append_right _ (List.mem_append_right _ (List.mem_append_right _ (List.mem_of_getElem? (l := tables_1_4) (i := 124) rfl))))
set_option maxRecDepth 100000 in
theorem tw_704 : (Cond.methodLink RL 123 yX5_tell : Cond) ∈ lw_tbl := List.mem_append_right _ (List.mem_append_right _ (List.mem_append_right _ (List.mem_append_right _ (List.mem_of_getElem? (l := tables_1_4) (i := 123) rfl))))
set_option maxRecDepth 100000 in
theorem tw_705 : (Cond.code yX5_hear cX5_hear 3 (some .int) : Cond) ∈ lw_tbl := List.mem_append_right _ (List.mem_append_right _ (List.mem_append_right _ (List.mem_append_right _ (List.mem_of_getElem? (l := tables_1_4) (i := 138) rfl))))
set_option maxRecDepth 100000 in
theorem tw_706 : (Cond.selects RX5 yX5_hear yX5_hear : Cond) ∈ lw_tbl := List.mem_append_right _ (List.mem_append_right _ (List.mem_append_right _ (List.mem_append_right _ (List.mem_of_getElem? (l := tables_1_4) (i := 137) rfl))))
set_option maxRecDepth 100000 in
theorem tw_707 : (Cond.instanceMethod yX5_hear : Cond) ∈ lw_tbl := List.mem_append_right _ (List.mem_append_right _ (List.mem_append_right _ (List.mem_append_right _ (List.mem_of_getElem? (l := tables_1_4) (i := 136) rfl))))
set_option maxRecDepth 100000 in
theorem tw_708 : (Cond.methodLink RL 127 yX5_hear : Cond) ∈ lw_tbl := List.mem_append_right _ (List.mem_append_right _ (List.mem_append_right _ (List.mem_append_right _ (List.mem_of_getElem? (l := tables_1_4) (i := 135) rfl))))
set_option maxRecDepth 100000 in
theorem tw_709 : (Cond.code yX5_as cX5_as 3 (some .int) : Cond) ∈ lw_tbl := List.mem_append_right _ (List.mem_append_right _ (List.mem_append_right _ (List.mem_append_right _ (List.mem_of_getElem? (l := tables_1_4) (i := 142) rfl))))
set_option maxRecDepth 100000 in
theorem tw_710 : (Cond.selects RX5 yX5_as yX5_as : Cond) ∈ lw_tbl := List.mem_append_right _ (List.mem_append_right _ (List.mem_append_right _ (List.mem_append_right _ (List.mem_of_getElem? (l := tables_1_4) (i := 141) rfl))))
set_option maxRecDepth 100000 in
theorem tw_711 : (Cond.instanceMethod yX5_as : Cond) ∈ lw_tbl := List.mem_append_right _ (List.mem_append_right _ (List.mem_append_right _ (List.mem_append_right _ (List.mem_of_getElem? (l := tables_1_4) (i := 140) rfl))))
set_option maxRecDepth 100000 in
theorem tw_712 : (Cond.methodLink RL 131 yX5_as : Cond) ∈ lw_tbl := List.mem_append_right _ (List.mem_append_right _ (List.mem_append_right _ (List.mem_append_right _ (List.mem_of_getElem? (l := tables_1_4) (i := 139) rfl))))
set_option maxRecDepth 100000 in
theorem tw_713 : (Cond.code yX5_trace cX5_trace 1 (some .int) : Cond) ∈ lw_tbl := List.mem_append_right _ (List.mem_append_right _ (List.mem_append_right _ (List.mem_append_right _ (List.mem_of_getElem? (l := tables_1_4) (i := 146) rfl))))
set_option maxRecDepth 100000 in
theorem tw_714 : (Cond.selects RX5 yX5_trace yX5_trace : Cond) ∈ lw_tbl := List.mem_append_right _ (List.mem_append_right _ (List.mem_append_right _ (List.mem_append_right _ (List.mem_of_getElem? (l := tables_1_4) (i := 145) rfl))))
set_option maxRecDepth 100000 in
theorem tw_715 : (Cond.instanceMethod yX5_trace : Cond) ∈ lw_tbl := List.mem_append_right _ (List.mem_append_right _ (List.mem_append_right _ (List.mem_append_right _ (List.mem_of_getElem? (l := tables_1_4) (i := 144) rfl))))
set_option maxRecDepth 100000 in
theorem tw_716 : (Cond.methodLink RL 135 yX5_trace : Cond) ∈ lw_tbl := List.mem_append_right _ (List.mem_append_right _ (List.mem_append_right _ (List.mem_append_right _ (List.mem_of_getElem? (l := tables_1_4) (i := 143) rfl))))
set_option maxRecDepth 100000 in
theorem tw_717 : (Cond.code yX5_fault cX5_fault 1 (some .int) : Cond) ∈ lw_tbl := List.mem_append_right _ (List.mem_append_right _ (List.mem_append_right _ (List.mem_append_right _ (List.mem_of_getElem? (l := tables_1_4) (i := 150) rfl))))
set_option maxRecDepth 100000 in
theorem tw_718 : (Cond.selects RX5 yX5_fault yX5_fault : Cond) ∈ lw_tbl := List.mem_append_right _ (List.mem_append_right _ (List.mem_append_right _ (List.mem_append_right _ (List.mem_of_getElem? (l := tables_1_4) (i := 149) rfl))))
set_option maxRecDepth 100000 in
theorem tw_719 : (Cond.instanceMethod yX5_fault : Cond) ∈ lw_tbl := List.mem_append_right _ (List.mem_append_right _ (List.mem_append_right _ (List.mem_append_right _ (List.mem_of_getElem? (l := tables_1_4) (i := 148) rfl))))
set_option maxRecDepth 100000 in
theorem tw_720 : (Cond.methodLink RL 139 yX5_fault : Cond) ∈ lw_tbl := List.mem_append_right _ (List.mem_append_right _ (List.mem_append_right _ (List.mem_append_right _ (List.mem_of_getElem? (l := tables_1_4) (i := 147) rfl))))
set_option maxRecDepth 100000 in
theorem tw_721 : (Cond.code yX5_told cX5_told 2 (some .int) : Cond) ∈ lw_tbl := List.mem_append_right _ (List.mem_append_right _ (List.mem_append_right _ (List.mem_append_right _ (List.mem_of_getElem? (l := tables_1_4) (i := 154) rfl))))
set_option maxRecDepth 100000 in
theorem tw_722 : (Cond.code yX5_ends cX5_ends 3 (some .int) : Cond) ∈ lw_tbl := List.mem_append_right _ (List.mem_append_right _ (List.mem_append_right _ (List.mem_append_right _ (List.mem_of_getElem? (l := tables_1_4) (i := 158) rfl))))
set_option maxRecDepth 100000 in
theorem tw_723 : (Cond.selects RX5 yX5_ends yX5_ends : Cond) ∈ lw_tbl := List.mem_append_left _ (List.mem_of_getElem? (l := k2_sels lw_privs) (i := 47) rfl)
set_option maxRecDepth 100000 in
theorem tw_724 : (Cond.instanceMethod yX5_ends : Cond) ∈ lw_tbl := List.mem_append_right _ (List.mem_append_right _ (List.mem_append_right _ (List.mem_append_right _ (List.mem_of_getElem? (l := tables_1_4) (i := 157) rfl))))
set_option maxRecDepth 100000 in
theorem tw_725 : (Cond.methodLink RX5 221 yX5_ends : Cond) ∈ lw_tbl := List.mem_append_right _ (List.mem_append_right _ (List.mem_append_right _ (List.mem_append_right _ (List.mem_of_getElem? (l := tables_1_4) (i := 155) rfl))))
set_option maxRecDepth 100000 in
theorem tw_726 : (Cond.selects RX5 yX5_told yX5_told : Cond) ∈ lw_tbl := List.mem_append_right _ (List.mem_append_right _ (List.mem_append_right _ (List.mem_append_right _ (List.mem_of_getElem? (l := tables_1_4) (i := 153) rfl))))
set_option maxRecDepth 100000 in
theorem tw_727 : (Cond.instanceMethod yX5_told : Cond) ∈ lw_tbl := List.mem_append_right _ (List.mem_append_right _ (List.mem_append_right _ (List.mem_append_right _ (List.mem_of_getElem? (l := tables_1_4) (i := 152) rfl))))
set_option maxRecDepth 100000 in
theorem tw_728 : (Cond.methodLink RL 143 yX5_told : Cond) ∈ lw_tbl := List.mem_append_right _ (List.mem_append_right _ (List.mem_append_right _ (List.mem_append_right _ (List.mem_of_getElem? (l := tables_1_4) (i := 151) rfl))))
set_option maxRecDepth 100000 in
theorem tw_729 : (Cond.classLink RL 7 RX4 : Cond) ∈ lw_tbl := List.mem_append_right _ (List.mem_append_left _ (List.mem_of_getElem? (l := tables_1_1) (i := 10) rfl))
set_option maxRecDepth 100000 in
theorem tw_730 : (Cond.instantiable RX4 6 : Cond) ∈ lw_tbl := List.mem_append_right _ (List.mem_append_left _ (List.mem_of_getElem? (l := tables_1_1) (i := 11) rfl))
set_option maxRecDepth 100000 in
theorem tw_731 : (Cond.classLink RL 10 RX5 : Cond) ∈ lw_tbl := List.mem_append_right _ (List.mem_append_right _ (List.mem_append_right _ (List.mem_append_left _ (List.mem_of_getElem? (l := tables_1_3) (i := 62) rfl))))
set_option maxRecDepth 100000 in
theorem tw_732 : (Cond.instantiable RX5 27 : Cond) ∈ lw_tbl := List.mem_append_right _ (List.mem_append_right _ (List.mem_append_right _ (List.mem_append_left _ (List.mem_of_getElem? (l := tables_1_3) (i := 63) rfl))))
set_option maxRecDepth 100000 in
theorem tw_733 : (Cond.methodLink RL 9 yX4_init : Cond) ∈ lw_tbl := List.mem_append_right _ (List.mem_append_left _ (List.mem_of_getElem? (l := tables_1_1) (i := 12) rfl))
set_option maxRecDepth 100000 in
theorem tw_734 : (Cond.methodLink RL 12 yX5_init : Cond) ∈ lw_tbl := List.mem_append_right _ (List.mem_append_right _ (List.mem_append_right _ (List.mem_append_left _ (List.mem_of_getElem? (l := tables_1_3) (i := 64) rfl))))
set_option maxRecDepth 100000 in
theorem tw_735 : (Cond.constantLong RL 78 (4294967295) : Cond) ∈ lw_tbl := List.mem_append_right _ (List.mem_append_right _ (List.mem_append_right _ (List.mem_append_right _ (List.mem_of_getElem? (l := tables_1_4) (i := 159) rfl))))
