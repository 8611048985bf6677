/-! words of the tables that every method may use -/
def gz_ts : List Cond := lw_tbl.filter goodWord
theorem gz_ts_good : GoodIn lw_tbl gz_ts := fun w h => ⟨(List.mem_filter.mp h).1, good_of_word (List.mem_filter.mp h).2⟩
theorem gz_ts_self : GoodIn gz_ts gz_ts := fun w h => ⟨h, good_of_word (List.mem_filter.mp h).2⟩
theorem gz_tb {w : Cond} (h : w ∈ tables_1) : w ∈ lw_tbl := List.mem_append_right _ h
theorem gz_ps {q : MethodName × Nat} (h : q ∈ lw_privs) : Cond.selects q.1.cls q.1 q.1 ∈ lw_tbl := List.mem_append_left _ (List.mem_map.mpr ⟨q, h, rfl⟩)
theorem gz_go {w : Cond} (h : w ∈ lw_tbl) (g : goodWord w = true) : w ∈ gz_ts := List.mem_filter.mpr ⟨h, g⟩
theorem wn_L : Cond.initialized RL ∈ gz_ts := gz_go (gz_tb (List.mem_append_left _ (List.mem_of_getElem? (i := 0) rfl))) rfl
theorem wn_X4 : Cond.initialized RX4 ∈ gz_ts := gz_go (gz_tb (List.mem_append_left _ (List.mem_of_getElem? (i := 1) rfl))) rfl
theorem wn_X3 : Cond.initialized RX3 ∈ gz_ts := gz_go (gz_tb (List.mem_append_left _ (List.mem_of_getElem? (i := 2) rfl))) rfl
theorem wn_X1 : Cond.initialized RX1 ∈ gz_ts := gz_go (gz_tb (List.mem_append_left _ (List.mem_of_getElem? (i := 3) rfl))) rfl
theorem wn_X2 : Cond.initialized RX2 ∈ gz_ts := gz_go (gz_tb (List.mem_append_left _ (List.mem_of_getElem? (i := 4) rfl))) rfl
theorem wn_X0 : Cond.initialized RX0 ∈ gz_ts := gz_go (gz_tb (List.mem_append_left _ (List.mem_of_getElem? (i := 5) rfl))) rfl
theorem wn_X5 : Cond.initialized RX5 ∈ gz_ts := gz_go (gz_tb (List.mem_append_left _ (List.mem_of_getElem? (i := 6) rfl))) rfl
theorem wn_J10 : Cond.initialized RJ10 ∈ gz_ts := gz_go (gz_tb (List.mem_append_left _ (List.mem_of_getElem? (i := 7) rfl))) rfl
theorem wn_J9 : Cond.initialized RJ9 ∈ gz_ts := gz_go (gz_tb (List.mem_append_left _ (List.mem_of_getElem? (i := 8) rfl))) rfl
theorem wm_L_9 : Cond.methodLink RL 9 yX4_init ∈ gz_ts := gz_go (gz_tb (List.mem_append_left _ (List.mem_of_getElem? (i := 11) rfl))) rfl
theorem wi_X4_init : Cond.instanceMethod yX4_init ∈ gz_ts := gz_go (gz_tb (List.mem_append_left _ (List.mem_of_getElem? (i := 12) rfl))) rfl
theorem wm_X4_3 : Cond.methodLink RX4 3 objectInit ∈ gz_ts := gz_go (gz_tb (List.mem_append_left _ (List.mem_of_getElem? (i := 14) rfl))) rfl
theorem wi_objectInit : Cond.instanceMethod objectInit ∈ gz_ts := gz_go (gz_tb (List.mem_append_left _ (List.mem_of_getElem? (i := 15) rfl))) rfl
theorem wc_objectInit : Cond.code objectInit ⟨#[0xb1]⟩ 1 none ∈ gz_ts := gz_go (gz_tb (List.mem_append_left _ (List.mem_of_getElem? (i := 16) rfl))) rfl
theorem wi_X3_init : Cond.instanceMethod yX3_init ∈ gz_ts := gz_go (gz_tb (List.mem_append_left _ (List.mem_of_getElem? (i := 24) rfl))) rfl
theorem wm_X3_3 : Cond.methodLink RX3 3 objectInit ∈ gz_ts := gz_go (gz_tb (List.mem_append_left _ (List.mem_of_getElem? (i := 26) rfl))) rfl
theorem wi_X1_init : Cond.instanceMethod yX1_init ∈ gz_ts := gz_go (gz_tb (List.mem_append_left _ (List.mem_of_getElem? (i := 30) rfl))) rfl
theorem wm_X1_3 : Cond.methodLink RX1 3 objectInit ∈ gz_ts := gz_go (gz_tb (List.mem_append_left _ (List.mem_of_getElem? (i := 32) rfl))) rfl
theorem wf_X1_9 : Cond.fieldLink RX1 9 "GrownSnapshots$Shelf" "has" "[Z" ∈ gz_ts := gz_go (gz_tb (List.mem_append_left _ (List.mem_of_getElem? (i := 33) rfl))) rfl
theorem wf_X3_41 : Cond.fieldLink RX3 41 "GrownSnapshots$Shelf" "has" "[Z" ∈ gz_ts := gz_go (gz_tb (List.mem_append_left _ (List.mem_of_getElem? (i := 34) rfl))) rfl
theorem wf_X4_207 : Cond.fieldLink RX4 207 "GrownSnapshots$Shelf" "has" "[Z" ∈ gz_ts := gz_go (gz_tb (List.mem_append_left _ (List.mem_of_getElem? (i := 35) rfl))) rfl
theorem wf_X1_15 : Cond.fieldLink RX1 15 "GrownSnapshots$Shelf" "bytes" "[I" ∈ gz_ts := gz_go (gz_tb (List.mem_append_left _ (List.mem_of_getElem? (i := 36) rfl))) rfl
theorem wf_X3_45 : Cond.fieldLink RX3 45 "GrownSnapshots$Shelf" "bytes" "[I" ∈ gz_ts := gz_go (gz_tb (List.mem_append_left _ (List.mem_of_getElem? (i := 37) rfl))) rfl
theorem wf_X4_206 : Cond.fieldLink RX4 206 "GrownSnapshots$Shelf" "bytes" "[I" ∈ gz_ts := gz_go (gz_tb (List.mem_append_left _ (List.mem_of_getElem? (i := 38) rfl))) rfl
theorem wf_X3_12 : Cond.fieldLink RX3 12 "GrownSnapshots$Store" "shelf" "LGrownSnapshots$Shelf;" ∈ gz_ts := gz_go (gz_tb (List.mem_append_left _ (List.mem_of_getElem? (i := 46) rfl))) rfl
theorem wf_X4_187 : Cond.fieldLink RX4 187 "GrownSnapshots$Store" "shelf" "LGrownSnapshots$Shelf;" ∈ gz_ts := gz_go (gz_tb (List.mem_append_left _ (List.mem_of_getElem? (i := 47) rfl))) rfl
theorem wf_X3_18 : Cond.fieldLink RX3 18 "GrownSnapshots$Store" "sizes" "[I" ∈ gz_ts := gz_go (gz_tb (List.mem_append_left _ (List.mem_of_getElem? (i := 48) rfl))) rfl
theorem wf_X4_180 : Cond.fieldLink RX4 180 "GrownSnapshots$Store" "sizes" "[I" ∈ gz_ts := gz_go (gz_tb (List.mem_append_left _ (List.mem_of_getElem? (i := 49) rfl))) rfl
theorem wf_X3_22 : Cond.fieldLink RX3 22 "GrownSnapshots$Store" "digests" "[I" ∈ gz_ts := gz_go (gz_tb (List.mem_append_left _ (List.mem_of_getElem? (i := 50) rfl))) rfl
theorem wf_X4_181 : Cond.fieldLink RX4 181 "GrownSnapshots$Store" "digests" "[I" ∈ gz_ts := gz_go (gz_tb (List.mem_append_left _ (List.mem_of_getElem? (i := 51) rfl))) rfl
theorem wf_X3_25 : Cond.fieldLink RX3 25 "GrownSnapshots$Store" "fresh" "[I" ∈ gz_ts := gz_go (gz_tb (List.mem_append_left _ (List.mem_of_getElem? (i := 52) rfl))) rfl
theorem wf_X3_28 : Cond.fieldLink RX3 28 "GrownSnapshots$Store" "freshCount" "I" ∈ gz_ts := gz_go (gz_tb (List.mem_append_left _ (List.mem_of_getElem? (i := 53) rfl))) rfl
theorem wf_X3_32 : Cond.fieldLink RX3 32 "GrownSnapshots$Store" "freshBytes" "I" ∈ gz_ts := gz_go (gz_tb (List.mem_append_left _ (List.mem_of_getElem? (i := 54) rfl))) rfl
theorem wf_X4_105 : Cond.fieldLink RX4 105 "GrownSnapshots$Store" "freshBytes" "I" ∈ gz_ts := gz_go (gz_tb (List.mem_append_left _ (List.mem_of_getElem? (i := 55) rfl))) rfl
theorem wf_X3_35 : Cond.fieldLink RX3 35 "GrownSnapshots$Store" "count" "I" ∈ gz_ts := gz_go (gz_tb (List.mem_append_left _ (List.mem_of_getElem? (i := 56) rfl))) rfl
theorem wf_X4_213 : Cond.fieldLink RX4 213 "GrownSnapshots$Store" "count" "I" ∈ gz_ts := gz_go (gz_tb (List.mem_append_left _ (List.mem_of_getElem? (i := 57) rfl))) rfl
theorem wf_X3_38 : Cond.fieldLink RX3 38 "GrownSnapshots$Store" "totalBytes" "I" ∈ gz_ts := gz_go (gz_tb (List.mem_append_left _ (List.mem_of_getElem? (i := 58) rfl))) rfl
theorem wf_X4_216 : Cond.fieldLink RX4 216 "GrownSnapshots$Store" "totalBytes" "I" ∈ gz_ts := gz_go (gz_tb (List.mem_append_left _ (List.mem_of_getElem? (i := 59) rfl))) rfl
theorem wi_X2_init : Cond.instanceMethod yX2_init ∈ gz_ts := gz_go (gz_tb (List.mem_append_left _ (List.mem_of_getElem? (i := 81) rfl))) rfl
theorem wm_X2_3 : Cond.methodLink RX2 3 objectInit ∈ gz_ts := gz_go (gz_tb (List.mem_append_left _ (List.mem_of_getElem? (i := 83) rfl))) rfl
theorem wf_X2_9 : Cond.fieldLink RX2 9 "GrownSnapshots$State" "bytes" "[I" ∈ gz_ts := gz_go (gz_tb (List.mem_append_left _ (List.mem_of_getElem? (i := 84) rfl))) rfl
theorem wf_X4_66 : Cond.fieldLink RX4 66 "GrownSnapshots$State" "bytes" "[I" ∈ gz_ts := gz_go (gz_tb (List.mem_append_left _ (List.mem_of_getElem? (i := 85) rfl))) rfl
theorem wf_X2_15 : Cond.fieldLink RX2 15 "GrownSnapshots$State" "ends" "[I" ∈ gz_ts := gz_go (gz_tb (List.mem_append_left _ (List.mem_of_getElem? (i := 86) rfl))) rfl
theorem wf_X2_18 : Cond.fieldLink RX2 18 "GrownSnapshots$State" "size" "I" ∈ gz_ts := gz_go (gz_tb (List.mem_append_left _ (List.mem_of_getElem? (i := 87) rfl))) rfl
theorem wf_X4_59 : Cond.fieldLink RX4 59 "GrownSnapshots$State" "size" "I" ∈ gz_ts := gz_go (gz_tb (List.mem_append_left _ (List.mem_of_getElem? (i := 88) rfl))) rfl
theorem wi_X0_init : Cond.instanceMethod yX0_init ∈ gz_ts := gz_go (gz_tb (List.mem_append_left _ (List.mem_of_getElem? (i := 99) rfl))) rfl
theorem wm_X0_3 : Cond.methodLink RX0 3 objectInit ∈ gz_ts := gz_go (gz_tb (List.mem_append_left _ (List.mem_of_getElem? (i := 101) rfl))) rfl
theorem wf_X0_11 : Cond.fieldLink RX0 11 "GrownSnapshots$Mark" "lists" "[[I" ∈ gz_ts := gz_go (gz_tb (List.mem_append_left _ (List.mem_of_getElem? (i := 104) rfl))) rfl
theorem wf_X4_170 : Cond.fieldLink RX4 170 "GrownSnapshots$Mark" "lists" "[[I" ∈ gz_ts := gz_go (gz_tb (List.mem_append_left _ (List.mem_of_getElem? (i := 105) rfl))) rfl
theorem wf_X0_16 : Cond.fieldLink RX0 16 "GrownSnapshots$Mark" "sizes" "[I" ∈ gz_ts := gz_go (gz_tb (List.mem_append_left _ (List.mem_of_getElem? (i := 106) rfl))) rfl
theorem wf_X4_167 : Cond.fieldLink RX4 167 "GrownSnapshots$Mark" "sizes" "[I" ∈ gz_ts := gz_go (gz_tb (List.mem_append_left _ (List.mem_of_getElem? (i := 107) rfl))) rfl
theorem wf_X0_20 : Cond.fieldLink RX0 20 "GrownSnapshots$Mark" "number" "I" ∈ gz_ts := gz_go (gz_tb (List.mem_append_left _ (List.mem_of_getElem? (i := 108) rfl))) rfl
theorem wf_X4_122 : Cond.fieldLink RX4 122 "GrownSnapshots$Mark" "number" "I" ∈ gz_ts := gz_go (gz_tb (List.mem_append_left _ (List.mem_of_getElem? (i := 109) rfl))) rfl
theorem wf_X0_24 : Cond.fieldLink RX0 24 "GrownSnapshots$Mark" "kept" "Z" ∈ gz_ts := gz_go (gz_tb (List.mem_append_left _ (List.mem_of_getElem? (i := 110) rfl))) rfl
theorem wf_X4_129 : Cond.fieldLink RX4 129 "GrownSnapshots$Mark" "kept" "Z" ∈ gz_ts := gz_go (gz_tb (List.mem_append_left _ (List.mem_of_getElem? (i := 111) rfl))) rfl
theorem wf_X0_28 : Cond.fieldLink RX0 28 "GrownSnapshots$Mark" "base" "I" ∈ gz_ts := gz_go (gz_tb (List.mem_append_left _ (List.mem_of_getElem? (i := 112) rfl))) rfl
theorem wf_X4_155 : Cond.fieldLink RX4 155 "GrownSnapshots$Mark" "base" "I" ∈ gz_ts := gz_go (gz_tb (List.mem_append_left _ (List.mem_of_getElem? (i := 113) rfl))) rfl
theorem wf_X0_31 : Cond.fieldLink RX0 31 "GrownSnapshots$Mark" "tasks" "I" ∈ gz_ts := gz_go (gz_tb (List.mem_append_left _ (List.mem_of_getElem? (i := 114) rfl))) rfl
theorem wf_X4_142 : Cond.fieldLink RX4 142 "GrownSnapshots$Mark" "tasks" "I" ∈ gz_ts := gz_go (gz_tb (List.mem_append_left _ (List.mem_of_getElem? (i := 115) rfl))) rfl
theorem wf_X0_34 : Cond.fieldLink RX0 34 "GrownSnapshots$Mark" "ownParts" "I" ∈ gz_ts := gz_go (gz_tb (List.mem_append_left _ (List.mem_of_getElem? (i := 116) rfl))) rfl
theorem wf_X4_161 : Cond.fieldLink RX4 161 "GrownSnapshots$Mark" "ownParts" "I" ∈ gz_ts := gz_go (gz_tb (List.mem_append_left _ (List.mem_of_getElem? (i := 117) rfl))) rfl
theorem wf_X0_37 : Cond.fieldLink RX0 37 "GrownSnapshots$Mark" "listBytes" "I" ∈ gz_ts := gz_go (gz_tb (List.mem_append_left _ (List.mem_of_getElem? (i := 118) rfl))) rfl
theorem wf_X4_164 : Cond.fieldLink RX4 164 "GrownSnapshots$Mark" "listBytes" "I" ∈ gz_ts := gz_go (gz_tb (List.mem_append_left _ (List.mem_of_getElem? (i := 119) rfl))) rfl
theorem wf_X0_40 : Cond.fieldLink RX0 40 "GrownSnapshots$Mark" "newBytes" "I" ∈ gz_ts := gz_go (gz_tb (List.mem_append_left _ (List.mem_of_getElem? (i := 120) rfl))) rfl
theorem wf_X4_108 : Cond.fieldLink RX4 108 "GrownSnapshots$Mark" "newBytes" "I" ∈ gz_ts := gz_go (gz_tb (List.mem_append_left _ (List.mem_of_getElem? (i := 121) rfl))) rfl
theorem wf_X4_11 : Cond.fieldLink RX4 11 "GrownSnapshots" "states" "[LGrownSnapshots$State;" ∈ gz_ts := gz_go (gz_tb (List.mem_append_left _ (List.mem_of_getElem? (i := 141) rfl))) rfl
theorem wf_X4_17 : Cond.fieldLink RX4 17 "GrownSnapshots" "copies" "[LGrownSnapshots$Shelf;" ∈ gz_ts := gz_go (gz_tb (List.mem_append_left _ (List.mem_of_getElem? (i := 142) rfl))) rfl
theorem wf_X4_24 : Cond.fieldLink RX4 24 "GrownSnapshots" "store" "LGrownSnapshots$Store;" ∈ gz_ts := gz_go (gz_tb (List.mem_append_left _ (List.mem_of_getElem? (i := 143) rfl))) rfl
theorem wf_X4_30 : Cond.fieldLink RX4 30 "GrownSnapshots" "held" "[LGrownSnapshots$Mark;" ∈ gz_ts := gz_go (gz_tb (List.mem_append_left _ (List.mem_of_getElem? (i := 144) rfl))) rfl
theorem wf_X4_34 : Cond.fieldLink RX4 34 "GrownSnapshots" "joined" "[I" ∈ gz_ts := gz_go (gz_tb (List.mem_append_left _ (List.mem_of_getElem? (i := 145) rfl))) rfl
theorem wf_X4_38 : Cond.fieldLink RX4 38 "GrownSnapshots" "named" "[Z" ∈ gz_ts := gz_go (gz_tb (List.mem_append_left _ (List.mem_of_getElem? (i := 146) rfl))) rfl
theorem wf_X4_42 : Cond.fieldLink RX4 42 "GrownSnapshots" "taskCount" "I" ∈ gz_ts := gz_go (gz_tb (List.mem_append_left _ (List.mem_of_getElem? (i := 147) rfl))) rfl
theorem wf_X4_46 : Cond.fieldLink RX4 46 "GrownSnapshots" "heldCount" "I" ∈ gz_ts := gz_go (gz_tb (List.mem_append_left _ (List.mem_of_getElem? (i := 148) rfl))) rfl
theorem wf_X4_49 : Cond.fieldLink RX4 49 "GrownSnapshots" "nextMark" "I" ∈ gz_ts := gz_go (gz_tb (List.mem_append_left _ (List.mem_of_getElem? (i := 149) rfl))) rfl
theorem wm_L_15 : Cond.methodLink RL 15 yX4_insert ∈ gz_ts := gz_go (gz_tb (List.mem_append_left _ (List.mem_of_getElem? (i := 169) rfl))) rfl
theorem wi_X4_insert : Cond.instanceMethod yX4_insert ∈ gz_ts := gz_go (gz_tb (List.mem_append_left _ (List.mem_of_getElem? (i := 170) rfl))) rfl
theorem we_X4_insert : Cond.selects RX4 yX4_insert yX4_insert ∈ gz_ts := gz_go (gz_tb (List.mem_append_left _ (List.mem_of_getElem? (i := 171) rfl))) rfl
theorem wm_X4_55 : Cond.methodLink RX4 55 yX4_isTask ∈ gz_ts := gz_go (gz_tb (List.mem_append_left _ (List.mem_of_getElem? (i := 173) rfl))) rfl
theorem wi_X4_isTask : Cond.instanceMethod yX4_isTask ∈ gz_ts := gz_go (gz_tb (List.mem_append_left _ (List.mem_of_getElem? (i := 175) rfl))) rfl
theorem wm_X4_62 : Cond.methodLink RX4 62 yX2_open ∈ gz_ts := gz_go (gz_tb (List.mem_append_left _ (List.mem_of_getElem? (i := 177) rfl))) rfl
theorem wi_X2_open : Cond.instanceMethod yX2_open ∈ gz_ts := gz_go (gz_tb (List.mem_append_left _ (List.mem_of_getElem? (i := 178) rfl))) rfl
theorem we_X2_open : Cond.selects RX2 yX2_open yX2_open ∈ gz_ts := gz_go (gz_tb (List.mem_append_left _ (List.mem_of_getElem? (i := 179) rfl))) rfl
theorem wm_X2_22 : Cond.methodLink RX2 22 arraycopyName ∈ gz_ts := gz_go (gz_tb (List.mem_append_left _ (List.mem_of_getElem? (i := 181) rfl))) rfl
theorem ws_arraycopyName : Cond.static arraycopyName ∈ gz_ts := gz_go (gz_tb (List.mem_append_left _ (List.mem_of_getElem? (i := 182) rfl))) rfl
theorem wv_arraycopy : Cond.native arraycopyName ∈ gz_ts := gz_go (gz_tb (List.mem_append_left _ (List.mem_of_getElem? (i := 183) rfl))) rfl
theorem wm_L_20 : Cond.methodLink RL 20 yX4_remove ∈ gz_ts := gz_go (gz_tb (List.mem_append_left _ (List.mem_of_getElem? (i := 184) rfl))) rfl
theorem wi_X4_remove : Cond.instanceMethod yX4_remove ∈ gz_ts := gz_go (gz_tb (List.mem_append_left _ (List.mem_of_getElem? (i := 185) rfl))) rfl
theorem we_X4_remove : Cond.selects RX4 yX4_remove yX4_remove ∈ gz_ts := gz_go (gz_tb (List.mem_append_left _ (List.mem_of_getElem? (i := 186) rfl))) rfl
theorem wm_X4_69 : Cond.methodLink RX4 69 yX2_close ∈ gz_ts := gz_go (gz_tb (List.mem_append_left _ (List.mem_of_getElem? (i := 188) rfl))) rfl
theorem wi_X2_close : Cond.instanceMethod yX2_close ∈ gz_ts := gz_go (gz_tb (List.mem_append_left _ (List.mem_of_getElem? (i := 189) rfl))) rfl
theorem we_X2_close : Cond.selects RX2 yX2_close yX2_close ∈ gz_ts := gz_go (gz_tb (List.mem_append_left _ (List.mem_of_getElem? (i := 190) rfl))) rfl
theorem wm_L_25 : Cond.methodLink RL 25 yX4_extend ∈ gz_ts := gz_go (gz_tb (List.mem_append_left _ (List.mem_of_getElem? (i := 192) rfl))) rfl
theorem wi_X4_extend : Cond.instanceMethod yX4_extend ∈ gz_ts := gz_go (gz_tb (List.mem_append_left _ (List.mem_of_getElem? (i := 193) rfl))) rfl
theorem we_X4_extend : Cond.selects RX4 yX4_extend yX4_extend ∈ gz_ts := gz_go (gz_tb (List.mem_append_left _ (List.mem_of_getElem? (i := 194) rfl))) rfl
theorem wm_L_30 : Cond.methodLink RL 30 yX4_state ∈ gz_ts := gz_go (gz_tb (List.mem_append_left _ (List.mem_of_getElem? (i := 196) rfl))) rfl
theorem wi_X4_state : Cond.instanceMethod yX4_state ∈ gz_ts := gz_go (gz_tb (List.mem_append_left _ (List.mem_of_getElem? (i := 197) rfl))) rfl
theorem we_X4_state : Cond.selects RX4 yX4_state yX4_state ∈ gz_ts := gz_go (gz_tb (List.mem_append_left _ (List.mem_of_getElem? (i := 198) rfl))) rfl
theorem wm_L_35 : Cond.methodLink RL 35 yX4_chunk ∈ gz_ts := gz_go (gz_tb (List.mem_append_left _ (List.mem_of_getElem? (i := 200) rfl))) rfl
theorem wi_X4_chunk : Cond.instanceMethod yX4_chunk ∈ gz_ts := gz_go (gz_tb (List.mem_append_left _ (List.mem_of_getElem? (i := 201) rfl))) rfl
theorem we_X4_chunk : Cond.selects RX4 yX4_chunk yX4_chunk ∈ gz_ts := gz_go (gz_tb (List.mem_append_left _ (List.mem_of_getElem? (i := 202) rfl))) rfl
theorem wm_X4_72 : Cond.methodLink RX4 72 yX2_cut ∈ gz_ts := gz_go (gz_tb (List.mem_append_left _ (List.mem_of_getElem? (i := 204) rfl))) rfl
theorem wi_X2_cut : Cond.instanceMethod yX2_cut ∈ gz_ts := gz_go (gz_tb (List.mem_append_left _ (List.mem_of_getElem? (i := 205) rfl))) rfl
theorem we_X2_cut : Cond.selects RX2 yX2_cut yX2_cut ∈ gz_ts := gz_go (gz_tb (List.mem_append_left _ (List.mem_of_getElem? (i := 206) rfl))) rfl
theorem wm_X2_28 : Cond.methodLink RX2 28 yX2_endsChunk ∈ gz_ts := gz_go (gz_tb (List.mem_append_left _ (List.mem_of_getElem? (i := 208) rfl))) rfl
theorem wi_X2_endsChunk : Cond.instanceMethod yX2_endsChunk ∈ gz_ts := gz_go (gz_tb (List.mem_append_left _ (List.mem_of_getElem? (i := 210) rfl))) rfl
theorem wm_X4_76 : Cond.methodLink RX4 76 yX2_chunkSize ∈ gz_ts := gz_go (gz_tb (List.mem_append_left _ (List.mem_of_getElem? (i := 212) rfl))) rfl
theorem wi_X2_chunkSize : Cond.instanceMethod yX2_chunkSize ∈ gz_ts := gz_go (gz_tb (List.mem_append_left _ (List.mem_of_getElem? (i := 213) rfl))) rfl
theorem we_X2_chunkSize : Cond.selects RX2 yX2_chunkSize yX2_chunkSize ∈ gz_ts := gz_go (gz_tb (List.mem_append_left _ (List.mem_of_getElem? (i := 214) rfl))) rfl
theorem wm_X2_32 : Cond.methodLink RX2 32 yX2_chunkStart ∈ gz_ts := gz_go (gz_tb (List.mem_append_left _ (List.mem_of_getElem? (i := 216) rfl))) rfl
theorem wi_X2_chunkStart : Cond.instanceMethod yX2_chunkStart ∈ gz_ts := gz_go (gz_tb (List.mem_append_left _ (List.mem_of_getElem? (i := 217) rfl))) rfl
theorem we_X2_chunkStart : Cond.selects RX2 yX2_chunkStart yX2_chunkStart ∈ gz_ts := gz_go (gz_tb (List.mem_append_left _ (List.mem_of_getElem? (i := 218) rfl))) rfl
theorem wm_L_39 : Cond.methodLink RL 39 yX4_rescale ∈ gz_ts := gz_go (gz_tb (List.mem_append_left _ (List.mem_of_getElem? (i := 220) rfl))) rfl
theorem wi_X4_rescale : Cond.instanceMethod yX4_rescale ∈ gz_ts := gz_go (gz_tb (List.mem_append_left _ (List.mem_of_getElem? (i := 221) rfl))) rfl
theorem we_X4_rescale : Cond.selects RX4 yX4_rescale yX4_rescale ∈ gz_ts := gz_go (gz_tb (List.mem_append_left _ (List.mem_of_getElem? (i := 222) rfl))) rfl
theorem wm_X4_80 : Cond.methodLink RX4 80 yX4_totalStateBytes ∈ gz_ts := gz_go (gz_tb (List.mem_append_left _ (List.mem_of_getElem? (i := 224) rfl))) rfl
theorem wi_X4_totalStateBytes : Cond.instanceMethod yX4_totalStateBytes ∈ gz_ts := gz_go (gz_tb (List.mem_append_left _ (List.mem_of_getElem? (i := 226) rfl))) rfl
theorem wm_X4_83 : Cond.methodLink RX4 83 yX4_shareStart ∈ gz_ts := gz_go (gz_tb (List.mem_append_left _ (List.mem_of_getElem? (i := 228) rfl))) rfl
theorem ws_X4_shareStart : Cond.static yX4_shareStart ∈ gz_ts := gz_go (gz_tb (List.mem_append_left _ (List.mem_of_getElem? (i := 229) rfl))) rfl
theorem wm_X4_87 : Cond.methodLink RX4 87 yX4_joinStates ∈ gz_ts := gz_go (gz_tb (List.mem_append_left _ (List.mem_of_getElem? (i := 231) rfl))) rfl
theorem wi_X4_joinStates : Cond.instanceMethod yX4_joinStates ∈ gz_ts := gz_go (gz_tb (List.mem_append_left _ (List.mem_of_getElem? (i := 233) rfl))) rfl
theorem wm_X4_225 : Cond.methodLink RX4 225 arraycopyName ∈ gz_ts := gz_go (gz_tb (List.mem_append_left _ (List.mem_of_getElem? (i := 235) rfl))) rfl
theorem wm_X4_90 : Cond.methodLink RX4 90 yX4_becomeTasks ∈ gz_ts := gz_go (gz_tb (List.mem_append_left _ (List.mem_of_getElem? (i := 236) rfl))) rfl
theorem wi_X4_becomeTasks : Cond.instanceMethod yX4_becomeTasks ∈ gz_ts := gz_go (gz_tb (List.mem_append_left _ (List.mem_of_getElem? (i := 238) rfl))) rfl
theorem wm_X4_231 : Cond.methodLink RX4 231 yX1_clear ∈ gz_ts := gz_go (gz_tb (List.mem_append_right _ (List.mem_append_left _ (List.mem_of_getElem? (i := 0) rfl)))) rfl
theorem wi_X1_clear : Cond.instanceMethod yX1_clear ∈ gz_ts := gz_go (gz_tb (List.mem_append_right _ (List.mem_append_left _ (List.mem_of_getElem? (i := 1) rfl)))) rfl
theorem we_X1_clear : Cond.selects RX1 yX1_clear yX1_clear ∈ gz_ts := gz_go (gz_tb (List.mem_append_right _ (List.mem_append_left _ (List.mem_of_getElem? (i := 2) rfl)))) rfl
theorem wm_X4_94 : Cond.methodLink RX4 94 yX2_append ∈ gz_ts := gz_go (gz_tb (List.mem_append_right _ (List.mem_append_left _ (List.mem_of_getElem? (i := 4) rfl)))) rfl
theorem wi_X2_append : Cond.instanceMethod yX2_append ∈ gz_ts := gz_go (gz_tb (List.mem_append_right _ (List.mem_append_left _ (List.mem_of_getElem? (i := 5) rfl)))) rfl
theorem we_X2_append : Cond.selects RX2 yX2_append yX2_append ∈ gz_ts := gz_go (gz_tb (List.mem_append_right _ (List.mem_append_left _ (List.mem_of_getElem? (i := 6) rfl)))) rfl
theorem wm_L_44 : Cond.methodLink RL 44 yX4_mark ∈ gz_ts := gz_go (gz_tb (List.mem_append_right _ (List.mem_append_left _ (List.mem_of_getElem? (i := 8) rfl)))) rfl
theorem wi_X4_mark : Cond.instanceMethod yX4_mark ∈ gz_ts := gz_go (gz_tb (List.mem_append_right _ (List.mem_append_left _ (List.mem_of_getElem? (i := 9) rfl)))) rfl
theorem we_X4_mark : Cond.selects RX4 yX4_mark yX4_mark ∈ gz_ts := gz_go (gz_tb (List.mem_append_right _ (List.mem_append_left _ (List.mem_of_getElem? (i := 10) rfl)))) rfl
theorem wm_X4_98 : Cond.methodLink RX4 98 yX0_begin ∈ gz_ts := gz_go (gz_tb (List.mem_append_right _ (List.mem_append_left _ (List.mem_of_getElem? (i := 12) rfl)))) rfl
theorem wi_X0_begin : Cond.instanceMethod yX0_begin ∈ gz_ts := gz_go (gz_tb (List.mem_append_right _ (List.mem_append_left _ (List.mem_of_getElem? (i := 13) rfl)))) rfl
theorem we_X0_begin : Cond.selects RX0 yX0_begin yX0_begin ∈ gz_ts := gz_go (gz_tb (List.mem_append_right _ (List.mem_append_left _ (List.mem_of_getElem? (i := 14) rfl)))) rfl
theorem wm_X4_101 : Cond.methodLink RX4 101 yX4_storeStates ∈ gz_ts := gz_go (gz_tb (List.mem_append_right _ (List.mem_append_left _ (List.mem_of_getElem? (i := 16) rfl)))) rfl
theorem wi_X4_storeStates : Cond.instanceMethod yX4_storeStates ∈ gz_ts := gz_go (gz_tb (List.mem_append_right _ (List.mem_append_left _ (List.mem_of_getElem? (i := 18) rfl)))) rfl
theorem wm_X4_234 : Cond.methodLink RX4 234 yX3_beginMarking ∈ gz_ts := gz_go (gz_tb (List.mem_append_right _ (List.mem_append_left _ (List.mem_of_getElem? (i := 20) rfl)))) rfl
theorem wi_X3_beginMarking : Cond.instanceMethod yX3_beginMarking ∈ gz_ts := gz_go (gz_tb (List.mem_append_right _ (List.mem_append_left _ (List.mem_of_getElem? (i := 21) rfl)))) rfl
theorem we_X3_beginMarking : Cond.selects RX3 yX3_beginMarking yX3_beginMarking ∈ gz_ts := gz_go (gz_tb (List.mem_append_right _ (List.mem_append_left _ (List.mem_of_getElem? (i := 22) rfl)))) rfl
theorem wm_X4_237 : Cond.methodLink RX4 237 yX4_storeState ∈ gz_ts := gz_go (gz_tb (List.mem_append_right _ (List.mem_append_left _ (List.mem_of_getElem? (i := 24) rfl)))) rfl
theorem wi_X4_storeState : Cond.instanceMethod yX4_storeState ∈ gz_ts := gz_go (gz_tb (List.mem_append_right _ (List.mem_append_left _ (List.mem_of_getElem? (i := 26) rfl)))) rfl
theorem wm_X4_244 : Cond.methodLink RX4 244 yX2_chunkStart ∈ gz_ts := gz_go (gz_tb (List.mem_append_right _ (List.mem_append_left _ (List.mem_of_getElem? (i := 28) rfl)))) rfl
theorem wm_X4_247 : Cond.methodLink RX4 247 yX3_partOf ∈ gz_ts := gz_go (gz_tb (List.mem_append_right _ (List.mem_append_left _ (List.mem_of_getElem? (i := 29) rfl)))) rfl
theorem wi_X3_partOf : Cond.instanceMethod yX3_partOf ∈ gz_ts := gz_go (gz_tb (List.mem_append_right _ (List.mem_append_left _ (List.mem_of_getElem? (i := 30) rfl)))) rfl
theorem we_X3_partOf : Cond.selects RX3 yX3_partOf yX3_partOf ∈ gz_ts := gz_go (gz_tb (List.mem_append_right _ (List.mem_append_left _ (List.mem_of_getElem? (i := 31) rfl)))) rfl
theorem ws_X4_digestOf : Cond.static yX4_digestOf ∈ gz_ts := gz_go (gz_tb (List.mem_append_right _ (List.mem_append_left _ (List.mem_of_getElem? (i := 34) rfl)))) rfl
theorem wm_X3_64 : Cond.methodLink RX3 64 yX3_findPart ∈ gz_ts := gz_go (gz_tb (List.mem_append_right _ (List.mem_append_left _ (List.mem_of_getElem? (i := 36) rfl)))) rfl
theorem wi_X3_findPart : Cond.instanceMethod yX3_findPart ∈ gz_ts := gz_go (gz_tb (List.mem_append_right _ (List.mem_append_left _ (List.mem_of_getElem? (i := 38) rfl)))) rfl
theorem wm_X3_71 : Cond.methodLink RX3 71 yX1_holds ∈ gz_ts := gz_go (gz_tb (List.mem_append_right _ (List.mem_append_left _ (List.mem_of_getElem? (i := 40) rfl)))) rfl
theorem wi_X1_holds : Cond.instanceMethod yX1_holds ∈ gz_ts := gz_go (gz_tb (List.mem_append_right _ (List.mem_append_left _ (List.mem_of_getElem? (i := 41) rfl)))) rfl
theorem we_X1_holds : Cond.selects RX1 yX1_holds yX1_holds ∈ gz_ts := gz_go (gz_tb (List.mem_append_right _ (List.mem_append_left _ (List.mem_of_getElem? (i := 42) rfl)))) rfl
theorem wm_X3_68 : Cond.methodLink RX3 68 yX3_makePart ∈ gz_ts := gz_go (gz_tb (List.mem_append_right _ (List.mem_append_left _ (List.mem_of_getElem? (i := 44) rfl)))) rfl
theorem wi_X3_makePart : Cond.instanceMethod yX3_makePart ∈ gz_ts := gz_go (gz_tb (List.mem_append_right _ (List.mem_append_left _ (List.mem_of_getElem? (i := 46) rfl)))) rfl
theorem wm_X3_75 : Cond.methodLink RX3 75 yX3_leastUnused ∈ gz_ts := gz_go (gz_tb (List.mem_append_right _ (List.mem_append_left _ (List.mem_of_getElem? (i := 48) rfl)))) rfl
theorem wi_X3_leastUnused : Cond.instanceMethod yX3_leastUnused ∈ gz_ts := gz_go (gz_tb (List.mem_append_right _ (List.mem_append_left _ (List.mem_of_getElem? (i := 50) rfl)))) rfl
theorem wm_X3_79 : Cond.methodLink RX3 79 yX1_put ∈ gz_ts := gz_go (gz_tb (List.mem_append_right _ (List.mem_append_left _ (List.mem_of_getElem? (i := 52) rfl)))) rfl
theorem wi_X1_put : Cond.instanceMethod yX1_put ∈ gz_ts := gz_go (gz_tb (List.mem_append_right _ (List.mem_append_left _ (List.mem_of_getElem? (i := 53) rfl)))) rfl
theorem we_X1_put : Cond.selects RX1 yX1_put yX1_put ∈ gz_ts := gz_go (gz_tb (List.mem_append_right _ (List.mem_append_left _ (List.mem_of_getElem? (i := 54) rfl)))) rfl
theorem wm_X1_19 : Cond.methodLink RX1 19 arraycopyName ∈ gz_ts := gz_go (gz_tb (List.mem_append_right _ (List.mem_append_left _ (List.mem_of_getElem? (i := 56) rfl)))) rfl
theorem wm_X4_241 : Cond.methodLink RX4 241 yX3_undoMarking ∈ gz_ts := gz_go (gz_tb (List.mem_append_right _ (List.mem_append_left _ (List.mem_of_getElem? (i := 57) rfl)))) rfl
theorem wi_X3_undoMarking : Cond.instanceMethod yX3_undoMarking ∈ gz_ts := gz_go (gz_tb (List.mem_append_right _ (List.mem_append_left _ (List.mem_of_getElem? (i := 58) rfl)))) rfl
theorem we_X3_undoMarking : Cond.selects RX3 yX3_undoMarking yX3_undoMarking ∈ gz_ts := gz_go (gz_tb (List.mem_append_right _ (List.mem_append_left _ (List.mem_of_getElem? (i := 59) rfl)))) rfl
theorem wm_X3_60 : Cond.methodLink RX3 60 yX3_takeAway ∈ gz_ts := gz_go (gz_tb (List.mem_append_right _ (List.mem_append_left _ (List.mem_of_getElem? (i := 61) rfl)))) rfl
theorem wi_X3_takeAway : Cond.instanceMethod yX3_takeAway ∈ gz_ts := gz_go (gz_tb (List.mem_append_right _ (List.mem_append_left _ (List.mem_of_getElem? (i := 62) rfl)))) rfl
theorem we_X3_takeAway : Cond.selects RX3 yX3_takeAway yX3_takeAway ∈ gz_ts := gz_go (gz_tb (List.mem_append_right _ (List.mem_append_left _ (List.mem_of_getElem? (i := 63) rfl)))) rfl
theorem wm_X4_111 : Cond.methodLink RX4 111 yX4_latestKept ∈ gz_ts := gz_go (gz_tb (List.mem_append_right _ (List.mem_append_left _ (List.mem_of_getElem? (i := 65) rfl)))) rfl
theorem wi_X4_latestKept : Cond.instanceMethod yX4_latestKept ∈ gz_ts := gz_go (gz_tb (List.mem_append_right _ (List.mem_append_left _ (List.mem_of_getElem? (i := 67) rfl)))) rfl
theorem wm_X4_115 : Cond.methodLink RX4 115 yX0_growUpon ∈ gz_ts := gz_go (gz_tb (List.mem_append_right _ (List.mem_append_left _ (List.mem_of_getElem? (i := 69) rfl)))) rfl
theorem wi_X0_growUpon : Cond.instanceMethod yX0_growUpon ∈ gz_ts := gz_go (gz_tb (List.mem_append_right _ (List.mem_append_left _ (List.mem_of_getElem? (i := 70) rfl)))) rfl
theorem we_X0_growUpon : Cond.selects RX0 yX0_growUpon yX0_growUpon ∈ gz_ts := gz_go (gz_tb (List.mem_append_right _ (List.mem_append_left _ (List.mem_of_getElem? (i := 71) rfl)))) rfl
theorem wm_X0_43 : Cond.methodLink RX0 43 yX0_partCount ∈ gz_ts := gz_go (gz_tb (List.mem_append_right _ (List.mem_append_left _ (List.mem_of_getElem? (i := 73) rfl)))) rfl
theorem wi_X0_partCount : Cond.instanceMethod yX0_partCount ∈ gz_ts := gz_go (gz_tb (List.mem_append_right _ (List.mem_append_left _ (List.mem_of_getElem? (i := 74) rfl)))) rfl
theorem we_X0_partCount : Cond.selects RX0 yX0_partCount yX0_partCount ∈ gz_ts := gz_go (gz_tb (List.mem_append_right _ (List.mem_append_left _ (List.mem_of_getElem? (i := 75) rfl)))) rfl
theorem wm_X0_47 : Cond.methodLink RX0 47 yX0_sharedParts ∈ gz_ts := gz_go (gz_tb (List.mem_append_right _ (List.mem_append_left _ (List.mem_of_getElem? (i := 77) rfl)))) rfl
theorem wi_X0_sharedParts : Cond.instanceMethod yX0_sharedParts ∈ gz_ts := gz_go (gz_tb (List.mem_append_right _ (List.mem_append_left _ (List.mem_of_getElem? (i := 79) rfl)))) rfl
theorem wm_X0_51 : Cond.methodLink RX0 51 yJ9_min_7cf53 ∈ gz_ts := gz_go (gz_tb (List.mem_append_right _ (List.mem_append_left _ (List.mem_of_getElem? (i := 81) rfl)))) rfl
theorem ws_J9_min_7cf53 : Cond.static yJ9_min_7cf53 ∈ gz_ts := gz_go (gz_tb (List.mem_append_right _ (List.mem_append_left _ (List.mem_of_getElem? (i := 82) rfl)))) rfl
theorem wm_X4_119 : Cond.methodLink RX4 119 yX4_copyStates ∈ gz_ts := gz_go (gz_tb (List.mem_append_right _ (List.mem_append_left _ (List.mem_of_getElem? (i := 84) rfl)))) rfl
theorem wi_X4_copyStates : Cond.instanceMethod yX4_copyStates ∈ gz_ts := gz_go (gz_tb (List.mem_append_right _ (List.mem_append_left _ (List.mem_of_getElem? (i := 86) rfl)))) rfl
theorem wm_X4_251 : Cond.methodLink RX4 251 yX1_put ∈ gz_ts := gz_go (gz_tb (List.mem_append_right _ (List.mem_append_left _ (List.mem_of_getElem? (i := 88) rfl)))) rfl
theorem wm_L_48 : Cond.methodLink RL 48 yX4_drop ∈ gz_ts := gz_go (gz_tb (List.mem_append_right _ (List.mem_append_left _ (List.mem_of_getElem? (i := 89) rfl)))) rfl
theorem wi_X4_drop : Cond.instanceMethod yX4_drop ∈ gz_ts := gz_go (gz_tb (List.mem_append_right _ (List.mem_append_left _ (List.mem_of_getElem? (i := 90) rfl)))) rfl
theorem we_X4_drop : Cond.selects RX4 yX4_drop yX4_drop ∈ gz_ts := gz_go (gz_tb (List.mem_append_right _ (List.mem_append_left _ (List.mem_of_getElem? (i := 91) rfl)))) rfl
theorem wm_X4_125 : Cond.methodLink RX4 125 yX4_keptMark ∈ gz_ts := gz_go (gz_tb (List.mem_append_right _ (List.mem_append_left _ (List.mem_of_getElem? (i := 93) rfl)))) rfl
theorem wi_X4_keptMark : Cond.instanceMethod yX4_keptMark ∈ gz_ts := gz_go (gz_tb (List.mem_append_right _ (List.mem_append_left _ (List.mem_of_getElem? (i := 95) rfl)))) rfl
theorem wm_X4_152 : Cond.methodLink RX4 152 yX4_heldMark ∈ gz_ts := gz_go (gz_tb (List.mem_append_right _ (List.mem_append_left _ (List.mem_of_getElem? (i := 97) rfl)))) rfl
theorem wi_X4_heldMark : Cond.instanceMethod yX4_heldMark ∈ gz_ts := gz_go (gz_tb (List.mem_append_right _ (List.mem_append_left _ (List.mem_of_getElem? (i := 99) rfl)))) rfl
theorem wm_X4_133 : Cond.methodLink RX4 133 yX4_letGoUnheld ∈ gz_ts := gz_go (gz_tb (List.mem_append_right _ (List.mem_append_left _ (List.mem_of_getElem? (i := 101) rfl)))) rfl
theorem wi_X4_letGoUnheld : Cond.instanceMethod yX4_letGoUnheld ∈ gz_ts := gz_go (gz_tb (List.mem_append_right _ (List.mem_append_left _ (List.mem_of_getElem? (i := 103) rfl)))) rfl
theorem wm_X4_255 : Cond.methodLink RX4 255 yX4_isBase ∈ gz_ts := gz_go (gz_tb (List.mem_append_right _ (List.mem_append_left _ (List.mem_of_getElem? (i := 105) rfl)))) rfl
theorem wi_X4_isBase : Cond.instanceMethod yX4_isBase ∈ gz_ts := gz_go (gz_tb (List.mem_append_right _ (List.mem_append_left _ (List.mem_of_getElem? (i := 107) rfl)))) rfl
theorem wm_X4_258 : Cond.methodLink RX4 258 yX4_letGo ∈ gz_ts := gz_go (gz_tb (List.mem_append_right _ (List.mem_append_left _ (List.mem_of_getElem? (i := 109) rfl)))) rfl
theorem wi_X4_letGo : Cond.instanceMethod yX4_letGo ∈ gz_ts := gz_go (gz_tb (List.mem_append_right _ (List.mem_append_left _ (List.mem_of_getElem? (i := 111) rfl)))) rfl
theorem wm_X4_136 : Cond.methodLink RX4 136 yX4_freeUnnamed ∈ gz_ts := gz_go (gz_tb (List.mem_append_right _ (List.mem_append_left _ (List.mem_of_getElem? (i := 113) rfl)))) rfl
theorem wi_X4_freeUnnamed : Cond.instanceMethod yX4_freeUnnamed ∈ gz_ts := gz_go (gz_tb (List.mem_append_right _ (List.mem_append_left _ (List.mem_of_getElem? (i := 115) rfl)))) rfl
theorem wm_X4_261 : Cond.methodLink RX4 261 yX4_nameKeptParts ∈ gz_ts := gz_go (gz_tb (List.mem_append_right _ (List.mem_append_left _ (List.mem_of_getElem? (i := 117) rfl)))) rfl
theorem wi_X4_nameKeptParts : Cond.instanceMethod yX4_nameKeptParts ∈ gz_ts := gz_go (gz_tb (List.mem_append_right _ (List.mem_append_left _ (List.mem_of_getElem? (i := 119) rfl)))) rfl
theorem wm_X4_267 : Cond.methodLink RX4 267 yX0_addNames ∈ gz_ts := gz_go (gz_tb (List.mem_append_right _ (List.mem_append_left _ (List.mem_of_getElem? (i := 121) rfl)))) rfl
theorem wi_X0_addNames : Cond.instanceMethod yX0_addNames ∈ gz_ts := gz_go (gz_tb (List.mem_append_right _ (List.mem_append_left _ (List.mem_of_getElem? (i := 122) rfl)))) rfl
theorem we_X0_addNames : Cond.selects RX0 yX0_addNames yX0_addNames ∈ gz_ts := gz_go (gz_tb (List.mem_append_right _ (List.mem_append_left _ (List.mem_of_getElem? (i := 123) rfl)))) rfl
theorem wm_X4_177 : Cond.methodLink RX4 177 yX3_isThere ∈ gz_ts := gz_go (gz_tb (List.mem_append_right _ (List.mem_append_left _ (List.mem_of_getElem? (i := 125) rfl)))) rfl
theorem wi_X3_isThere : Cond.instanceMethod yX3_isThere ∈ gz_ts := gz_go (gz_tb (List.mem_append_right _ (List.mem_append_left _ (List.mem_of_getElem? (i := 126) rfl)))) rfl
theorem we_X3_isThere : Cond.selects RX3 yX3_isThere yX3_isThere ∈ gz_ts := gz_go (gz_tb (List.mem_append_right _ (List.mem_append_left _ (List.mem_of_getElem? (i := 127) rfl)))) rfl
theorem wm_X4_264 : Cond.methodLink RX4 264 yX4_freePart ∈ gz_ts := gz_go (gz_tb (List.mem_append_right _ (List.mem_append_left _ (List.mem_of_getElem? (i := 129) rfl)))) rfl
theorem wi_X4_freePart : Cond.instanceMethod yX4_freePart ∈ gz_ts := gz_go (gz_tb (List.mem_append_right _ (List.mem_append_left _ (List.mem_of_getElem? (i := 131) rfl)))) rfl
theorem wm_X4_271 : Cond.methodLink RX4 271 yX3_takeAway ∈ gz_ts := gz_go (gz_tb (List.mem_append_right _ (List.mem_append_left _ (List.mem_of_getElem? (i := 133) rfl)))) rfl
theorem wm_L_52 : Cond.methodLink RL 52 yX4_back ∈ gz_ts := gz_go (gz_tb (List.mem_append_right _ (List.mem_append_left _ (List.mem_of_getElem? (i := 134) rfl)))) rfl
theorem wi_X4_back : Cond.instanceMethod yX4_back ∈ gz_ts := gz_go (gz_tb (List.mem_append_right _ (List.mem_append_left _ (List.mem_of_getElem? (i := 135) rfl)))) rfl
theorem we_X4_back : Cond.selects RX4 yX4_back yX4_back ∈ gz_ts := gz_go (gz_tb (List.mem_append_right _ (List.mem_append_left _ (List.mem_of_getElem? (i := 136) rfl)))) rfl
theorem wm_X4_139 : Cond.methodLink RX4 139 yX4_latestUsable ∈ gz_ts := gz_go (gz_tb (List.mem_append_right _ (List.mem_append_left _ (List.mem_of_getElem? (i := 138) rfl)))) rfl
theorem wi_X4_latestUsable : Cond.instanceMethod yX4_latestUsable ∈ gz_ts := gz_go (gz_tb (List.mem_append_right _ (List.mem_append_left _ (List.mem_of_getElem? (i := 140) rfl)))) rfl
theorem wm_X4_149 : Cond.methodLink RX4 149 yX4_isUsable ∈ gz_ts := gz_go (gz_tb (List.mem_append_right _ (List.mem_append_left _ (List.mem_of_getElem? (i := 142) rfl)))) rfl
theorem wi_X4_isUsable : Cond.instanceMethod yX4_isUsable ∈ gz_ts := gz_go (gz_tb (List.mem_append_right _ (List.mem_append_left _ (List.mem_of_getElem? (i := 144) rfl)))) rfl
theorem wm_X4_277 : Cond.methodLink RX4 277 yX4_isReadable ∈ gz_ts := gz_go (gz_tb (List.mem_append_right _ (List.mem_append_left _ (List.mem_of_getElem? (i := 146) rfl)))) rfl
theorem wi_X4_isReadable : Cond.instanceMethod yX4_isReadable ∈ gz_ts := gz_go (gz_tb (List.mem_append_right _ (List.mem_append_left _ (List.mem_of_getElem? (i := 148) rfl)))) rfl
theorem wm_X4_191 : Cond.methodLink RX4 191 yX3_isSound ∈ gz_ts := gz_go (gz_tb (List.mem_append_right _ (List.mem_append_left _ (List.mem_of_getElem? (i := 150) rfl)))) rfl
theorem wi_X3_isSound : Cond.instanceMethod yX3_isSound ∈ gz_ts := gz_go (gz_tb (List.mem_append_right _ (List.mem_append_left _ (List.mem_of_getElem? (i := 151) rfl)))) rfl
theorem we_X3_isSound : Cond.selects RX3 yX3_isSound yX3_isSound ∈ gz_ts := gz_go (gz_tb (List.mem_append_right _ (List.mem_append_left _ (List.mem_of_getElem? (i := 152) rfl)))) rfl
theorem wm_X4_145 : Cond.methodLink RX4 145 yX4_readState ∈ gz_ts := gz_go (gz_tb (List.mem_append_right _ (List.mem_append_left _ (List.mem_of_getElem? (i := 154) rfl)))) rfl
theorem wi_X4_readState : Cond.instanceMethod yX4_readState ∈ gz_ts := gz_go (gz_tb (List.mem_append_right _ (List.mem_append_left _ (List.mem_of_getElem? (i := 156) rfl)))) rfl
theorem wm_X4_281 : Cond.methodLink RX4 281 yX4_readPart ∈ gz_ts := gz_go (gz_tb (List.mem_append_right _ (List.mem_append_left _ (List.mem_of_getElem? (i := 158) rfl)))) rfl
theorem wi_X4_readPart : Cond.instanceMethod yX4_readPart ∈ gz_ts := gz_go (gz_tb (List.mem_append_right _ (List.mem_append_left _ (List.mem_of_getElem? (i := 160) rfl)))) rfl
theorem wm_L_56 : Cond.methodLink RL 56 yX4_usable ∈ gz_ts := gz_go (gz_tb (List.mem_append_right _ (List.mem_append_left _ (List.mem_of_getElem? (i := 162) rfl)))) rfl
theorem wi_X4_usable : Cond.instanceMethod yX4_usable ∈ gz_ts := gz_go (gz_tb (List.mem_append_right _ (List.mem_append_left _ (List.mem_of_getElem? (i := 163) rfl)))) rfl
theorem we_X4_usable : Cond.selects RX4 yX4_usable yX4_usable ∈ gz_ts := gz_go (gz_tb (List.mem_append_right _ (List.mem_append_left _ (List.mem_of_getElem? (i := 164) rfl)))) rfl
theorem wm_L_60 : Cond.methodLink RL 60 yX4_markTold ∈ gz_ts := gz_go (gz_tb (List.mem_append_right _ (List.mem_append_left _ (List.mem_of_getElem? (i := 166) rfl)))) rfl
theorem wi_X4_markTold : Cond.instanceMethod yX4_markTold ∈ gz_ts := gz_go (gz_tb (List.mem_append_right _ (List.mem_append_left _ (List.mem_of_getElem? (i := 167) rfl)))) rfl
theorem we_X4_markTold : Cond.selects RX4 yX4_markTold yX4_markTold ∈ gz_ts := gz_go (gz_tb (List.mem_append_right _ (List.mem_append_left _ (List.mem_of_getElem? (i := 168) rfl)))) rfl
theorem wm_X4_158 : Cond.methodLink RX4 158 yX0_partCount ∈ gz_ts := gz_go (gz_tb (List.mem_append_right _ (List.mem_append_left _ (List.mem_of_getElem? (i := 170) rfl)))) rfl
theorem wm_L_64 : Cond.methodLink RL 64 yX4_list ∈ gz_ts := gz_go (gz_tb (List.mem_append_right _ (List.mem_append_left _ (List.mem_of_getElem? (i := 171) rfl)))) rfl
theorem wi_X4_list : Cond.instanceMethod yX4_list ∈ gz_ts := gz_go (gz_tb (List.mem_append_right _ (List.mem_append_left _ (List.mem_of_getElem? (i := 172) rfl)))) rfl
theorem we_X4_list : Cond.selects RX4 yX4_list yX4_list ∈ gz_ts := gz_go (gz_tb (List.mem_append_right _ (List.mem_append_left _ (List.mem_of_getElem? (i := 173) rfl)))) rfl
theorem wm_L_68 : Cond.methodLink RL 68 yX4_same ∈ gz_ts := gz_go (gz_tb (List.mem_append_right _ (List.mem_append_left _ (List.mem_of_getElem? (i := 175) rfl)))) rfl
theorem wi_X4_same : Cond.instanceMethod yX4_same ∈ gz_ts := gz_go (gz_tb (List.mem_append_right _ (List.mem_append_left _ (List.mem_of_getElem? (i := 176) rfl)))) rfl
theorem we_X4_same : Cond.selects RX4 yX4_same yX4_same ∈ gz_ts := gz_go (gz_tb (List.mem_append_right _ (List.mem_append_left _ (List.mem_of_getElem? (i := 177) rfl)))) rfl
theorem wm_X4_174 : Cond.methodLink RX4 174 yX0_isAlike ∈ gz_ts := gz_go (gz_tb (List.mem_append_right _ (List.mem_append_left _ (List.mem_of_getElem? (i := 179) rfl)))) rfl
theorem wi_X0_isAlike : Cond.instanceMethod yX0_isAlike ∈ gz_ts := gz_go (gz_tb (List.mem_append_right _ (List.mem_append_left _ (List.mem_of_getElem? (i := 180) rfl)))) rfl
theorem we_X0_isAlike : Cond.selects RX0 yX0_isAlike yX0_isAlike ∈ gz_ts := gz_go (gz_tb (List.mem_append_right _ (List.mem_append_left _ (List.mem_of_getElem? (i := 181) rfl)))) rfl
theorem wm_X0_57 : Cond.methodLink RX0 57 yX0_hasAlikeList ∈ gz_ts := gz_go (gz_tb (List.mem_append_right _ (List.mem_append_left _ (List.mem_of_getElem? (i := 183) rfl)))) rfl
theorem wi_X0_hasAlikeList : Cond.instanceMethod yX0_hasAlikeList ∈ gz_ts := gz_go (gz_tb (List.mem_append_right _ (List.mem_append_left _ (List.mem_of_getElem? (i := 185) rfl)))) rfl
theorem wm_L_73 : Cond.methodLink RL 73 yX4_partTold ∈ gz_ts := gz_go (gz_tb (List.mem_append_right _ (List.mem_append_left _ (List.mem_of_getElem? (i := 187) rfl)))) rfl
theorem wi_X4_partTold : Cond.instanceMethod yX4_partTold ∈ gz_ts := gz_go (gz_tb (List.mem_append_right _ (List.mem_append_left _ (List.mem_of_getElem? (i := 188) rfl)))) rfl
theorem we_X4_partTold : Cond.selects RX4 yX4_partTold yX4_partTold ∈ gz_ts := gz_go (gz_tb (List.mem_append_right _ (List.mem_append_left _ (List.mem_of_getElem? (i := 189) rfl)))) rfl
theorem wm_X4_184 : Cond.methodLink RX4 184 yX4_keptNaming ∈ gz_ts := gz_go (gz_tb (List.mem_append_right _ (List.mem_append_left _ (List.mem_of_getElem? (i := 191) rfl)))) rfl
theorem wi_X4_keptNaming : Cond.instanceMethod yX4_keptNaming ∈ gz_ts := gz_go (gz_tb (List.mem_append_right _ (List.mem_append_left _ (List.mem_of_getElem? (i := 193) rfl)))) rfl
theorem wm_X4_274 : Cond.methodLink RX4 274 yX0_names ∈ gz_ts := gz_go (gz_tb (List.mem_append_right _ (List.mem_append_left _ (List.mem_of_getElem? (i := 195) rfl)))) rfl
theorem wi_X0_names : Cond.instanceMethod yX0_names ∈ gz_ts := gz_go (gz_tb (List.mem_append_right _ (List.mem_append_left _ (List.mem_of_getElem? (i := 196) rfl)))) rfl
theorem we_X0_names : Cond.selects RX0 yX0_names yX0_names ∈ gz_ts := gz_go (gz_tb (List.mem_append_right _ (List.mem_append_left _ (List.mem_of_getElem? (i := 197) rfl)))) rfl
theorem wm_X4_195 : Cond.methodLink RX4 195 yX4_copyCount ∈ gz_ts := gz_go (gz_tb (List.mem_append_right _ (List.mem_append_left _ (List.mem_of_getElem? (i := 199) rfl)))) rfl
theorem wi_X4_copyCount : Cond.instanceMethod yX4_copyCount ∈ gz_ts := gz_go (gz_tb (List.mem_append_right _ (List.mem_append_left _ (List.mem_of_getElem? (i := 201) rfl)))) rfl
theorem wm_L_77 : Cond.methodLink RL 77 yX4_partByte ∈ gz_ts := gz_go (gz_tb (List.mem_append_right _ (List.mem_append_left _ (List.mem_of_getElem? (i := 203) rfl)))) rfl
theorem wi_X4_partByte : Cond.instanceMethod yX4_partByte ∈ gz_ts := gz_go (gz_tb (List.mem_append_right _ (List.mem_append_left _ (List.mem_of_getElem? (i := 204) rfl)))) rfl
theorem we_X4_partByte : Cond.selects RX4 yX4_partByte yX4_partByte ∈ gz_ts := gz_go (gz_tb (List.mem_append_right _ (List.mem_append_left _ (List.mem_of_getElem? (i := 205) rfl)))) rfl
theorem wm_X4_198 : Cond.methodLink RX4 198 yX4_shelfOf ∈ gz_ts := gz_go (gz_tb (List.mem_append_right _ (List.mem_append_left _ (List.mem_of_getElem? (i := 207) rfl)))) rfl
theorem wi_X4_shelfOf : Cond.instanceMethod yX4_shelfOf ∈ gz_ts := gz_go (gz_tb (List.mem_append_right _ (List.mem_append_left _ (List.mem_of_getElem? (i := 209) rfl)))) rfl
theorem wm_X4_202 : Cond.methodLink RX4 202 yX3_hasByte ∈ gz_ts := gz_go (gz_tb (List.mem_append_right _ (List.mem_append_left _ (List.mem_of_getElem? (i := 211) rfl)))) rfl
theorem wi_X3_hasByte : Cond.instanceMethod yX3_hasByte ∈ gz_ts := gz_go (gz_tb (List.mem_append_right _ (List.mem_append_left _ (List.mem_of_getElem? (i := 212) rfl)))) rfl
theorem we_X3_hasByte : Cond.selects RX3 yX3_hasByte yX3_hasByte ∈ gz_ts := gz_go (gz_tb (List.mem_append_right _ (List.mem_append_left _ (List.mem_of_getElem? (i := 213) rfl)))) rfl
theorem wm_X3_52 : Cond.methodLink RX3 52 yX3_isThere ∈ gz_ts := gz_go (gz_tb (List.mem_append_right _ (List.mem_append_left _ (List.mem_of_getElem? (i := 215) rfl)))) rfl
theorem wm_L_81 : Cond.methodLink RL 81 yX4_alter ∈ gz_ts := gz_go (gz_tb (List.mem_append_right _ (List.mem_append_left _ (List.mem_of_getElem? (i := 216) rfl)))) rfl
theorem wi_X4_alter : Cond.instanceMethod yX4_alter ∈ gz_ts := gz_go (gz_tb (List.mem_append_right _ (List.mem_append_left _ (List.mem_of_getElem? (i := 217) rfl)))) rfl
theorem we_X4_alter : Cond.selects RX4 yX4_alter yX4_alter ∈ gz_ts := gz_go (gz_tb (List.mem_append_right _ (List.mem_append_left _ (List.mem_of_getElem? (i := 218) rfl)))) rfl
theorem wm_L_85 : Cond.methodLink RL 85 yX4_lose ∈ gz_ts := gz_go (gz_tb (List.mem_append_right _ (List.mem_append_left _ (List.mem_of_getElem? (i := 220) rfl)))) rfl
theorem wi_X4_lose : Cond.instanceMethod yX4_lose ∈ gz_ts := gz_go (gz_tb (List.mem_append_right _ (List.mem_append_left _ (List.mem_of_getElem? (i := 221) rfl)))) rfl
theorem we_X4_lose : Cond.selects RX4 yX4_lose yX4_lose ∈ gz_ts := gz_go (gz_tb (List.mem_append_right _ (List.mem_append_left _ (List.mem_of_getElem? (i := 222) rfl)))) rfl
theorem wm_L_89 : Cond.methodLink RL 89 yX4_told ∈ gz_ts := gz_go (gz_tb (List.mem_append_right _ (List.mem_append_left _ (List.mem_of_getElem? (i := 224) rfl)))) rfl
theorem wi_X4_told : Cond.instanceMethod yX4_told ∈ gz_ts := gz_go (gz_tb (List.mem_append_right _ (List.mem_append_left _ (List.mem_of_getElem? (i := 225) rfl)))) rfl
theorem we_X4_told : Cond.selects RX4 yX4_told yX4_told ∈ gz_ts := gz_go (gz_tb (List.mem_append_right _ (List.mem_append_left _ (List.mem_of_getElem? (i := 226) rfl)))) rfl
theorem wm_X4_210 : Cond.methodLink RX4 210 yX4_keptCount ∈ gz_ts := gz_go (gz_tb (List.mem_append_right _ (List.mem_append_left _ (List.mem_of_getElem? (i := 228) rfl)))) rfl
theorem wi_X4_keptCount : Cond.instanceMethod yX4_keptCount ∈ gz_ts := gz_go (gz_tb (List.mem_append_right _ (List.mem_append_left _ (List.mem_of_getElem? (i := 230) rfl)))) rfl
theorem wm_X4_219 : Cond.methodLink RX4 219 yX3_brokenCount ∈ gz_ts := gz_go (gz_tb (List.mem_append_right _ (List.mem_append_left _ (List.mem_of_getElem? (i := 232) rfl)))) rfl
theorem wi_X3_brokenCount : Cond.instanceMethod yX3_brokenCount ∈ gz_ts := gz_go (gz_tb (List.mem_append_right _ (List.mem_append_left _ (List.mem_of_getElem? (i := 233) rfl)))) rfl
theorem we_X3_brokenCount : Cond.selects RX3 yX3_brokenCount yX3_brokenCount ∈ gz_ts := gz_go (gz_tb (List.mem_append_right _ (List.mem_append_left _ (List.mem_of_getElem? (i := 234) rfl)))) rfl
theorem wm_X3_56 : Cond.methodLink RX3 56 yX3_isSound ∈ gz_ts := gz_go (gz_tb (List.mem_append_right _ (List.mem_append_left _ (List.mem_of_getElem? (i := 236) rfl)))) rfl
theorem wm_X4_222 : Cond.methodLink RX4 222 yX4_allCopies ∈ gz_ts := gz_go (gz_tb (List.mem_append_right _ (List.mem_append_left _ (List.mem_of_getElem? (i := 237) rfl)))) rfl
theorem wi_X4_allCopies : Cond.instanceMethod yX4_allCopies ∈ gz_ts := gz_go (gz_tb (List.mem_append_right _ (List.mem_append_left _ (List.mem_of_getElem? (i := 239) rfl)))) rfl
theorem wm_L_12 : Cond.methodLink RL 12 yX5_init ∈ gz_ts := gz_go (gz_tb (List.mem_append_right _ (List.mem_append_right _ (List.mem_of_getElem? (i := 3) rfl)))) rfl
theorem wi_X5_init : Cond.instanceMethod yX5_init ∈ gz_ts := gz_go (gz_tb (List.mem_append_right _ (List.mem_append_right _ (List.mem_of_getElem? (i := 4) rfl)))) rfl
theorem wm_X5_1 : Cond.methodLink RX5 1 objectInit ∈ gz_ts := gz_go (gz_tb (List.mem_append_right _ (List.mem_append_right _ (List.mem_of_getElem? (i := 6) rfl)))) rfl
theorem wf_X5_7 : Cond.fieldLink RX5 7 "GrownSnapshotsModel" "tasks" "I" ∈ gz_ts := gz_go (gz_tb (List.mem_append_right _ (List.mem_append_right _ (List.mem_of_getElem? (i := 7) rfl)))) rfl
theorem wf_X5_13 : Cond.fieldLink RX5 13 "GrownSnapshotsModel" "size" "[I" ∈ gz_ts := gz_go (gz_tb (List.mem_append_right _ (List.mem_append_right _ (List.mem_of_getElem? (i := 8) rfl)))) rfl
theorem wf_X5_17 : Cond.fieldLink RX5 17 "GrownSnapshotsModel" "state" "[I" ∈ gz_ts := gz_go (gz_tb (List.mem_append_right _ (List.mem_append_right _ (List.mem_of_getElem? (i := 9) rfl)))) rfl
theorem wf_X5_20 : Cond.fieldLink RX5 20 "GrownSnapshotsModel" "moved" "[I" ∈ gz_ts := gz_go (gz_tb (List.mem_append_right _ (List.mem_append_right _ (List.mem_of_getElem? (i := 10) rfl)))) rfl
theorem wf_X5_23 : Cond.fieldLink RX5 23 "GrownSnapshotsModel" "partSize" "[I" ∈ gz_ts := gz_go (gz_tb (List.mem_append_right _ (List.mem_append_right _ (List.mem_of_getElem? (i := 11) rfl)))) rfl
theorem wf_X5_26 : Cond.fieldLink RX5 26 "GrownSnapshotsModel" "digest" "[I" ∈ gz_ts := gz_go (gz_tb (List.mem_append_right _ (List.mem_append_right _ (List.mem_of_getElem? (i := 12) rfl)))) rfl
theorem wf_X5_29 : Cond.fieldLink RX5 29 "GrownSnapshotsModel" "lost" "[Z" ∈ gz_ts := gz_go (gz_tb (List.mem_append_right _ (List.mem_append_right _ (List.mem_of_getElem? (i := 13) rfl)))) rfl
theorem wf_X5_33 : Cond.fieldLink RX5 33 "GrownSnapshotsModel" "bytes" "[I" ∈ gz_ts := gz_go (gz_tb (List.mem_append_right _ (List.mem_append_right _ (List.mem_of_getElem? (i := 14) rfl)))) rfl
theorem wf_X5_36 : Cond.fieldLink RX5 36 "GrownSnapshotsModel" "copied" "[Z" ∈ gz_ts := gz_go (gz_tb (List.mem_append_right _ (List.mem_append_right _ (List.mem_of_getElem? (i := 15) rfl)))) rfl
theorem wf_X5_39 : Cond.fieldLink RX5 39 "GrownSnapshotsModel" "copy" "[I" ∈ gz_ts := gz_go (gz_tb (List.mem_append_right _ (List.mem_append_right _ (List.mem_of_getElem? (i := 16) rfl)))) rfl
theorem wf_X5_128 : Cond.fieldLink RX5 128 "GrownSnapshotsModel" "next" "I" ∈ gz_ts := gz_go (gz_tb (List.mem_append_right _ (List.mem_append_right _ (List.mem_of_getElem? (i := 17) rfl)))) rfl
theorem wf_X5_42 : Cond.fieldLink RX5 42 "GrownSnapshotsModel" "number" "[I" ∈ gz_ts := gz_go (gz_tb (List.mem_append_right _ (List.mem_append_right _ (List.mem_of_getElem? (i := 18) rfl)))) rfl
theorem wf_X5_45 : Cond.fieldLink RX5 45 "GrownSnapshotsModel" "kept" "[Z" ∈ gz_ts := gz_go (gz_tb (List.mem_append_right _ (List.mem_append_right _ (List.mem_of_getElem? (i := 19) rfl)))) rfl
theorem wf_X5_48 : Cond.fieldLink RX5 48 "GrownSnapshotsModel" "base" "[I" ∈ gz_ts := gz_go (gz_tb (List.mem_append_right _ (List.mem_append_right _ (List.mem_of_getElem? (i := 20) rfl)))) rfl
theorem wf_X5_51 : Cond.fieldLink RX5 51 "GrownSnapshotsModel" "markTasks" "[I" ∈ gz_ts := gz_go (gz_tb (List.mem_append_right _ (List.mem_append_right _ (List.mem_of_getElem? (i := 21) rfl)))) rfl
theorem wf_X5_54 : Cond.fieldLink RX5 54 "GrownSnapshotsModel" "length" "[I" ∈ gz_ts := gz_go (gz_tb (List.mem_append_right _ (List.mem_append_right _ (List.mem_of_getElem? (i := 22) rfl)))) rfl
theorem wf_X5_57 : Cond.fieldLink RX5 57 "GrownSnapshotsModel" "lists" "[I" ∈ gz_ts := gz_go (gz_tb (List.mem_append_right _ (List.mem_append_right _ (List.mem_of_getElem? (i := 23) rfl)))) rfl
theorem wf_X5_60 : Cond.fieldLink RX5 60 "GrownSnapshotsModel" "own" "[I" ∈ gz_ts := gz_go (gz_tb (List.mem_append_right _ (List.mem_append_right _ (List.mem_of_getElem? (i := 24) rfl)))) rfl
theorem wf_X5_63 : Cond.fieldLink RX5 63 "GrownSnapshotsModel" "marked" "[I" ∈ gz_ts := gz_go (gz_tb (List.mem_append_right _ (List.mem_append_right _ (List.mem_of_getElem? (i := 25) rfl)))) rfl
theorem wf_X5_66 : Cond.fieldLink RX5 66 "GrownSnapshotsModel" "fresh" "[I" ∈ gz_ts := gz_go (gz_tb (List.mem_append_right _ (List.mem_append_right _ (List.mem_of_getElem? (i := 26) rfl)))) rfl
theorem wf_X5_69 : Cond.fieldLink RX5 69 "GrownSnapshotsModel" "isNew" "[Z" ∈ gz_ts := gz_go (gz_tb (List.mem_append_right _ (List.mem_append_right _ (List.mem_of_getElem? (i := 27) rfl)))) rfl
theorem wm_L_19 : Cond.methodLink RL 19 yX5_insert ∈ gz_ts := gz_go (gz_tb (List.mem_append_right _ (List.mem_append_right _ (List.mem_of_getElem? (i := 71) rfl)))) rfl
theorem wi_X5_insert : Cond.instanceMethod yX5_insert ∈ gz_ts := gz_go (gz_tb (List.mem_append_right _ (List.mem_append_right _ (List.mem_of_getElem? (i := 72) rfl)))) rfl
theorem we_X5_insert : Cond.selects RX5 yX5_insert yX5_insert ∈ gz_ts := gz_go (gz_tb (List.mem_append_right _ (List.mem_append_right _ (List.mem_of_getElem? (i := 73) rfl)))) rfl
theorem wm_X5_76 : Cond.methodLink RX5 76 yX5_isTask ∈ gz_ts := gz_go (gz_tb (List.mem_append_right _ (List.mem_append_right _ (List.mem_of_getElem? (i := 75) rfl)))) rfl
theorem wi_X5_isTask : Cond.instanceMethod yX5_isTask ∈ gz_ts := gz_go (gz_tb (List.mem_append_right _ (List.mem_append_right _ (List.mem_of_getElem? (i := 77) rfl)))) rfl
theorem wm_X5_72 : Cond.methodLink RX5 72 yX5_in ∈ gz_ts := gz_go (gz_tb (List.mem_append_right _ (List.mem_append_right _ (List.mem_of_getElem? (i := 79) rfl)))) rfl
theorem ws_X5_in : Cond.static yX5_in ∈ gz_ts := gz_go (gz_tb (List.mem_append_right _ (List.mem_append_right _ (List.mem_of_getElem? (i := 80) rfl)))) rfl
theorem wl_X5_80 : Cond.constantLong RX5 80 (255 : Int64) ∈ gz_ts := gz_go (gz_tb (List.mem_append_right _ (List.mem_append_right _ (List.mem_of_getElem? (i := 82) rfl)))) rfl
theorem wm_L_24 : Cond.methodLink RL 24 yX5_remove ∈ gz_ts := gz_go (gz_tb (List.mem_append_right _ (List.mem_append_right _ (List.mem_of_getElem? (i := 83) rfl)))) rfl
theorem wi_X5_remove : Cond.instanceMethod yX5_remove ∈ gz_ts := gz_go (gz_tb (List.mem_append_right _ (List.mem_append_right _ (List.mem_of_getElem? (i := 84) rfl)))) rfl
theorem we_X5_remove : Cond.selects RX5 yX5_remove yX5_remove ∈ gz_ts := gz_go (gz_tb (List.mem_append_right _ (List.mem_append_right _ (List.mem_of_getElem? (i := 85) rfl)))) rfl
theorem wm_L_29 : Cond.methodLink RL 29 yX5_extend ∈ gz_ts := gz_go (gz_tb (List.mem_append_right _ (List.mem_append_right _ (List.mem_of_getElem? (i := 87) rfl)))) rfl
theorem wi_X5_extend : Cond.instanceMethod yX5_extend ∈ gz_ts := gz_go (gz_tb (List.mem_append_right _ (List.mem_append_right _ (List.mem_of_getElem? (i := 88) rfl)))) rfl
theorem we_X5_extend : Cond.selects RX5 yX5_extend yX5_extend ∈ gz_ts := gz_go (gz_tb (List.mem_append_right _ (List.mem_append_right _ (List.mem_of_getElem? (i := 89) rfl)))) rfl
theorem wm_L_34 : Cond.methodLink RL 34 yX5_state ∈ gz_ts := gz_go (gz_tb (List.mem_append_right _ (List.mem_append_right _ (List.mem_of_getElem? (i := 91) rfl)))) rfl
theorem wi_X5_state : Cond.instanceMethod yX5_state ∈ gz_ts := gz_go (gz_tb (List.mem_append_right _ (List.mem_append_right _ (List.mem_of_getElem? (i := 92) rfl)))) rfl
theorem we_X5_state : Cond.selects RX5 yX5_state yX5_state ∈ gz_ts := gz_go (gz_tb (List.mem_append_right _ (List.mem_append_right _ (List.mem_of_getElem? (i := 93) rfl)))) rfl
theorem wm_L_38 : Cond.methodLink RL 38 yX5_chunk ∈ gz_ts := gz_go (gz_tb (List.mem_append_right _ (List.mem_append_right _ (List.mem_of_getElem? (i := 95) rfl)))) rfl
theorem wi_X5_chunk : Cond.instanceMethod yX5_chunk ∈ gz_ts := gz_go (gz_tb (List.mem_append_right _ (List.mem_append_right _ (List.mem_of_getElem? (i := 96) rfl)))) rfl
theorem we_X5_chunk : Cond.selects RX5 yX5_chunk yX5_chunk ∈ gz_ts := gz_go (gz_tb (List.mem_append_right _ (List.mem_append_right _ (List.mem_of_getElem? (i := 97) rfl)))) rfl
theorem wm_X5_82 : Cond.methodLink RX5 82 yX5_chunkFrom ∈ gz_ts := gz_go (gz_tb (List.mem_append_right _ (List.mem_append_right _ (List.mem_of_getElem? (i := 99) rfl)))) rfl
theorem wi_X5_chunkFrom : Cond.instanceMethod yX5_chunkFrom ∈ gz_ts := gz_go (gz_tb (List.mem_append_right _ (List.mem_append_right _ (List.mem_of_getElem? (i := 101) rfl)))) rfl
theorem wm_L_43 : Cond.methodLink RL 43 yX5_rescale ∈ gz_ts := gz_go (gz_tb (List.mem_append_right _ (List.mem_append_right _ (List.mem_of_getElem? (i := 103) rfl)))) rfl
theorem wi_X5_rescale : Cond.instanceMethod yX5_rescale ∈ gz_ts := gz_go (gz_tb (List.mem_append_right _ (List.mem_append_right _ (List.mem_of_getElem? (i := 104) rfl)))) rfl
theorem we_X5_rescale : Cond.selects RX5 yX5_rescale yX5_rescale ∈ gz_ts := gz_go (gz_tb (List.mem_append_right _ (List.mem_append_right _ (List.mem_of_getElem? (i := 105) rfl)))) rfl
theorem wm_X5_86 : Cond.methodLink RX5 86 yX5_become ∈ gz_ts := gz_go (gz_tb (List.mem_append_right _ (List.mem_append_right _ (List.mem_of_getElem? (i := 107) rfl)))) rfl
theorem wi_X5_become : Cond.instanceMethod yX5_become ∈ gz_ts := gz_go (gz_tb (List.mem_append_right _ (List.mem_append_right _ (List.mem_of_getElem? (i := 109) rfl)))) rfl
theorem wm_L_76 : Cond.methodLink RL 76 yX5_partTold ∈ gz_ts := gz_go (gz_tb (List.mem_append_right _ (List.mem_append_right _ (List.mem_of_getElem? (i := 111) rfl)))) rfl
theorem wi_X5_partTold : Cond.instanceMethod yX5_partTold ∈ gz_ts := gz_go (gz_tb (List.mem_append_right _ (List.mem_append_right _ (List.mem_of_getElem? (i := 112) rfl)))) rfl
theorem we_X5_partTold : Cond.selects RX5 yX5_partTold yX5_partTold ∈ gz_ts := gz_go (gz_tb (List.mem_append_right _ (List.mem_append_right _ (List.mem_of_getElem? (i := 113) rfl)))) rfl
theorem wm_X5_90 : Cond.methodLink RX5 90 yX5_isPart ∈ gz_ts := gz_go (gz_tb (List.mem_append_right _ (List.mem_append_right _ (List.mem_of_getElem? (i := 115) rfl)))) rfl
theorem wi_X5_isPart : Cond.instanceMethod yX5_isPart ∈ gz_ts := gz_go (gz_tb (List.mem_append_right _ (List.mem_append_right _ (List.mem_of_getElem? (i := 117) rfl)))) rfl
theorem wm_X5_100 : Cond.methodLink RX5 100 yX5_hasPart ∈ gz_ts := gz_go (gz_tb (List.mem_append_right _ (List.mem_append_right _ (List.mem_of_getElem? (i := 119) rfl)))) rfl
theorem wi_X5_hasPart : Cond.instanceMethod yX5_hasPart ∈ gz_ts := gz_go (gz_tb (List.mem_append_right _ (List.mem_append_right _ (List.mem_of_getElem? (i := 121) rfl)))) rfl
theorem wm_X5_97 : Cond.methodLink RX5 97 yX5_isBroken ∈ gz_ts := gz_go (gz_tb (List.mem_append_right _ (List.mem_append_right _ (List.mem_of_getElem? (i := 123) rfl)))) rfl
theorem wi_X5_isBroken : Cond.instanceMethod yX5_isBroken ∈ gz_ts := gz_go (gz_tb (List.mem_append_right _ (List.mem_append_right _ (List.mem_of_getElem? (i := 125) rfl)))) rfl
theorem wm_L_80 : Cond.methodLink RL 80 yX5_partByte ∈ gz_ts := gz_go (gz_tb (List.mem_append_right _ (List.mem_append_right _ (List.mem_of_getElem? (i := 127) rfl)))) rfl
theorem wi_X5_partByte : Cond.instanceMethod yX5_partByte ∈ gz_ts := gz_go (gz_tb (List.mem_append_right _ (List.mem_append_right _ (List.mem_of_getElem? (i := 128) rfl)))) rfl
theorem we_X5_partByte : Cond.selects RX5 yX5_partByte yX5_partByte ∈ gz_ts := gz_go (gz_tb (List.mem_append_right _ (List.mem_append_right _ (List.mem_of_getElem? (i := 129) rfl)))) rfl
theorem wm_X5_103 : Cond.methodLink RX5 103 yX5_isByte ∈ gz_ts := gz_go (gz_tb (List.mem_append_right _ (List.mem_append_right _ (List.mem_of_getElem? (i := 131) rfl)))) rfl
theorem wi_X5_isByte : Cond.instanceMethod yX5_isByte ∈ gz_ts := gz_go (gz_tb (List.mem_append_right _ (List.mem_append_right _ (List.mem_of_getElem? (i := 133) rfl)))) rfl
theorem wm_L_84 : Cond.methodLink RL 84 yX5_alter ∈ gz_ts := gz_go (gz_tb (List.mem_append_right _ (List.mem_append_right _ (List.mem_of_getElem? (i := 135) rfl)))) rfl
theorem wi_X5_alter : Cond.instanceMethod yX5_alter ∈ gz_ts := gz_go (gz_tb (List.mem_append_right _ (List.mem_append_right _ (List.mem_of_getElem? (i := 136) rfl)))) rfl
theorem we_X5_alter : Cond.selects RX5 yX5_alter yX5_alter ∈ gz_ts := gz_go (gz_tb (List.mem_append_right _ (List.mem_append_right _ (List.mem_of_getElem? (i := 137) rfl)))) rfl
theorem wm_X5_106 : Cond.methodLink RX5 106 yX5_partByte ∈ gz_ts := gz_go (gz_tb (List.mem_append_right _ (List.mem_append_right _ (List.mem_of_getElem? (i := 139) rfl)))) rfl
theorem wm_L_88 : Cond.methodLink RL 88 yX5_lose ∈ gz_ts := gz_go (gz_tb (List.mem_append_right _ (List.mem_append_right _ (List.mem_of_getElem? (i := 140) rfl)))) rfl
theorem wi_X5_lose : Cond.instanceMethod yX5_lose ∈ gz_ts := gz_go (gz_tb (List.mem_append_right _ (List.mem_append_right _ (List.mem_of_getElem? (i := 141) rfl)))) rfl
theorem we_X5_lose : Cond.selects RX5 yX5_lose yX5_lose ∈ gz_ts := gz_go (gz_tb (List.mem_append_right _ (List.mem_append_right _ (List.mem_of_getElem? (i := 142) rfl)))) rfl
theorem wm_L_47 : Cond.methodLink RL 47 yX5_mark ∈ gz_ts := gz_go (gz_tb (List.mem_append_right _ (List.mem_append_right _ (List.mem_of_getElem? (i := 144) rfl)))) rfl
theorem wi_X5_mark : Cond.instanceMethod yX5_mark ∈ gz_ts := gz_go (gz_tb (List.mem_append_right _ (List.mem_append_right _ (List.mem_of_getElem? (i := 145) rfl)))) rfl
theorem we_X5_mark : Cond.selects RX5 yX5_mark yX5_mark ∈ gz_ts := gz_go (gz_tb (List.mem_append_right _ (List.mem_append_right _ (List.mem_of_getElem? (i := 146) rfl)))) rfl
theorem wm_X5_118 : Cond.methodLink RX5 118 yX5_held ∈ gz_ts := gz_go (gz_tb (List.mem_append_right _ (List.mem_append_right _ (List.mem_of_getElem? (i := 148) rfl)))) rfl
theorem wi_X5_held : Cond.instanceMethod yX5_held ∈ gz_ts := gz_go (gz_tb (List.mem_append_right _ (List.mem_append_right _ (List.mem_of_getElem? (i := 150) rfl)))) rfl
theorem wm_X5_122 : Cond.methodLink RX5 122 yX5_partFor ∈ gz_ts := gz_go (gz_tb (List.mem_append_right _ (List.mem_append_right _ (List.mem_of_getElem? (i := 152) rfl)))) rfl
theorem wi_X5_partFor : Cond.instanceMethod yX5_partFor ∈ gz_ts := gz_go (gz_tb (List.mem_append_right _ (List.mem_append_right _ (List.mem_of_getElem? (i := 154) rfl)))) rfl
theorem wm_X5_114 : Cond.methodLink RX5 114 yX5_isChunk ∈ gz_ts := gz_go (gz_tb (List.mem_append_right _ (List.mem_append_right _ (List.mem_of_getElem? (i := 156) rfl)))) rfl
theorem wi_X5_isChunk : Cond.instanceMethod yX5_isChunk ∈ gz_ts := gz_go (gz_tb (List.mem_append_right _ (List.mem_append_right _ (List.mem_of_getElem? (i := 158) rfl)))) rfl
theorem wm_X5_125 : Cond.methodLink RX5 125 yX5_allBytes ∈ gz_ts := gz_go (gz_tb (List.mem_append_right _ (List.mem_append_right _ (List.mem_of_getElem? (i := 160) rfl)))) rfl
theorem wi_X5_allBytes : Cond.instanceMethod yX5_allBytes ∈ gz_ts := gz_go (gz_tb (List.mem_append_right _ (List.mem_append_right _ (List.mem_of_getElem? (i := 162) rfl)))) rfl
theorem wm_X5_131 : Cond.methodLink RX5 131 yX5_latest ∈ gz_ts := gz_go (gz_tb (List.mem_append_right _ (List.mem_append_right _ (List.mem_of_getElem? (i := 164) rfl)))) rfl
theorem wi_X5_latest : Cond.instanceMethod yX5_latest ∈ gz_ts := gz_go (gz_tb (List.mem_append_right _ (List.mem_append_right _ (List.mem_of_getElem? (i := 166) rfl)))) rfl
theorem wm_X5_134 : Cond.methodLink RX5 134 yX5_tells ∈ gz_ts := gz_go (gz_tb (List.mem_append_right _ (List.mem_append_right _ (List.mem_of_getElem? (i := 168) rfl)))) rfl
theorem wi_X5_tells : Cond.instanceMethod yX5_tells ∈ gz_ts := gz_go (gz_tb (List.mem_append_right _ (List.mem_append_right _ (List.mem_of_getElem? (i := 170) rfl)))) rfl
theorem wm_L_51 : Cond.methodLink RL 51 yX5_drop ∈ gz_ts := gz_go (gz_tb (List.mem_append_right _ (List.mem_append_right _ (List.mem_of_getElem? (i := 172) rfl)))) rfl
theorem wi_X5_drop : Cond.instanceMethod yX5_drop ∈ gz_ts := gz_go (gz_tb (List.mem_append_right _ (List.mem_append_right _ (List.mem_of_getElem? (i := 173) rfl)))) rfl
theorem we_X5_drop : Cond.selects RX5 yX5_drop yX5_drop ∈ gz_ts := gz_go (gz_tb (List.mem_append_right _ (List.mem_append_right _ (List.mem_of_getElem? (i := 174) rfl)))) rfl
theorem wm_X5_137 : Cond.methodLink RX5 137 yX5_keptSlot ∈ gz_ts := gz_go (gz_tb (List.mem_append_right _ (List.mem_append_right _ (List.mem_of_getElem? (i := 176) rfl)))) rfl
theorem wi_X5_keptSlot : Cond.instanceMethod yX5_keptSlot ∈ gz_ts := gz_go (gz_tb (List.mem_append_right _ (List.mem_append_right _ (List.mem_of_getElem? (i := 178) rfl)))) rfl
theorem wm_X5_110 : Cond.methodLink RX5 110 yX5_slotOf ∈ gz_ts := gz_go (gz_tb (List.mem_append_right _ (List.mem_append_right _ (List.mem_of_getElem? (i := 180) rfl)))) rfl
theorem wi_X5_slotOf : Cond.instanceMethod yX5_slotOf ∈ gz_ts := gz_go (gz_tb (List.mem_append_right _ (List.mem_append_right _ (List.mem_of_getElem? (i := 182) rfl)))) rfl
theorem wm_L_59 : Cond.methodLink RL 59 yX5_usable ∈ gz_ts := gz_go (gz_tb (List.mem_append_right _ (List.mem_append_right _ (List.mem_of_getElem? (i := 184) rfl)))) rfl
theorem wi_X5_usable : Cond.instanceMethod yX5_usable ∈ gz_ts := gz_go (gz_tb (List.mem_append_right _ (List.mem_append_right _ (List.mem_of_getElem? (i := 185) rfl)))) rfl
theorem we_X5_usable : Cond.selects RX5 yX5_usable yX5_usable ∈ gz_ts := gz_go (gz_tb (List.mem_append_right _ (List.mem_append_right _ (List.mem_of_getElem? (i := 186) rfl)))) rfl
theorem wm_X5_143 : Cond.methodLink RX5 143 yX5_isUsable ∈ gz_ts := gz_go (gz_tb (List.mem_append_right _ (List.mem_append_right _ (List.mem_of_getElem? (i := 188) rfl)))) rfl
theorem wi_X5_isUsable : Cond.instanceMethod yX5_isUsable ∈ gz_ts := gz_go (gz_tb (List.mem_append_right _ (List.mem_append_right _ (List.mem_of_getElem? (i := 190) rfl)))) rfl
theorem wm_X5_140 : Cond.methodLink RX5 140 yX5_isReadable ∈ gz_ts := gz_go (gz_tb (List.mem_append_right _ (List.mem_append_right _ (List.mem_of_getElem? (i := 192) rfl)))) rfl
theorem wi_X5_isReadable : Cond.instanceMethod yX5_isReadable ∈ gz_ts := gz_go (gz_tb (List.mem_append_right _ (List.mem_append_right _ (List.mem_of_getElem? (i := 194) rfl)))) rfl
theorem wm_X5_93 : Cond.methodLink RX5 93 yX5_isGoodCopy ∈ gz_ts := gz_go (gz_tb (List.mem_append_right _ (List.mem_append_right _ (List.mem_of_getElem? (i := 196) rfl)))) rfl
theorem wi_X5_isGoodCopy : Cond.instanceMethod yX5_isGoodCopy ∈ gz_ts := gz_go (gz_tb (List.mem_append_right _ (List.mem_append_right _ (List.mem_of_getElem? (i := 198) rfl)))) rfl
theorem wm_L_55 : Cond.methodLink RL 55 yX5_back ∈ gz_ts := gz_go (gz_tb (List.mem_append_right _ (List.mem_append_right _ (List.mem_of_getElem? (i := 200) rfl)))) rfl
theorem wi_X5_back : Cond.instanceMethod yX5_back ∈ gz_ts := gz_go (gz_tb (List.mem_append_right _ (List.mem_append_right _ (List.mem_of_getElem? (i := 201) rfl)))) rfl
theorem we_X5_back : Cond.selects RX5 yX5_back yX5_back ∈ gz_ts := gz_go (gz_tb (List.mem_append_right _ (List.mem_append_right _ (List.mem_of_getElem? (i := 202) rfl)))) rfl
theorem wm_X5_146 : Cond.methodLink RX5 146 yX5_read ∈ gz_ts := gz_go (gz_tb (List.mem_append_right _ (List.mem_append_right _ (List.mem_of_getElem? (i := 204) rfl)))) rfl
theorem wi_X5_read : Cond.instanceMethod yX5_read ∈ gz_ts := gz_go (gz_tb (List.mem_append_right _ (List.mem_append_right _ (List.mem_of_getElem? (i := 206) rfl)))) rfl
theorem wm_L_63 : Cond.methodLink RL 63 yX5_markTold ∈ gz_ts := gz_go (gz_tb (List.mem_append_right _ (List.mem_append_right _ (List.mem_of_getElem? (i := 208) rfl)))) rfl
theorem wi_X5_markTold : Cond.instanceMethod yX5_markTold ∈ gz_ts := gz_go (gz_tb (List.mem_append_right _ (List.mem_append_right _ (List.mem_of_getElem? (i := 209) rfl)))) rfl
theorem we_X5_markTold : Cond.selects RX5 yX5_markTold yX5_markTold ∈ gz_ts := gz_go (gz_tb (List.mem_append_right _ (List.mem_append_right _ (List.mem_of_getElem? (i := 210) rfl)))) rfl
theorem wm_L_67 : Cond.methodLink RL 67 yX5_list ∈ gz_ts := gz_go (gz_tb (List.mem_append_right _ (List.mem_append_right _ (List.mem_of_getElem? (i := 212) rfl)))) rfl
theorem wi_X5_list : Cond.instanceMethod yX5_list ∈ gz_ts := gz_go (gz_tb (List.mem_append_right _ (List.mem_append_right _ (List.mem_of_getElem? (i := 213) rfl)))) rfl
theorem we_X5_list : Cond.selects RX5 yX5_list yX5_list ∈ gz_ts := gz_go (gz_tb (List.mem_append_right _ (List.mem_append_right _ (List.mem_of_getElem? (i := 214) rfl)))) rfl
theorem wm_L_72 : Cond.methodLink RL 72 yX5_same ∈ gz_ts := gz_go (gz_tb (List.mem_append_right _ (List.mem_append_right _ (List.mem_of_getElem? (i := 216) rfl)))) rfl
theorem wi_X5_same : Cond.instanceMethod yX5_same ∈ gz_ts := gz_go (gz_tb (List.mem_append_right _ (List.mem_append_right _ (List.mem_of_getElem? (i := 217) rfl)))) rfl
theorem we_X5_same : Cond.selects RX5 yX5_same yX5_same ∈ gz_ts := gz_go (gz_tb (List.mem_append_right _ (List.mem_append_right _ (List.mem_of_getElem? (i := 218) rfl)))) rfl
theorem wm_L_92 : Cond.methodLink RL 92 yX5_told ∈ gz_ts := gz_go (gz_tb (List.mem_append_right _ (List.mem_append_right _ (List.mem_of_getElem? (i := 220) rfl)))) rfl
theorem wi_X5_told : Cond.instanceMethod yX5_told ∈ gz_ts := gz_go (gz_tb (List.mem_append_right _ (List.mem_append_right _ (List.mem_of_getElem? (i := 221) rfl)))) rfl
theorem we_X5_told : Cond.selects RX5 yX5_told yX5_told ∈ gz_ts := gz_go (gz_tb (List.mem_append_right _ (List.mem_append_right _ (List.mem_of_getElem? (i := 222) rfl)))) rfl
theorem wl_L_13 : Cond.constantLong RL 13 (4294967295 : Int64) ∈ gz_ts := gz_go (gz_tb (List.mem_append_right _ (List.mem_append_right _ (List.mem_of_getElem? (i := 224) rfl)))) rfl
theorem we_X4_isTask : Cond.selects RX4 yX4_isTask yX4_isTask ∈ gz_ts := gz_go (gz_ps (q := (yX4_isTask, 9)) (List.mem_append_left _ (List.mem_of_getElem? (i := 0) rfl))) rfl
theorem we_X2_endsChunk : Cond.selects RX2 yX2_endsChunk yX2_endsChunk ∈ gz_ts := gz_go (gz_ps (q := (yX2_endsChunk, 3)) (List.mem_append_left _ (List.mem_of_getElem? (i := 1) rfl))) rfl
theorem we_X4_totalStateBytes : Cond.selects RX4 yX4_totalStateBytes yX4_totalStateBytes ∈ gz_ts := gz_go (gz_ps (q := (yX4_totalStateBytes, 9)) (List.mem_append_left _ (List.mem_of_getElem? (i := 2) rfl))) rfl
theorem we_X4_joinStates : Cond.selects RX4 yX4_joinStates yX4_joinStates ∈ gz_ts := gz_go (gz_ps (q := (yX4_joinStates, 9)) (List.mem_append_left _ (List.mem_of_getElem? (i := 3) rfl))) rfl
theorem we_X4_becomeTasks : Cond.selects RX4 yX4_becomeTasks yX4_becomeTasks ∈ gz_ts := gz_go (gz_ps (q := (yX4_becomeTasks, 9)) (List.mem_append_left _ (List.mem_of_getElem? (i := 4) rfl))) rfl
theorem we_X4_storeStates : Cond.selects RX4 yX4_storeStates yX4_storeStates ∈ gz_ts := gz_go (gz_ps (q := (yX4_storeStates, 9)) (List.mem_append_left _ (List.mem_of_getElem? (i := 5) rfl))) rfl
theorem we_X4_storeState : Cond.selects RX4 yX4_storeState yX4_storeState ∈ gz_ts := gz_go (gz_ps (q := (yX4_storeState, 9)) (List.mem_append_left _ (List.mem_of_getElem? (i := 6) rfl))) rfl
theorem we_X3_findPart : Cond.selects RX3 yX3_findPart yX3_findPart ∈ gz_ts := gz_go (gz_ps (q := (yX3_findPart, 8)) (List.mem_append_left _ (List.mem_of_getElem? (i := 7) rfl))) rfl
theorem we_X3_makePart : Cond.selects RX3 yX3_makePart yX3_makePart ∈ gz_ts := gz_go (gz_ps (q := (yX3_makePart, 8)) (List.mem_append_left _ (List.mem_of_getElem? (i := 8) rfl))) rfl
theorem we_X3_leastUnused : Cond.selects RX3 yX3_leastUnused yX3_leastUnused ∈ gz_ts := gz_go (gz_ps (q := (yX3_leastUnused, 8)) (List.mem_append_left _ (List.mem_of_getElem? (i := 9) rfl))) rfl
theorem we_X4_latestKept : Cond.selects RX4 yX4_latestKept yX4_latestKept ∈ gz_ts := gz_go (gz_ps (q := (yX4_latestKept, 9)) (List.mem_append_left _ (List.mem_of_getElem? (i := 10) rfl))) rfl
theorem we_X0_sharedParts : Cond.selects RX0 yX0_sharedParts yX0_sharedParts ∈ gz_ts := gz_go (gz_ps (q := (yX0_sharedParts, 9)) (List.mem_append_left _ (List.mem_of_getElem? (i := 11) rfl))) rfl
theorem we_X4_copyStates : Cond.selects RX4 yX4_copyStates yX4_copyStates ∈ gz_ts := gz_go (gz_ps (q := (yX4_copyStates, 9)) (List.mem_append_left _ (List.mem_of_getElem? (i := 12) rfl))) rfl
theorem we_X4_keptMark : Cond.selects RX4 yX4_keptMark yX4_keptMark ∈ gz_ts := gz_go (gz_ps (q := (yX4_keptMark, 9)) (List.mem_append_left _ (List.mem_of_getElem? (i := 13) rfl))) rfl
theorem we_X4_heldMark : Cond.selects RX4 yX4_heldMark yX4_heldMark ∈ gz_ts := gz_go (gz_ps (q := (yX4_heldMark, 9)) (List.mem_append_left _ (List.mem_of_getElem? (i := 14) rfl))) rfl
theorem we_X4_letGoUnheld : Cond.selects RX4 yX4_letGoUnheld yX4_letGoUnheld ∈ gz_ts := gz_go (gz_ps (q := (yX4_letGoUnheld, 9)) (List.mem_append_left _ (List.mem_of_getElem? (i := 15) rfl))) rfl
theorem we_X4_isBase : Cond.selects RX4 yX4_isBase yX4_isBase ∈ gz_ts := gz_go (gz_ps (q := (yX4_isBase, 9)) (List.mem_append_right _ (List.mem_append_left _ (List.mem_of_getElem? (i := 0) rfl)))) rfl
theorem we_X4_letGo : Cond.selects RX4 yX4_letGo yX4_letGo ∈ gz_ts := gz_go (gz_ps (q := (yX4_letGo, 9)) (List.mem_append_right _ (List.mem_append_left _ (List.mem_of_getElem? (i := 1) rfl)))) rfl
theorem we_X4_freeUnnamed : Cond.selects RX4 yX4_freeUnnamed yX4_freeUnnamed ∈ gz_ts := gz_go (gz_ps (q := (yX4_freeUnnamed, 9)) (List.mem_append_right _ (List.mem_append_left _ (List.mem_of_getElem? (i := 2) rfl)))) rfl
theorem we_X4_nameKeptParts : Cond.selects RX4 yX4_nameKeptParts yX4_nameKeptParts ∈ gz_ts := gz_go (gz_ps (q := (yX4_nameKeptParts, 9)) (List.mem_append_right _ (List.mem_append_left _ (List.mem_of_getElem? (i := 3) rfl)))) rfl
theorem we_X4_freePart : Cond.selects RX4 yX4_freePart yX4_freePart ∈ gz_ts := gz_go (gz_ps (q := (yX4_freePart, 9)) (List.mem_append_right _ (List.mem_append_left _ (List.mem_of_getElem? (i := 4) rfl)))) rfl
theorem we_X4_latestUsable : Cond.selects RX4 yX4_latestUsable yX4_latestUsable ∈ gz_ts := gz_go (gz_ps (q := (yX4_latestUsable, 9)) (List.mem_append_right _ (List.mem_append_left _ (List.mem_of_getElem? (i := 5) rfl)))) rfl
theorem we_X4_isUsable : Cond.selects RX4 yX4_isUsable yX4_isUsable ∈ gz_ts := gz_go (gz_ps (q := (yX4_isUsable, 9)) (List.mem_append_right _ (List.mem_append_left _ (List.mem_of_getElem? (i := 6) rfl)))) rfl
theorem we_X4_isReadable : Cond.selects RX4 yX4_isReadable yX4_isReadable ∈ gz_ts := gz_go (gz_ps (q := (yX4_isReadable, 9)) (List.mem_append_right _ (List.mem_append_left _ (List.mem_of_getElem? (i := 7) rfl)))) rfl
theorem we_X4_readState : Cond.selects RX4 yX4_readState yX4_readState ∈ gz_ts := gz_go (gz_ps (q := (yX4_readState, 9)) (List.mem_append_right _ (List.mem_append_left _ (List.mem_of_getElem? (i := 8) rfl)))) rfl
theorem we_X4_readPart : Cond.selects RX4 yX4_readPart yX4_readPart ∈ gz_ts := gz_go (gz_ps (q := (yX4_readPart, 9)) (List.mem_append_right _ (List.mem_append_left _ (List.mem_of_getElem? (i := 9) rfl)))) rfl
theorem we_X0_hasAlikeList : Cond.selects RX0 yX0_hasAlikeList yX0_hasAlikeList ∈ gz_ts := gz_go (gz_ps (q := (yX0_hasAlikeList, 9)) (List.mem_append_right _ (List.mem_append_left _ (List.mem_of_getElem? (i := 10) rfl)))) rfl
theorem we_X4_keptNaming : Cond.selects RX4 yX4_keptNaming yX4_keptNaming ∈ gz_ts := gz_go (gz_ps (q := (yX4_keptNaming, 9)) (List.mem_append_right _ (List.mem_append_left _ (List.mem_of_getElem? (i := 11) rfl)))) rfl
theorem we_X4_copyCount : Cond.selects RX4 yX4_copyCount yX4_copyCount ∈ gz_ts := gz_go (gz_ps (q := (yX4_copyCount, 9)) (List.mem_append_right _ (List.mem_append_left _ (List.mem_of_getElem? (i := 12) rfl)))) rfl
theorem we_X4_shelfOf : Cond.selects RX4 yX4_shelfOf yX4_shelfOf ∈ gz_ts := gz_go (gz_ps (q := (yX4_shelfOf, 9)) (List.mem_append_right _ (List.mem_append_left _ (List.mem_of_getElem? (i := 13) rfl)))) rfl
theorem we_X4_keptCount : Cond.selects RX4 yX4_keptCount yX4_keptCount ∈ gz_ts := gz_go (gz_ps (q := (yX4_keptCount, 9)) (List.mem_append_right _ (List.mem_append_left _ (List.mem_of_getElem? (i := 14) rfl)))) rfl
theorem we_X4_allCopies : Cond.selects RX4 yX4_allCopies yX4_allCopies ∈ gz_ts := gz_go (gz_ps (q := (yX4_allCopies, 9)) (List.mem_append_right _ (List.mem_append_left _ (List.mem_of_getElem? (i := 15) rfl)))) rfl
theorem we_X5_isTask : Cond.selects RX5 yX5_isTask yX5_isTask ∈ gz_ts := gz_go (gz_ps (q := (yX5_isTask, 21)) (List.mem_append_right _ (List.mem_append_right _ (List.mem_append_left _ (List.mem_of_getElem? (i := 0) rfl))))) rfl
theorem we_X5_chunkFrom : Cond.selects RX5 yX5_chunkFrom yX5_chunkFrom ∈ gz_ts := gz_go (gz_ps (q := (yX5_chunkFrom, 21)) (List.mem_append_right _ (List.mem_append_right _ (List.mem_append_left _ (List.mem_of_getElem? (i := 1) rfl))))) rfl
theorem we_X5_become : Cond.selects RX5 yX5_become yX5_become ∈ gz_ts := gz_go (gz_ps (q := (yX5_become, 21)) (List.mem_append_right _ (List.mem_append_right _ (List.mem_append_left _ (List.mem_of_getElem? (i := 2) rfl))))) rfl
theorem we_X5_isPart : Cond.selects RX5 yX5_isPart yX5_isPart ∈ gz_ts := gz_go (gz_ps (q := (yX5_isPart, 21)) (List.mem_append_right _ (List.mem_append_right _ (List.mem_append_left _ (List.mem_of_getElem? (i := 3) rfl))))) rfl
theorem we_X5_hasPart : Cond.selects RX5 yX5_hasPart yX5_hasPart ∈ gz_ts := gz_go (gz_ps (q := (yX5_hasPart, 21)) (List.mem_append_right _ (List.mem_append_right _ (List.mem_append_left _ (List.mem_of_getElem? (i := 4) rfl))))) rfl
theorem we_X5_isBroken : Cond.selects RX5 yX5_isBroken yX5_isBroken ∈ gz_ts := gz_go (gz_ps (q := (yX5_isBroken, 21)) (List.mem_append_right _ (List.mem_append_right _ (List.mem_append_left _ (List.mem_of_getElem? (i := 5) rfl))))) rfl
theorem we_X5_isByte : Cond.selects RX5 yX5_isByte yX5_isByte ∈ gz_ts := gz_go (gz_ps (q := (yX5_isByte, 21)) (List.mem_append_right _ (List.mem_append_right _ (List.mem_append_left _ (List.mem_of_getElem? (i := 6) rfl))))) rfl
theorem we_X5_held : Cond.selects RX5 yX5_held yX5_held ∈ gz_ts := gz_go (gz_ps (q := (yX5_held, 21)) (List.mem_append_right _ (List.mem_append_right _ (List.mem_append_left _ (List.mem_of_getElem? (i := 7) rfl))))) rfl
theorem we_X5_partFor : Cond.selects RX5 yX5_partFor yX5_partFor ∈ gz_ts := gz_go (gz_ps (q := (yX5_partFor, 21)) (List.mem_append_right _ (List.mem_append_right _ (List.mem_append_left _ (List.mem_of_getElem? (i := 8) rfl))))) rfl
theorem we_X5_isChunk : Cond.selects RX5 yX5_isChunk yX5_isChunk ∈ gz_ts := gz_go (gz_ps (q := (yX5_isChunk, 21)) (List.mem_append_right _ (List.mem_append_right _ (List.mem_append_left _ (List.mem_of_getElem? (i := 9) rfl))))) rfl
theorem we_X5_allBytes : Cond.selects RX5 yX5_allBytes yX5_allBytes ∈ gz_ts := gz_go (gz_ps (q := (yX5_allBytes, 21)) (List.mem_append_right _ (List.mem_append_right _ (List.mem_append_left _ (List.mem_of_getElem? (i := 10) rfl))))) rfl
theorem we_X5_latest : Cond.selects RX5 yX5_latest yX5_latest ∈ gz_ts := gz_go (gz_ps (q := (yX5_latest, 21)) (List.mem_append_right _ (List.mem_append_right _ (List.mem_append_left _ (List.mem_of_getElem? (i := 11) rfl))))) rfl
theorem we_X5_tells : Cond.selects RX5 yX5_tells yX5_tells ∈ gz_ts := gz_go (gz_ps (q := (yX5_tells, 21)) (List.mem_append_right _ (List.mem_append_right _ (List.mem_append_left _ (List.mem_of_getElem? (i := 12) rfl))))) rfl
theorem we_X5_keptSlot : Cond.selects RX5 yX5_keptSlot yX5_keptSlot ∈ gz_ts := gz_go (gz_ps (q := (yX5_keptSlot, 21)) (List.mem_append_right _ (List.mem_append_right _ (List.mem_append_left _ (List.mem_of_getElem? (i := 13) rfl))))) rfl
theorem we_X5_slotOf : Cond.selects RX5 yX5_slotOf yX5_slotOf ∈ gz_ts := gz_go (gz_ps (q := (yX5_slotOf, 21)) (List.mem_append_right _ (List.mem_append_right _ (List.mem_append_left _ (List.mem_of_getElem? (i := 14) rfl))))) rfl
theorem we_X5_isUsable : Cond.selects RX5 yX5_isUsable yX5_isUsable ∈ gz_ts := gz_go (gz_ps (q := (yX5_isUsable, 21)) (List.mem_append_right _ (List.mem_append_right _ (List.mem_append_left _ (List.mem_of_getElem? (i := 15) rfl))))) rfl
theorem we_X5_isReadable : Cond.selects RX5 yX5_isReadable yX5_isReadable ∈ gz_ts := gz_go (gz_ps (q := (yX5_isReadable, 21)) (List.mem_append_right _ (List.mem_append_right _ (List.mem_append_right _ (List.mem_of_getElem? (i := 0) rfl))))) rfl
theorem we_X5_isGoodCopy : Cond.selects RX5 yX5_isGoodCopy yX5_isGoodCopy ∈ gz_ts := gz_go (gz_ps (q := (yX5_isGoodCopy, 21)) (List.mem_append_right _ (List.mem_append_right _ (List.mem_append_right _ (List.mem_of_getElem? (i := 1) rfl))))) rfl
theorem we_X5_read : Cond.selects RX5 yX5_read yX5_read ∈ gz_ts := gz_go (gz_ps (q := (yX5_read, 21)) (List.mem_append_right _ (List.mem_append_right _ (List.mem_append_right _ (List.mem_of_getElem? (i := 2) rfl))))) rfl
theorem wc_X4_init : Cond.code yX4_init cX4_init 2 none ∈ gz_ts := gz_go (gz_tb (List.mem_append_left _ (List.mem_of_getElem? (i := 13) rfl))) rfl
theorem wc_X3_init : Cond.code yX3_init cX3_init 1 none ∈ gz_ts := gz_go (gz_tb (List.mem_append_left _ (List.mem_of_getElem? (i := 25) rfl))) rfl
theorem wc_X1_init : Cond.code yX1_init cX1_init 1 none ∈ gz_ts := gz_go (gz_tb (List.mem_append_left _ (List.mem_of_getElem? (i := 31) rfl))) rfl
theorem wc_X2_init : Cond.code yX2_init cX2_init 1 none ∈ gz_ts := gz_go (gz_tb (List.mem_append_left _ (List.mem_of_getElem? (i := 82) rfl))) rfl
theorem wc_X0_init : Cond.code yX0_init cX0_init 1 none ∈ gz_ts := gz_go (gz_tb (List.mem_append_left _ (List.mem_of_getElem? (i := 100) rfl))) rfl
theorem wc_X4_insert : Cond.code yX4_insert cX4_insert 8 (some .int) ∈ gz_ts := gz_go (gz_tb (List.mem_append_left _ (List.mem_of_getElem? (i := 172) rfl))) rfl
theorem wc_X4_isTask : Cond.code yX4_isTask cX4_isTask 2 (some .boolean) ∈ gz_ts := gz_go (gz_tb (List.mem_append_left _ (List.mem_of_getElem? (i := 176) rfl))) rfl
theorem wc_X2_open : Cond.code yX2_open cX2_open 3 none ∈ gz_ts := gz_go (gz_tb (List.mem_append_left _ (List.mem_of_getElem? (i := 180) rfl))) rfl
theorem wc_X4_remove : Cond.code yX4_remove cX4_remove 5 (some .int) ∈ gz_ts := gz_go (gz_tb (List.mem_append_left _ (List.mem_of_getElem? (i := 187) rfl))) rfl
theorem wc_X2_close : Cond.code yX2_close cX2_close 3 none ∈ gz_ts := gz_go (gz_tb (List.mem_append_left _ (List.mem_of_getElem? (i := 191) rfl))) rfl
theorem wc_X4_extend : Cond.code yX4_extend cX4_extend 8 (some .int) ∈ gz_ts := gz_go (gz_tb (List.mem_append_left _ (List.mem_of_getElem? (i := 195) rfl))) rfl
theorem wc_X4_state : Cond.code yX4_state cX4_state 3 (some .int) ∈ gz_ts := gz_go (gz_tb (List.mem_append_left _ (List.mem_of_getElem? (i := 199) rfl))) rfl
theorem wc_X4_chunk : Cond.code yX4_chunk cX4_chunk 5 (some .int) ∈ gz_ts := gz_go (gz_tb (List.mem_append_left _ (List.mem_of_getElem? (i := 203) rfl))) rfl
theorem wc_X2_cut : Cond.code yX2_cut cX2_cut 4 (some .int) ∈ gz_ts := gz_go (gz_tb (List.mem_append_left _ (List.mem_of_getElem? (i := 207) rfl))) rfl
theorem wc_X2_endsChunk : Cond.code yX2_endsChunk cX2_endsChunk 3 (some .boolean) ∈ gz_ts := gz_go (gz_tb (List.mem_append_left _ (List.mem_of_getElem? (i := 211) rfl))) rfl
theorem wc_X2_chunkSize : Cond.code yX2_chunkSize cX2_chunkSize 2 (some .int) ∈ gz_ts := gz_go (gz_tb (List.mem_append_left _ (List.mem_of_getElem? (i := 215) rfl))) rfl
theorem wc_X2_chunkStart : Cond.code yX2_chunkStart cX2_chunkStart 2 (some .int) ∈ gz_ts := gz_go (gz_tb (List.mem_append_left _ (List.mem_of_getElem? (i := 219) rfl))) rfl
theorem wc_X4_rescale : Cond.code yX4_rescale cX4_rescale 6 (some .int) ∈ gz_ts := gz_go (gz_tb (List.mem_append_left _ (List.mem_of_getElem? (i := 223) rfl))) rfl
theorem wc_X4_totalStateBytes : Cond.code yX4_totalStateBytes cX4_totalStateBytes 3 (some .int) ∈ gz_ts := gz_go (gz_tb (List.mem_append_left _ (List.mem_of_getElem? (i := 227) rfl))) rfl
theorem wc_X4_shareStart : Cond.code yX4_shareStart cX4_shareStart 3 (some .int) ∈ gz_ts := gz_go (gz_tb (List.mem_append_left _ (List.mem_of_getElem? (i := 230) rfl))) rfl
theorem wc_X4_joinStates : Cond.code yX4_joinStates cX4_joinStates 3 none ∈ gz_ts := gz_go (gz_tb (List.mem_append_left _ (List.mem_of_getElem? (i := 234) rfl))) rfl
theorem wc_X4_becomeTasks : Cond.code yX4_becomeTasks cX4_becomeTasks 3 none ∈ gz_ts := gz_go (gz_tb (List.mem_append_left _ (List.mem_of_getElem? (i := 239) rfl))) rfl
theorem wc_X1_clear : Cond.code yX1_clear cX1_clear 2 none ∈ gz_ts := gz_go (gz_tb (List.mem_append_right _ (List.mem_append_left _ (List.mem_of_getElem? (i := 3) rfl)))) rfl
theorem wc_X2_append : Cond.code yX2_append cX2_append 4 none ∈ gz_ts := gz_go (gz_tb (List.mem_append_right _ (List.mem_append_left _ (List.mem_of_getElem? (i := 7) rfl)))) rfl
theorem wc_X4_mark : Cond.code yX4_mark cX4_mark 3 (some .int) ∈ gz_ts := gz_go (gz_tb (List.mem_append_right _ (List.mem_append_left _ (List.mem_of_getElem? (i := 11) rfl)))) rfl
theorem wc_X0_begin : Cond.code yX0_begin cX0_begin 3 none ∈ gz_ts := gz_go (gz_tb (List.mem_append_right _ (List.mem_append_left _ (List.mem_of_getElem? (i := 15) rfl)))) rfl
theorem wc_X4_storeStates : Cond.code yX4_storeStates cX4_storeStates 3 (some .boolean) ∈ gz_ts := gz_go (gz_tb (List.mem_append_right _ (List.mem_append_left _ (List.mem_of_getElem? (i := 19) rfl)))) rfl
theorem wc_X3_beginMarking : Cond.code yX3_beginMarking cX3_beginMarking 1 none ∈ gz_ts := gz_go (gz_tb (List.mem_append_right _ (List.mem_append_left _ (List.mem_of_getElem? (i := 23) rfl)))) rfl
theorem wc_X4_storeState : Cond.code yX4_storeState cX4_storeState 7 (some .boolean) ∈ gz_ts := gz_go (gz_tb (List.mem_append_right _ (List.mem_append_left _ (List.mem_of_getElem? (i := 27) rfl)))) rfl
theorem wc_X3_partOf : Cond.code yX3_partOf cX3_partOf 6 (some .int) ∈ gz_ts := gz_go (gz_tb (List.mem_append_right _ (List.mem_append_left _ (List.mem_of_getElem? (i := 32) rfl)))) rfl
theorem wc_X4_digestOf : Cond.code yX4_digestOf cX4_digestOf 5 (some .int) ∈ gz_ts := gz_go (gz_tb (List.mem_append_right _ (List.mem_append_left _ (List.mem_of_getElem? (i := 35) rfl)))) rfl
theorem wc_X3_findPart : Cond.code yX3_findPart cX3_findPart 6 (some .int) ∈ gz_ts := gz_go (gz_tb (List.mem_append_right _ (List.mem_append_left _ (List.mem_of_getElem? (i := 39) rfl)))) rfl
theorem wc_X1_holds : Cond.code yX1_holds cX1_holds 6 (some .boolean) ∈ gz_ts := gz_go (gz_tb (List.mem_append_right _ (List.mem_append_left _ (List.mem_of_getElem? (i := 43) rfl)))) rfl
theorem wc_X3_makePart : Cond.code yX3_makePart cX3_makePart 6 (some .int) ∈ gz_ts := gz_go (gz_tb (List.mem_append_right _ (List.mem_append_left _ (List.mem_of_getElem? (i := 47) rfl)))) rfl
theorem wc_X3_leastUnused : Cond.code yX3_leastUnused cX3_leastUnused 2 (some .int) ∈ gz_ts := gz_go (gz_tb (List.mem_append_right _ (List.mem_append_left _ (List.mem_of_getElem? (i := 51) rfl)))) rfl
theorem wc_X1_put : Cond.code yX1_put cX1_put 5 none ∈ gz_ts := gz_go (gz_tb (List.mem_append_right _ (List.mem_append_left _ (List.mem_of_getElem? (i := 55) rfl)))) rfl
theorem wc_X3_undoMarking : Cond.code yX3_undoMarking cX3_undoMarking 2 none ∈ gz_ts := gz_go (gz_tb (List.mem_append_right _ (List.mem_append_left _ (List.mem_of_getElem? (i := 60) rfl)))) rfl
theorem wc_X3_takeAway : Cond.code yX3_takeAway cX3_takeAway 2 none ∈ gz_ts := gz_go (gz_tb (List.mem_append_right _ (List.mem_append_left _ (List.mem_of_getElem? (i := 64) rfl)))) rfl
theorem wc_X4_latestKept : Cond.code yX4_latestKept cX4_latestKept 2 (some (.object "GrownSnapshots$Mark")) ∈ gz_ts := gz_go (gz_tb (List.mem_append_right _ (List.mem_append_left _ (List.mem_of_getElem? (i := 68) rfl)))) rfl
theorem wc_X0_growUpon : Cond.code yX0_growUpon cX0_growUpon 3 none ∈ gz_ts := gz_go (gz_tb (List.mem_append_right _ (List.mem_append_left _ (List.mem_of_getElem? (i := 72) rfl)))) rfl
theorem wc_X0_partCount : Cond.code yX0_partCount cX0_partCount 3 (some .int) ∈ gz_ts := gz_go (gz_tb (List.mem_append_right _ (List.mem_append_left _ (List.mem_of_getElem? (i := 76) rfl)))) rfl
theorem wc_X0_sharedParts : Cond.code yX0_sharedParts cX0_sharedParts 6 (some .int) ∈ gz_ts := gz_go (gz_tb (List.mem_append_right _ (List.mem_append_left _ (List.mem_of_getElem? (i := 80) rfl)))) rfl
theorem wc_J9_min_7cf53 : Cond.code yJ9_min_7cf53 cJ9_min_7cf53 2 (some .int) ∈ gz_ts := gz_go (gz_tb (List.mem_append_right _ (List.mem_append_left _ (List.mem_of_getElem? (i := 83) rfl)))) rfl
theorem wc_X4_copyStates : Cond.code yX4_copyStates cX4_copyStates 6 none ∈ gz_ts := gz_go (gz_tb (List.mem_append_right _ (List.mem_append_left _ (List.mem_of_getElem? (i := 87) rfl)))) rfl
theorem wc_X4_drop : Cond.code yX4_drop cX4_drop 3 (some .int) ∈ gz_ts := gz_go (gz_tb (List.mem_append_right _ (List.mem_append_left _ (List.mem_of_getElem? (i := 92) rfl)))) rfl
theorem wc_X4_keptMark : Cond.code yX4_keptMark cX4_keptMark 3 (some (.object "GrownSnapshots$Mark")) ∈ gz_ts := gz_go (gz_tb (List.mem_append_right _ (List.mem_append_left _ (List.mem_of_getElem? (i := 96) rfl)))) rfl
theorem wc_X4_heldMark : Cond.code yX4_heldMark cX4_heldMark 3 (some (.object "GrownSnapshots$Mark")) ∈ gz_ts := gz_go (gz_tb (List.mem_append_right _ (List.mem_append_left _ (List.mem_of_getElem? (i := 100) rfl)))) rfl
theorem wc_X4_letGoUnheld : Cond.code yX4_letGoUnheld cX4_letGoUnheld 2 none ∈ gz_ts := gz_go (gz_tb (List.mem_append_right _ (List.mem_append_left _ (List.mem_of_getElem? (i := 104) rfl)))) rfl
theorem wc_X4_isBase : Cond.code yX4_isBase cX4_isBase 3 (some .boolean) ∈ gz_ts := gz_go (gz_tb (List.mem_append_right _ (List.mem_append_left _ (List.mem_of_getElem? (i := 108) rfl)))) rfl
theorem wc_X4_letGo : Cond.code yX4_letGo cX4_letGo 4 none ∈ gz_ts := gz_go (gz_tb (List.mem_append_right _ (List.mem_append_left _ (List.mem_of_getElem? (i := 112) rfl)))) rfl
theorem wc_X4_freeUnnamed : Cond.code yX4_freeUnnamed cX4_freeUnnamed 3 (some .int) ∈ gz_ts := gz_go (gz_tb (List.mem_append_right _ (List.mem_append_left _ (List.mem_of_getElem? (i := 116) rfl)))) rfl
theorem wc_X4_nameKeptParts : Cond.code yX4_nameKeptParts cX4_nameKeptParts 2 none ∈ gz_ts := gz_go (gz_tb (List.mem_append_right _ (List.mem_append_left _ (List.mem_of_getElem? (i := 120) rfl)))) rfl
theorem wc_X0_addNames : Cond.code yX0_addNames cX0_addNames 4 none ∈ gz_ts := gz_go (gz_tb (List.mem_append_right _ (List.mem_append_left _ (List.mem_of_getElem? (i := 124) rfl)))) rfl
theorem wc_X3_isThere : Cond.code yX3_isThere cX3_isThere 2 (some .boolean) ∈ gz_ts := gz_go (gz_tb (List.mem_append_right _ (List.mem_append_left _ (List.mem_of_getElem? (i := 128) rfl)))) rfl
theorem wc_X4_freePart : Cond.code yX4_freePart cX4_freePart 3 none ∈ gz_ts := gz_go (gz_tb (List.mem_append_right _ (List.mem_append_left _ (List.mem_of_getElem? (i := 132) rfl)))) rfl
theorem wc_X4_back : Cond.code yX4_back cX4_back 4 (some .int) ∈ gz_ts := gz_go (gz_tb (List.mem_append_right _ (List.mem_append_left _ (List.mem_of_getElem? (i := 137) rfl)))) rfl
theorem wc_X4_latestUsable : Cond.code yX4_latestUsable cX4_latestUsable 3 (some (.object "GrownSnapshots$Mark")) ∈ gz_ts := gz_go (gz_tb (List.mem_append_right _ (List.mem_append_left _ (List.mem_of_getElem? (i := 141) rfl)))) rfl
theorem wc_X4_isUsable : Cond.code yX4_isUsable cX4_isUsable 4 (some .boolean) ∈ gz_ts := gz_go (gz_tb (List.mem_append_right _ (List.mem_append_left _ (List.mem_of_getElem? (i := 145) rfl)))) rfl
theorem wc_X4_isReadable : Cond.code yX4_isReadable cX4_isReadable 3 (some .boolean) ∈ gz_ts := gz_go (gz_tb (List.mem_append_right _ (List.mem_append_left _ (List.mem_of_getElem? (i := 149) rfl)))) rfl
theorem wc_X3_isSound : Cond.code yX3_isSound cX3_isSound 3 (some .boolean) ∈ gz_ts := gz_go (gz_tb (List.mem_append_right _ (List.mem_append_left _ (List.mem_of_getElem? (i := 153) rfl)))) rfl
theorem wc_X4_readState : Cond.code yX4_readState cX4_readState 6 none ∈ gz_ts := gz_go (gz_tb (List.mem_append_right _ (List.mem_append_left _ (List.mem_of_getElem? (i := 157) rfl)))) rfl
theorem wc_X4_readPart : Cond.code yX4_readPart cX4_readPart 3 none ∈ gz_ts := gz_go (gz_tb (List.mem_append_right _ (List.mem_append_left _ (List.mem_of_getElem? (i := 161) rfl)))) rfl
theorem wc_X4_usable : Cond.code yX4_usable cX4_usable 3 (some .int) ∈ gz_ts := gz_go (gz_tb (List.mem_append_right _ (List.mem_append_left _ (List.mem_of_getElem? (i := 165) rfl)))) rfl
theorem wc_X4_markTold : Cond.code yX4_markTold cX4_markTold 4 (some .int) ∈ gz_ts := gz_go (gz_tb (List.mem_append_right _ (List.mem_append_left _ (List.mem_of_getElem? (i := 169) rfl)))) rfl
theorem wc_X4_list : Cond.code yX4_list cX4_list 5 (some .int) ∈ gz_ts := gz_go (gz_tb (List.mem_append_right _ (List.mem_append_left _ (List.mem_of_getElem? (i := 174) rfl)))) rfl
theorem wc_X4_same : Cond.code yX4_same cX4_same 5 (some .boolean) ∈ gz_ts := gz_go (gz_tb (List.mem_append_right _ (List.mem_append_left _ (List.mem_of_getElem? (i := 178) rfl)))) rfl
theorem wc_X0_isAlike : Cond.code yX0_isAlike cX0_isAlike 3 (some .boolean) ∈ gz_ts := gz_go (gz_tb (List.mem_append_right _ (List.mem_append_left _ (List.mem_of_getElem? (i := 182) rfl)))) rfl
theorem wc_X0_hasAlikeList : Cond.code yX0_hasAlikeList cX0_hasAlikeList 4 (some .boolean) ∈ gz_ts := gz_go (gz_tb (List.mem_append_right _ (List.mem_append_left _ (List.mem_of_getElem? (i := 186) rfl)))) rfl
theorem wc_X4_partTold : Cond.code yX4_partTold cX4_partTold 3 (some .int) ∈ gz_ts := gz_go (gz_tb (List.mem_append_right _ (List.mem_append_left _ (List.mem_of_getElem? (i := 190) rfl)))) rfl
theorem wc_X4_keptNaming : Cond.code yX4_keptNaming cX4_keptNaming 4 (some .int) ∈ gz_ts := gz_go (gz_tb (List.mem_append_right _ (List.mem_append_left _ (List.mem_of_getElem? (i := 194) rfl)))) rfl
theorem wc_X0_names : Cond.code yX0_names cX0_names 4 (some .boolean) ∈ gz_ts := gz_go (gz_tb (List.mem_append_right _ (List.mem_append_left _ (List.mem_of_getElem? (i := 198) rfl)))) rfl
theorem wc_X4_copyCount : Cond.code yX4_copyCount cX4_copyCount 4 (some .int) ∈ gz_ts := gz_go (gz_tb (List.mem_append_right _ (List.mem_append_left _ (List.mem_of_getElem? (i := 202) rfl)))) rfl
theorem wc_X4_partByte : Cond.code yX4_partByte cX4_partByte 5 (some .int) ∈ gz_ts := gz_go (gz_tb (List.mem_append_right _ (List.mem_append_left _ (List.mem_of_getElem? (i := 206) rfl)))) rfl
theorem wc_X4_shelfOf : Cond.code yX4_shelfOf cX4_shelfOf 2 (some (.object "GrownSnapshots$Shelf")) ∈ gz_ts := gz_go (gz_tb (List.mem_append_right _ (List.mem_append_left _ (List.mem_of_getElem? (i := 210) rfl)))) rfl
theorem wc_X3_hasByte : Cond.code yX3_hasByte cX3_hasByte 4 (some .boolean) ∈ gz_ts := gz_go (gz_tb (List.mem_append_right _ (List.mem_append_left _ (List.mem_of_getElem? (i := 214) rfl)))) rfl
theorem wc_X4_alter : Cond.code yX4_alter cX4_alter 6 (some .int) ∈ gz_ts := gz_go (gz_tb (List.mem_append_right _ (List.mem_append_left _ (List.mem_of_getElem? (i := 219) rfl)))) rfl
theorem wc_X4_lose : Cond.code yX4_lose cX4_lose 4 (some .int) ∈ gz_ts := gz_go (gz_tb (List.mem_append_right _ (List.mem_append_left _ (List.mem_of_getElem? (i := 223) rfl)))) rfl
theorem wc_X4_told : Cond.code yX4_told cX4_told 2 (some .int) ∈ gz_ts := gz_go (gz_tb (List.mem_append_right _ (List.mem_append_left _ (List.mem_of_getElem? (i := 227) rfl)))) rfl
theorem wc_X4_keptCount : Cond.code yX4_keptCount cX4_keptCount 3 (some .int) ∈ gz_ts := gz_go (gz_tb (List.mem_append_right _ (List.mem_append_left _ (List.mem_of_getElem? (i := 231) rfl)))) rfl
theorem wc_X3_brokenCount : Cond.code yX3_brokenCount cX3_brokenCount 3 (some .int) ∈ gz_ts := gz_go (gz_tb (List.mem_append_right _ (List.mem_append_left _ (List.mem_of_getElem? (i := 235) rfl)))) rfl
theorem wc_X4_allCopies : Cond.code yX4_allCopies cX4_allCopies 3 (some .int) ∈ gz_ts := gz_go (gz_tb (List.mem_append_right _ (List.mem_append_right _ (List.mem_of_getElem? (i := 0) rfl)))) rfl
theorem wc_X5_init : Cond.code yX5_init cX5_init 2 none ∈ gz_ts := gz_go (gz_tb (List.mem_append_right _ (List.mem_append_right _ (List.mem_of_getElem? (i := 5) rfl)))) rfl
theorem wc_X5_insert : Cond.code yX5_insert cX5_insert 8 (some .int) ∈ gz_ts := gz_go (gz_tb (List.mem_append_right _ (List.mem_append_right _ (List.mem_of_getElem? (i := 74) rfl)))) rfl
theorem wc_X5_isTask : Cond.code yX5_isTask cX5_isTask 2 (some .boolean) ∈ gz_ts := gz_go (gz_tb (List.mem_append_right _ (List.mem_append_right _ (List.mem_of_getElem? (i := 78) rfl)))) rfl
theorem wc_X5_in : Cond.code yX5_in cX5_in 3 (some .boolean) ∈ gz_ts := gz_go (gz_tb (List.mem_append_right _ (List.mem_append_right _ (List.mem_of_getElem? (i := 81) rfl)))) rfl
theorem wc_X5_remove : Cond.code yX5_remove cX5_remove 6 (some .int) ∈ gz_ts := gz_go (gz_tb (List.mem_append_right _ (List.mem_append_right _ (List.mem_of_getElem? (i := 86) rfl)))) rfl
theorem wc_X5_extend : Cond.code yX5_extend cX5_extend 6 (some .int) ∈ gz_ts := gz_go (gz_tb (List.mem_append_right _ (List.mem_append_right _ (List.mem_of_getElem? (i := 90) rfl)))) rfl
theorem wc_X5_state : Cond.code yX5_state cX5_state 3 (some .int) ∈ gz_ts := gz_go (gz_tb (List.mem_append_right _ (List.mem_append_right _ (List.mem_of_getElem? (i := 94) rfl)))) rfl
theorem wc_X5_chunk : Cond.code yX5_chunk cX5_chunk 6 (some .int) ∈ gz_ts := gz_go (gz_tb (List.mem_append_right _ (List.mem_append_right _ (List.mem_of_getElem? (i := 98) rfl)))) rfl
theorem wc_X5_chunkFrom : Cond.code yX5_chunkFrom cX5_chunkFrom 7 (some .int) ∈ gz_ts := gz_go (gz_tb (List.mem_append_right _ (List.mem_append_right _ (List.mem_of_getElem? (i := 102) rfl)))) rfl
theorem wc_X5_rescale : Cond.code yX5_rescale cX5_rescale 6 (some .int) ∈ gz_ts := gz_go (gz_tb (List.mem_append_right _ (List.mem_append_right _ (List.mem_of_getElem? (i := 106) rfl)))) rfl
theorem wc_X5_become : Cond.code yX5_become cX5_become 4 none ∈ gz_ts := gz_go (gz_tb (List.mem_append_right _ (List.mem_append_right _ (List.mem_of_getElem? (i := 110) rfl)))) rfl
theorem wc_X5_partTold : Cond.code yX5_partTold cX5_partTold 5 (some .int) ∈ gz_ts := gz_go (gz_tb (List.mem_append_right _ (List.mem_append_right _ (List.mem_of_getElem? (i := 114) rfl)))) rfl
theorem wc_X5_isPart : Cond.code yX5_isPart cX5_isPart 2 (some .boolean) ∈ gz_ts := gz_go (gz_tb (List.mem_append_right _ (List.mem_append_right _ (List.mem_of_getElem? (i := 118) rfl)))) rfl
theorem wc_X5_hasPart : Cond.code yX5_hasPart cX5_hasPart 6 (some .boolean) ∈ gz_ts := gz_go (gz_tb (List.mem_append_right _ (List.mem_append_right _ (List.mem_of_getElem? (i := 122) rfl)))) rfl
theorem wc_X5_isBroken : Cond.code yX5_isBroken cX5_isBroken 4 (some .boolean) ∈ gz_ts := gz_go (gz_tb (List.mem_append_right _ (List.mem_append_right _ (List.mem_of_getElem? (i := 126) rfl)))) rfl
theorem wc_X5_partByte : Cond.code yX5_partByte cX5_partByte 4 (some .int) ∈ gz_ts := gz_go (gz_tb (List.mem_append_right _ (List.mem_append_right _ (List.mem_of_getElem? (i := 130) rfl)))) rfl
theorem wc_X5_isByte : Cond.code yX5_isByte cX5_isByte 4 (some .boolean) ∈ gz_ts := gz_go (gz_tb (List.mem_append_right _ (List.mem_append_right _ (List.mem_of_getElem? (i := 134) rfl)))) rfl
theorem wc_X5_alter : Cond.code yX5_alter cX5_alter 5 (some .int) ∈ gz_ts := gz_go (gz_tb (List.mem_append_right _ (List.mem_append_right _ (List.mem_of_getElem? (i := 138) rfl)))) rfl
theorem wc_X5_lose : Cond.code yX5_lose cX5_lose 3 (some .int) ∈ gz_ts := gz_go (gz_tb (List.mem_append_right _ (List.mem_append_right _ (List.mem_of_getElem? (i := 143) rfl)))) rfl
theorem wc_X5_mark : Cond.code yX5_mark cX5_mark 11 (some .int) ∈ gz_ts := gz_go (gz_tb (List.mem_append_right _ (List.mem_append_right _ (List.mem_of_getElem? (i := 147) rfl)))) rfl
theorem wc_X5_held : Cond.code yX5_held cX5_held 3 (some .int) ∈ gz_ts := gz_go (gz_tb (List.mem_append_right _ (List.mem_append_right _ (List.mem_of_getElem? (i := 151) rfl)))) rfl
theorem wc_X5_partFor : Cond.code yX5_partFor cX5_partFor 7 (some .int) ∈ gz_ts := gz_go (gz_tb (List.mem_append_right _ (List.mem_append_right _ (List.mem_of_getElem? (i := 155) rfl)))) rfl
theorem wc_X5_isChunk : Cond.code yX5_isChunk cX5_isChunk 7 (some .boolean) ∈ gz_ts := gz_go (gz_tb (List.mem_append_right _ (List.mem_append_right _ (List.mem_of_getElem? (i := 159) rfl)))) rfl
theorem wc_X5_allBytes : Cond.code yX5_allBytes cX5_allBytes 3 (some .int) ∈ gz_ts := gz_go (gz_tb (List.mem_append_right _ (List.mem_append_right _ (List.mem_of_getElem? (i := 163) rfl)))) rfl
theorem wc_X5_latest : Cond.code yX5_latest cX5_latest 4 (some .int) ∈ gz_ts := gz_go (gz_tb (List.mem_append_right _ (List.mem_append_right _ (List.mem_of_getElem? (i := 167) rfl)))) rfl
theorem wc_X5_tells : Cond.code yX5_tells cX5_tells 11 (some .int) ∈ gz_ts := gz_go (gz_tb (List.mem_append_right _ (List.mem_append_right _ (List.mem_of_getElem? (i := 171) rfl)))) rfl
theorem wc_X5_drop : Cond.code yX5_drop cX5_drop 8 (some .int) ∈ gz_ts := gz_go (gz_tb (List.mem_append_right _ (List.mem_append_right _ (List.mem_of_getElem? (i := 175) rfl)))) rfl
theorem wc_X5_keptSlot : Cond.code yX5_keptSlot cX5_keptSlot 3 (some .int) ∈ gz_ts := gz_go (gz_tb (List.mem_append_right _ (List.mem_append_right _ (List.mem_of_getElem? (i := 179) rfl)))) rfl
theorem wc_X5_slotOf : Cond.code yX5_slotOf cX5_slotOf 4 (some .int) ∈ gz_ts := gz_go (gz_tb (List.mem_append_right _ (List.mem_append_right _ (List.mem_of_getElem? (i := 183) rfl)))) rfl
theorem wc_X5_usable : Cond.code yX5_usable cX5_usable 3 (some .int) ∈ gz_ts := gz_go (gz_tb (List.mem_append_right _ (List.mem_append_right _ (List.mem_of_getElem? (i := 187) rfl)))) rfl
theorem wc_X5_isUsable : Cond.code yX5_isUsable cX5_isUsable 5 (some .boolean) ∈ gz_ts := gz_go (gz_tb (List.mem_append_right _ (List.mem_append_right _ (List.mem_of_getElem? (i := 191) rfl)))) rfl
theorem wc_X5_isReadable : Cond.code yX5_isReadable cX5_isReadable 3 (some .boolean) ∈ gz_ts := gz_go (gz_tb (List.mem_append_right _ (List.mem_append_right _ (List.mem_of_getElem? (i := 195) rfl)))) rfl
theorem wc_X5_isGoodCopy : Cond.code yX5_isGoodCopy cX5_isGoodCopy 5 (some .boolean) ∈ gz_ts := gz_go (gz_tb (List.mem_append_right _ (List.mem_append_right _ (List.mem_of_getElem? (i := 199) rfl)))) rfl
theorem wc_X5_back : Cond.code yX5_back cX5_back 5 (some .int) ∈ gz_ts := gz_go (gz_tb (List.mem_append_right _ (List.mem_append_right _ (List.mem_of_getElem? (i := 203) rfl)))) rfl
theorem wc_X5_read : Cond.code yX5_read cX5_read 5 none ∈ gz_ts := gz_go (gz_tb (List.mem_append_right _ (List.mem_append_right _ (List.mem_of_getElem? (i := 207) rfl)))) rfl
theorem wc_X5_markTold : Cond.code yX5_markTold cX5_markTold 6 (some .int) ∈ gz_ts := gz_go (gz_tb (List.mem_append_right _ (List.mem_append_right _ (List.mem_of_getElem? (i := 211) rfl)))) rfl
theorem wc_X5_list : Cond.code yX5_list cX5_list 5 (some .int) ∈ gz_ts := gz_go (gz_tb (List.mem_append_right _ (List.mem_append_right _ (List.mem_of_getElem? (i := 215) rfl)))) rfl
theorem wc_X5_same : Cond.code yX5_same cX5_same 8 (some .boolean) ∈ gz_ts := gz_go (gz_tb (List.mem_append_right _ (List.mem_append_right _ (List.mem_of_getElem? (i := 219) rfl)))) rfl
theorem wc_X5_told : Cond.code yX5_told cX5_told 4 (some .int) ∈ gz_ts := gz_go (gz_tb (List.mem_append_right _ (List.mem_append_right _ (List.mem_of_getElem? (i := 223) rfl)))) rfl
theorem wu_X0 : ∀ w ∈ u_ws RX0 TX0 9, w ∈ gz_ts := List.forall_mem_cons.mpr ⟨gz_go (gz_tb (List.mem_append_left _ (List.mem_of_getElem? (i := 122) rfl))) rfl, List.forall_mem_cons.mpr ⟨gz_go (gz_tb (List.mem_append_left _ (List.mem_of_getElem? (i := 124) rfl))) rfl, List.forall_mem_cons.mpr ⟨gz_go (gz_tb (List.mem_append_left _ (List.mem_of_getElem? (i := 126) rfl))) rfl, List.forall_mem_cons.mpr ⟨gz_go (gz_tb (List.mem_append_left _ (List.mem_of_getElem? (i := 128) rfl))) rfl, List.forall_mem_cons.mpr ⟨gz_go (gz_tb (List.mem_append_left _ (List.mem_of_getElem? (i := 130) rfl))) rfl, List.forall_mem_cons.mpr ⟨gz_go (gz_tb (List.mem_append_left _ (List.mem_of_getElem? (i := 132) rfl))) rfl, List.forall_mem_cons.mpr ⟨gz_go (gz_tb (List.mem_append_left _ (List.mem_of_getElem? (i := 134) rfl))) rfl, List.forall_mem_cons.mpr ⟨gz_go (gz_tb (List.mem_append_left _ (List.mem_of_getElem? (i := 136) rfl))) rfl, List.forall_mem_cons.mpr ⟨gz_go (gz_tb (List.mem_append_left _ (List.mem_of_getElem? (i := 138) rfl))) rfl, fun _ h => absurd h List.not_mem_nil⟩⟩⟩⟩⟩⟩⟩⟩⟩
theorem wu_X1 : ∀ w ∈ u_ws RX1 TX1 2, w ∈ gz_ts := List.forall_mem_cons.mpr ⟨gz_go (gz_tb (List.mem_append_left _ (List.mem_of_getElem? (i := 39) rfl))) rfl, List.forall_mem_cons.mpr ⟨gz_go (gz_tb (List.mem_append_left _ (List.mem_of_getElem? (i := 41) rfl))) rfl, fun _ h => absurd h List.not_mem_nil⟩⟩
theorem wu_X2 : ∀ w ∈ u_ws RX2 TX2 3, w ∈ gz_ts := List.forall_mem_cons.mpr ⟨gz_go (gz_tb (List.mem_append_left _ (List.mem_of_getElem? (i := 89) rfl))) rfl, List.forall_mem_cons.mpr ⟨gz_go (gz_tb (List.mem_append_left _ (List.mem_of_getElem? (i := 91) rfl))) rfl, List.forall_mem_cons.mpr ⟨gz_go (gz_tb (List.mem_append_left _ (List.mem_of_getElem? (i := 93) rfl))) rfl, fun _ h => absurd h List.not_mem_nil⟩⟩⟩
theorem wu_X3 : ∀ w ∈ u_ws RX3 TX3 8, w ∈ gz_ts := List.forall_mem_cons.mpr ⟨gz_go (gz_tb (List.mem_append_left _ (List.mem_of_getElem? (i := 60) rfl))) rfl, List.forall_mem_cons.mpr ⟨gz_go (gz_tb (List.mem_append_left _ (List.mem_of_getElem? (i := 62) rfl))) rfl, List.forall_mem_cons.mpr ⟨gz_go (gz_tb (List.mem_append_left _ (List.mem_of_getElem? (i := 64) rfl))) rfl, List.forall_mem_cons.mpr ⟨gz_go (gz_tb (List.mem_append_left _ (List.mem_of_getElem? (i := 66) rfl))) rfl, List.forall_mem_cons.mpr ⟨gz_go (gz_tb (List.mem_append_left _ (List.mem_of_getElem? (i := 68) rfl))) rfl, List.forall_mem_cons.mpr ⟨gz_go (gz_tb (List.mem_append_left _ (List.mem_of_getElem? (i := 70) rfl))) rfl, List.forall_mem_cons.mpr ⟨gz_go (gz_tb (List.mem_append_left _ (List.mem_of_getElem? (i := 72) rfl))) rfl, List.forall_mem_cons.mpr ⟨gz_go (gz_tb (List.mem_append_left _ (List.mem_of_getElem? (i := 74) rfl))) rfl, fun _ h => absurd h List.not_mem_nil⟩⟩⟩⟩⟩⟩⟩⟩
theorem wu_X4 : ∀ w ∈ u_ws RX4 TX4 9, w ∈ gz_ts := List.forall_mem_cons.mpr ⟨gz_go (gz_tb (List.mem_append_left _ (List.mem_of_getElem? (i := 150) rfl))) rfl, List.forall_mem_cons.mpr ⟨gz_go (gz_tb (List.mem_append_left _ (List.mem_of_getElem? (i := 152) rfl))) rfl, List.forall_mem_cons.mpr ⟨gz_go (gz_tb (List.mem_append_left _ (List.mem_of_getElem? (i := 154) rfl))) rfl, List.forall_mem_cons.mpr ⟨gz_go (gz_tb (List.mem_append_left _ (List.mem_of_getElem? (i := 156) rfl))) rfl, List.forall_mem_cons.mpr ⟨gz_go (gz_tb (List.mem_append_left _ (List.mem_of_getElem? (i := 158) rfl))) rfl, List.forall_mem_cons.mpr ⟨gz_go (gz_tb (List.mem_append_left _ (List.mem_of_getElem? (i := 160) rfl))) rfl, List.forall_mem_cons.mpr ⟨gz_go (gz_tb (List.mem_append_left _ (List.mem_of_getElem? (i := 162) rfl))) rfl, List.forall_mem_cons.mpr ⟨gz_go (gz_tb (List.mem_append_left _ (List.mem_of_getElem? (i := 164) rfl))) rfl, List.forall_mem_cons.mpr ⟨gz_go (gz_tb (List.mem_append_left _ (List.mem_of_getElem? (i := 166) rfl))) rfl, fun _ h => absurd h List.not_mem_nil⟩⟩⟩⟩⟩⟩⟩⟩⟩
theorem wu_X5 : ∀ w ∈ u_ws RX5 TX5 21, w ∈ gz_ts := List.forall_mem_cons.mpr ⟨gz_go (gz_tb (List.mem_append_right _ (List.mem_append_right _ (List.mem_of_getElem? (i := 28) rfl)))) rfl, List.forall_mem_cons.mpr ⟨gz_go (gz_tb (List.mem_append_right _ (List.mem_append_right _ (List.mem_of_getElem? (i := 30) rfl)))) rfl, List.forall_mem_cons.mpr ⟨gz_go (gz_tb (List.mem_append_right _ (List.mem_append_right _ (List.mem_of_getElem? (i := 32) rfl)))) rfl, List.forall_mem_cons.mpr ⟨gz_go (gz_tb (List.mem_append_right _ (List.mem_append_right _ (List.mem_of_getElem? (i := 34) rfl)))) rfl, List.forall_mem_cons.mpr ⟨gz_go (gz_tb (List.mem_append_right _ (List.mem_append_right _ (List.mem_of_getElem? (i := 36) rfl)))) rfl, List.forall_mem_cons.mpr ⟨gz_go (gz_tb (List.mem_append_right _ (List.mem_append_right _ (List.mem_of_getElem? (i := 38) rfl)))) rfl, List.forall_mem_cons.mpr ⟨gz_go (gz_tb (List.mem_append_right _ (List.mem_append_right _ (List.mem_of_getElem? (i := 40) rfl)))) rfl, List.forall_mem_cons.mpr ⟨gz_go (gz_tb (List.mem_append_right _ (List.mem_append_right _ (List.mem_of_getElem? (i := 42) rfl)))) rfl, List.forall_mem_cons.mpr ⟨gz_go (gz_tb (List.mem_append_right _ (List.mem_append_right _ (List.mem_of_getElem? (i := 44) rfl)))) rfl, List.forall_mem_cons.mpr ⟨gz_go (gz_tb (List.mem_append_right _ (List.mem_append_right _ (List.mem_of_getElem? (i := 46) rfl)))) rfl, List.forall_mem_cons.mpr ⟨gz_go (gz_tb (List.mem_append_right _ (List.mem_append_right _ (List.mem_of_getElem? (i := 48) rfl)))) rfl, List.forall_mem_cons.mpr ⟨gz_go (gz_tb (List.mem_append_right _ (List.mem_append_right _ (List.mem_of_getElem? (i := 50) rfl)))) rfl, List.forall_mem_cons.mpr ⟨gz_go (gz_tb (List.mem_append_right _ (List.mem_append_right _ (List.mem_of_getElem? (i := 52) rfl)))) rfl, List.forall_mem_cons.mpr ⟨gz_go (gz_tb (List.mem_append_right _ (List.mem_append_right _ (List.mem_of_getElem? (i := 54) rfl)))) rfl, List.forall_mem_cons.mpr ⟨gz_go (gz_tb (List.mem_append_right _ (List.mem_append_right _ (List.mem_of_getElem? (i := 56) rfl)))) rfl, List.forall_mem_cons.mpr ⟨gz_go (gz_tb (List.mem_append_right _ (List.mem_append_right _ (List.mem_of_getElem? (i := 58) rfl)))) rfl, List.forall_mem_cons.mpr ⟨gz_go (gz_tb (List.mem_append_right _ (List.mem_append_right _ (List.mem_of_getElem? (i := 60) rfl)))) rfl, List.forall_mem_cons.mpr ⟨gz_go (gz_tb (List.mem_append_right _ (List.mem_append_right _ (List.mem_of_getElem? (i := 62) rfl)))) rfl, List.forall_mem_cons.mpr ⟨gz_go (gz_tb (List.mem_append_right _ (List.mem_append_right _ (List.mem_of_getElem? (i := 64) rfl)))) rfl, List.forall_mem_cons.mpr ⟨gz_go (gz_tb (List.mem_append_right _ (List.mem_append_right _ (List.mem_of_getElem? (i := 66) rfl)))) rfl, List.forall_mem_cons.mpr ⟨gz_go (gz_tb (List.mem_append_right _ (List.mem_append_right _ (List.mem_of_getElem? (i := 68) rfl)))) rfl, fun _ h => absurd h List.not_mem_nil⟩⟩⟩⟩⟩⟩⟩⟩⟩⟩⟩⟩⟩⟩⟩⟩⟩⟩⟩⟩⟩
