def gW : List Cond := lw_tbl.filter goodWord
theorem gW_hts {args : Array Value} {s : State} (h : ∀ w ∈ lw_tbl, w.before args s = true) : ∀ w ∈ gW, w.before args s = true := fun w hw => h w (List.mem_filter.mp hw).1
theorem gW_1 {w : Cond} (h : w ∈ tables_1_1) (hg : goodWord w = true) : w ∈ gW := List.mem_filter.mpr ⟨List.mem_append_right _ (List.mem_append_left _ h), hg⟩
theorem gW_2 {w : Cond} (h : w ∈ tables_1_2) (hg : goodWord w = true) : w ∈ gW := List.mem_filter.mpr ⟨List.mem_append_right _ (List.mem_append_right _ (List.mem_append_left _ h)), hg⟩
theorem gW_3 {w : Cond} (h : w ∈ tables_1_3) (hg : goodWord w = true) : w ∈ gW := List.mem_filter.mpr ⟨List.mem_append_right _ (List.mem_append_right _ (List.mem_append_right _ h)), hg⟩
theorem gW_p {q : MethodName × Nat} (h : q ∈ lw_privs) : Cond.selects q.1.cls q.1 q.1 ∈ gW := List.mem_filter.mpr ⟨List.mem_append_left _ (List.mem_map.mpr ⟨q, h, rfl⟩), rfl⟩
theorem gW_p1 {q : MethodName × Nat} (h : q ∈ lw_privs_1) : Cond.selects q.1.cls q.1 q.1 ∈ gW := gW_p h
theorem gW_good : GoodIn gW gW := fun w hw => ⟨hw, good_of_word (List.mem_filter.mp hw).2⟩
def gC (y : MethodName) (cc : ByteArray) (n : Nat) (ret : Option FieldType) : List Cond := .code y cc n ret :: gW
theorem gC_good {y z : MethodName} {cy cz : ByteArray} {ny nz : Nat} {ry rz : Option FieldType} (h : Cond.code z cz nz rz ∈ gW) : GoodIn (gC y cy ny ry) (gC z cz nz rz) := by
  intro w hw
  have hw' : w ∈ gW := by
    rcases List.mem_cons.mp hw with rfl | hw
    · exact h
    · exact hw
  exact ⟨List.mem_cons_of_mem _ hw', (gW_good w hw').2⟩
theorem gC_goodW {z : MethodName} {cz : ByteArray} {nz : Nat} {rz : Option FieldType} (h : Cond.code z cz nz rz ∈ gW) : GoodIn gW (gC z cz nz rz) := by
  intro w hw
  have hw' : w ∈ gW := by
    rcases List.mem_cons.mp hw with rfl | hw
    · exact h
    · exact hw
  exact ⟨hw', (gW_good w hw').2⟩

theorem wi_L : Cond.initialized RL ∈ gW := gW_1 (List.mem_of_getElem? (i := 0) rfl) rfl
theorem wi_X7 : Cond.initialized RX7 ∈ gW := gW_1 (List.mem_of_getElem? (i := 1) rfl) rfl
theorem wi_X5 : Cond.initialized RX5 ∈ gW := gW_1 (List.mem_of_getElem? (i := 2) rfl) rfl
theorem wi_X4 : Cond.initialized RX4 ∈ gW := gW_1 (List.mem_of_getElem? (i := 3) rfl) rfl
theorem wi_X2 : Cond.initialized RX2 ∈ gW := gW_1 (List.mem_of_getElem? (i := 4) rfl) rfl
theorem wi_X0 : Cond.initialized RX0 ∈ gW := gW_1 (List.mem_of_getElem? (i := 5) rfl) rfl
theorem wi_X1 : Cond.initialized RX1 ∈ gW := gW_1 (List.mem_of_getElem? (i := 6) rfl) rfl
theorem wi_X3 : Cond.initialized RX3 ∈ gW := gW_1 (List.mem_of_getElem? (i := 7) rfl) rfl
theorem wi_X6 : Cond.initialized RX6 ∈ gW := gW_1 (List.mem_of_getElem? (i := 8) rfl) rfl
theorem wi_J9 : Cond.initialized RJ9 ∈ gW := gW_1 (List.mem_of_getElem? (i := 9) rfl) rfl
theorem wi_J10 : Cond.initialized RJ10 ∈ gW := gW_1 (List.mem_of_getElem? (i := 10) rfl) rfl
theorem wi_J7 : Cond.initialized RJ7 ∈ gW := gW_1 (List.mem_of_getElem? (i := 11) rfl) rfl
theorem wc_X7_init : Cond.code yX7_init cX7_init 1 none ∈ gW := gW_1 (List.mem_of_getElem? (i := 16) rfl) rfl
theorem wm_X7_init : Cond.instanceMethod yX7_init ∈ gW := gW_1 (List.mem_of_getElem? (i := 15) rfl) rfl
theorem wc_X5_init : Cond.code yX5_init cX5_init 1 none ∈ gW := gW_1 (List.mem_of_getElem? (i := 24) rfl) rfl
theorem wm_X5_init : Cond.instanceMethod yX5_init ∈ gW := gW_1 (List.mem_of_getElem? (i := 23) rfl) rfl
theorem wc_X4_init : Cond.code yX4_init cX4_init 1 none ∈ gW := gW_1 (List.mem_of_getElem? (i := 30) rfl) rfl
theorem wm_X4_init : Cond.instanceMethod yX4_init ∈ gW := gW_1 (List.mem_of_getElem? (i := 29) rfl) rfl
theorem wc_X2_init : Cond.code yX2_init cX2_init 1 none ∈ gW := gW_1 (List.mem_of_getElem? (i := 63) rfl) rfl
theorem wm_X2_init : Cond.instanceMethod yX2_init ∈ gW := gW_1 (List.mem_of_getElem? (i := 62) rfl) rfl
theorem wc_X0_init : Cond.code yX0_init cX0_init 1 none ∈ gW := gW_1 (List.mem_of_getElem? (i := 108) rfl) rfl
theorem wm_X0_init : Cond.instanceMethod yX0_init ∈ gW := gW_1 (List.mem_of_getElem? (i := 107) rfl) rfl
theorem wc_X1_init : Cond.code yX1_init cX1_init 1 none ∈ gW := gW_1 (List.mem_of_getElem? (i := 139) rfl) rfl
theorem wm_X1_init : Cond.instanceMethod yX1_init ∈ gW := gW_1 (List.mem_of_getElem? (i := 138) rfl) rfl
theorem wc_X3_init : Cond.code yX3_init cX3_init 2 none ∈ gW := gW_1 (List.mem_of_getElem? (i := 222) rfl) rfl
theorem wm_X3_init : Cond.instanceMethod yX3_init ∈ gW := gW_1 (List.mem_of_getElem? (i := 221) rfl) rfl
theorem wc_X6_init : Cond.code yX6_init cX6_init 1 none ∈ gW := gW_2 (List.mem_of_getElem? (i := 2) rfl) rfl
theorem wm_X6_init : Cond.instanceMethod yX6_init ∈ gW := gW_2 (List.mem_of_getElem? (i := 1) rfl) rfl
theorem wc_X7_count : Cond.code yX7_count cX7_count 2 (some .int) ∈ gW := gW_2 (List.mem_of_getElem? (i := 45) rfl) rfl
theorem wm_X7_count : Cond.instanceMethod yX7_count ∈ gW := gW_2 (List.mem_of_getElem? (i := 43) rfl) rfl
theorem wl_X7_count : Cond.selects RX7 yX7_count yX7_count ∈ gW := gW_2 (List.mem_of_getElem? (i := 44) rfl) rfl
theorem wc_X1_pending : Cond.code yX1_pending cX1_pending 3 (some .int) ∈ gW := gW_2 (List.mem_of_getElem? (i := 49) rfl) rfl
theorem wm_X1_pending : Cond.instanceMethod yX1_pending ∈ gW := gW_2 (List.mem_of_getElem? (i := 47) rfl) rfl
theorem wl_X1_pending : Cond.selects RX1 yX1_pending yX1_pending ∈ gW := gW_2 (List.mem_of_getElem? (i := 48) rfl) rfl
theorem wc_X5_activeWeight : Cond.code yX5_activeWeight cX5_activeWeight 1 (some .int) ∈ gW := gW_2 (List.mem_of_getElem? (i := 53) rfl) rfl
theorem wm_X5_activeWeight : Cond.instanceMethod yX5_activeWeight ∈ gW := gW_2 (List.mem_of_getElem? (i := 51) rfl) rfl
theorem wl_X5_activeWeight : Cond.selects RX5 yX5_activeWeight yX5_activeWeight ∈ gW := gW_2 (List.mem_of_getElem? (i := 52) rfl) rfl
theorem wc_X5_activeWeightIn : Cond.code yX5_activeWeightIn cX5_activeWeightIn 4 (some .int) ∈ gW := gW_2 (List.mem_of_getElem? (i := 57) rfl) rfl
theorem wm_X5_activeWeightIn : Cond.instanceMethod yX5_activeWeightIn ∈ gW := gW_2 (List.mem_of_getElem? (i := 55) rfl) rfl
theorem wl_X5_activeWeightIn : Cond.selects RX5 yX5_activeWeightIn yX5_activeWeightIn ∈ gW := gW_2 (List.mem_of_getElem? (i := 56) rfl) rfl
theorem wc_X5_isLapsed : Cond.code yX5_isLapsed cX5_isLapsed 2 (some .boolean) ∈ gW := gW_2 (List.mem_of_getElem? (i := 61) rfl) rfl
theorem wm_X5_isLapsed : Cond.instanceMethod yX5_isLapsed ∈ gW := gW_2 (List.mem_of_getElem? (i := 59) rfl) rfl
theorem wl_X5_isLapsed : Cond.selects RX5 yX5_isLapsed yX5_isLapsed ∈ gW := gW_2 (List.mem_of_getElem? (i := 60) rfl) rfl
theorem wc_X7_undo : Cond.code yX7_undo cX7_undo 1 (some .int) ∈ gW := gW_2 (List.mem_of_getElem? (i := 65) rfl) rfl
theorem wm_X7_undo : Cond.instanceMethod yX7_undo ∈ gW := gW_2 (List.mem_of_getElem? (i := 63) rfl) rfl
theorem wl_X7_undo : Cond.selects RX7 yX7_undo yX7_undo ∈ gW := gW_2 (List.mem_of_getElem? (i := 64) rfl) rfl
theorem wc_X3_restore : Cond.code yX3_restore cX3_restore 2 none ∈ gW := gW_2 (List.mem_of_getElem? (i := 69) rfl) rfl
theorem wm_X3_restore : Cond.instanceMethod yX3_restore ∈ gW := gW_2 (List.mem_of_getElem? (i := 67) rfl) rfl
theorem wl_X3_restore : Cond.selects RX3 yX3_restore yX3_restore ∈ gW := gW_2 (List.mem_of_getElem? (i := 68) rfl) rfl
theorem wc_X5_copyFrom : Cond.code yX5_copyFrom cX5_copyFrom 2 none ∈ gW := gW_2 (List.mem_of_getElem? (i := 73) rfl) rfl
theorem wm_X5_copyFrom : Cond.instanceMethod yX5_copyFrom ∈ gW := gW_2 (List.mem_of_getElem? (i := 71) rfl) rfl
theorem wl_X5_copyFrom : Cond.selects RX5 yX5_copyFrom yX5_copyFrom ∈ gW := gW_2 (List.mem_of_getElem? (i := 72) rfl) rfl
theorem wc_X4_copyFrom : Cond.code yX4_copyFrom cX4_copyFrom 2 none ∈ gW := gW_2 (List.mem_of_getElem? (i := 77) rfl) rfl
theorem wm_X4_copyFrom : Cond.instanceMethod yX4_copyFrom ∈ gW := gW_2 (List.mem_of_getElem? (i := 75) rfl) rfl
theorem wl_X4_copyFrom : Cond.selects RX4 yX4_copyFrom yX4_copyFrom ∈ gW := gW_2 (List.mem_of_getElem? (i := 76) rfl) rfl
theorem wc_X7_copyAll : Cond.code yX7_copyAll cX7_copyAll 2 none ∈ gW := gW_2 (List.mem_of_getElem? (i := 80) rfl) rfl
theorem ws_X7_copyAll : Cond.static yX7_copyAll ∈ gW := gW_2 (List.mem_of_getElem? (i := 79) rfl) rfl
theorem wc_J9_min_7cf53 : Cond.code yJ9_min_7cf53 cJ9_min_7cf53 2 (some .int) ∈ gW := gW_2 (List.mem_of_getElem? (i := 83) rfl) rfl
theorem ws_J9_min_7cf53 : Cond.static yJ9_min_7cf53 ∈ gW := gW_2 (List.mem_of_getElem? (i := 82) rfl) rfl
theorem wc_X2_copyFrom : Cond.code yX2_copyFrom cX2_copyFrom 2 none ∈ gW := gW_2 (List.mem_of_getElem? (i := 90) rfl) rfl
theorem wm_X2_copyFrom : Cond.instanceMethod yX2_copyFrom ∈ gW := gW_2 (List.mem_of_getElem? (i := 88) rfl) rfl
theorem wl_X2_copyFrom : Cond.selects RX2 yX2_copyFrom yX2_copyFrom ∈ gW := gW_2 (List.mem_of_getElem? (i := 89) rfl) rfl
theorem wc_X0_copyFrom : Cond.code yX0_copyFrom cX0_copyFrom 2 none ∈ gW := gW_2 (List.mem_of_getElem? (i := 95) rfl) rfl
theorem wm_X0_copyFrom : Cond.instanceMethod yX0_copyFrom ∈ gW := gW_2 (List.mem_of_getElem? (i := 93) rfl) rfl
theorem wl_X0_copyFrom : Cond.selects RX0 yX0_copyFrom yX0_copyFrom ∈ gW := gW_2 (List.mem_of_getElem? (i := 94) rfl) rfl
theorem wc_X1_copyFrom : Cond.code yX1_copyFrom cX1_copyFrom 2 none ∈ gW := gW_2 (List.mem_of_getElem? (i := 100) rfl) rfl
theorem wm_X1_copyFrom : Cond.instanceMethod yX1_copyFrom ∈ gW := gW_2 (List.mem_of_getElem? (i := 98) rfl) rfl
theorem wl_X1_copyFrom : Cond.selects RX1 yX1_copyFrom yX1_copyFrom ∈ gW := gW_2 (List.mem_of_getElem? (i := 99) rfl) rfl
theorem wc_L_cell : Cond.code yL_cell cL_cell 3 (some .int) ∈ gW := gW_2 (List.mem_of_getElem? (i := 105) rfl) rfl
theorem ws_L_cell : Cond.static yL_cell ∈ gW := gW_2 (List.mem_of_getElem? (i := 104) rfl) rfl
theorem wc_L_low : Cond.code yL_low cL_low 2 (some .int) ∈ gW := gW_2 (List.mem_of_getElem? (i := 109) rfl) rfl
theorem ws_L_low : Cond.static yL_low ∈ gW := gW_2 (List.mem_of_getElem? (i := 108) rfl) rfl
theorem wc_L_print : Cond.code yL_print cL_print 5 (some .long) ∈ gW := gW_2 (List.mem_of_getElem? (i := 113) rfl) rfl
theorem ws_L_print : Cond.static yL_print ∈ gW := gW_2 (List.mem_of_getElem? (i := 112) rfl) rfl
theorem wc_X7_tally : Cond.code yX7_tally cX7_tally 2 (some .int) ∈ gW := gW_2 (List.mem_of_getElem? (i := 119) rfl) rfl
theorem wm_X7_tally : Cond.instanceMethod yX7_tally ∈ gW := gW_2 (List.mem_of_getElem? (i := 117) rfl) rfl
theorem wl_X7_tally : Cond.selects RX7 yX7_tally yX7_tally ∈ gW := gW_2 (List.mem_of_getElem? (i := 118) rfl) rfl
theorem wc_X5_countVotes : Cond.code yX5_countVotes cX5_countVotes 3 none ∈ gW := gW_2 (List.mem_of_getElem? (i := 123) rfl) rfl
theorem wm_X5_countVotes : Cond.instanceMethod yX5_countVotes ∈ gW := gW_2 (List.mem_of_getElem? (i := 121) rfl) rfl
theorem wl_X5_countVotes : Cond.selects RX5 yX5_countVotes yX5_countVotes ∈ gW := gW_2 (List.mem_of_getElem? (i := 122) rfl) rfl
theorem wc_J7_fill_53178 : Cond.code yJ7_fill_53178 cJ7_fill_53178 4 none ∈ gW := gW_2 (List.mem_of_getElem? (i := 126) rfl) rfl
theorem ws_J7_fill_53178 : Cond.static yJ7_fill_53178 ∈ gW := gW_2 (List.mem_of_getElem? (i := 125) rfl) rfl
theorem wc_X4_hasVoted : Cond.code yX4_hasVoted cX4_hasVoted 2 (some .boolean) ∈ gW := gW_2 (List.mem_of_getElem? (i := 130) rfl) rfl
theorem wm_X4_hasVoted : Cond.instanceMethod yX4_hasVoted ∈ gW := gW_2 (List.mem_of_getElem? (i := 128) rfl) rfl
theorem wl_X4_hasVoted : Cond.selects RX4 yX4_hasVoted yX4_hasVoted ∈ gW := gW_2 (List.mem_of_getElem? (i := 129) rfl) rfl
theorem wc_X5_sumFor : Cond.code yX5_sumFor cX5_sumFor 3 (some .int) ∈ gW := gW_2 (List.mem_of_getElem? (i := 134) rfl) rfl
theorem wm_X5_sumFor : Cond.instanceMethod yX5_sumFor ∈ gW := gW_2 (List.mem_of_getElem? (i := 133) rfl) rfl
theorem wl_X5_sumFor : Cond.selects RX5 yX5_sumFor yX5_sumFor ∈ gW := gW_p1 (q := (yX5_sumFor, 6)) (List.mem_of_getElem? (i := 0) rfl)
theorem wc_X1_hasTechnicalOf : Cond.code yX1_hasTechnicalOf cX1_hasTechnicalOf 3 (some .boolean) ∈ gW := gW_2 (List.mem_of_getElem? (i := 138) rfl) rfl
theorem wm_X1_hasTechnicalOf : Cond.instanceMethod yX1_hasTechnicalOf ∈ gW := gW_2 (List.mem_of_getElem? (i := 136) rfl) rfl
theorem wl_X1_hasTechnicalOf : Cond.selects RX1 yX1_hasTechnicalOf yX1_hasTechnicalOf ∈ gW := gW_2 (List.mem_of_getElem? (i := 137) rfl) rfl
theorem wc_X5_isCarriedBy : Cond.code yX5_isCarriedBy cX5_isCarriedBy 3 (some .boolean) ∈ gW := gW_2 (List.mem_of_getElem? (i := 142) rfl) rfl
theorem wm_X5_isCarriedBy : Cond.instanceMethod yX5_isCarriedBy ∈ gW := gW_2 (List.mem_of_getElem? (i := 141) rfl) rfl
theorem wl_X5_isCarriedBy : Cond.selects RX5 yX5_isCarriedBy yX5_isCarriedBy ∈ gW := gW_p1 (q := (yX5_isCarriedBy, 6)) (List.mem_of_getElem? (i := 1) rfl)
theorem wc_X7_member : Cond.code yX7_member cX7_member 3 (some .int) ∈ gW := gW_2 (List.mem_of_getElem? (i := 146) rfl) rfl
theorem wm_X7_member : Cond.instanceMethod yX7_member ∈ gW := gW_2 (List.mem_of_getElem? (i := 144) rfl) rfl
theorem wl_X7_member : Cond.selects RX7 yX7_member yX7_member ∈ gW := gW_2 (List.mem_of_getElem? (i := 145) rfl) rfl
theorem wc_X4_has : Cond.code yX4_has cX4_has 2 (some .boolean) ∈ gW := gW_2 (List.mem_of_getElem? (i := 150) rfl) rfl
theorem wm_X4_has : Cond.instanceMethod yX4_has ∈ gW := gW_2 (List.mem_of_getElem? (i := 148) rfl) rfl
theorem wl_X4_has : Cond.selects RX4 yX4_has yX4_has ∈ gW := gW_2 (List.mem_of_getElem? (i := 149) rfl) rfl
theorem wc_X1_numberOf : Cond.code yX1_numberOf cX1_numberOf 4 (some .int) ∈ gW := gW_2 (List.mem_of_getElem? (i := 156) rfl) rfl
theorem wm_X1_numberOf : Cond.instanceMethod yX1_numberOf ∈ gW := gW_2 (List.mem_of_getElem? (i := 154) rfl) rfl
theorem wl_X1_numberOf : Cond.selects RX1 yX1_numberOf yX1_numberOf ∈ gW := gW_2 (List.mem_of_getElem? (i := 155) rfl) rfl
theorem wc_X7_clause : Cond.code yX7_clause cX7_clause 2 (some .int) ∈ gW := gW_2 (List.mem_of_getElem? (i := 160) rfl) rfl
theorem wm_X7_clause : Cond.instanceMethod yX7_clause ∈ gW := gW_2 (List.mem_of_getElem? (i := 158) rfl) rfl
theorem wl_X7_clause : Cond.selects RX7 yX7_clause yX7_clause ∈ gW := gW_2 (List.mem_of_getElem? (i := 159) rfl) rfl
theorem wc_X7_value : Cond.code yX7_value cX7_value 3 (some .int) ∈ gW := gW_2 (List.mem_of_getElem? (i := 164) rfl) rfl
theorem wm_X7_value : Cond.instanceMethod yX7_value ∈ gW := gW_2 (List.mem_of_getElem? (i := 162) rfl) rfl
theorem wl_X7_value : Cond.selects RX7 yX7_value yX7_value ∈ gW := gW_2 (List.mem_of_getElem? (i := 163) rfl) rfl
theorem wc_X2_find : Cond.code yX2_find cX2_find 3 (some .int) ∈ gW := gW_2 (List.mem_of_getElem? (i := 168) rfl) rfl
theorem wm_X2_find : Cond.instanceMethod yX2_find ∈ gW := gW_2 (List.mem_of_getElem? (i := 166) rfl) rfl
theorem wl_X2_find : Cond.selects RX2 yX2_find yX2_find ∈ gW := gW_2 (List.mem_of_getElem? (i := 167) rfl) rfl
theorem wc_X7_told : Cond.code yX7_told cX7_told 3 (some .int) ∈ gW := gW_2 (List.mem_of_getElem? (i := 172) rfl) rfl
theorem wm_X7_told : Cond.instanceMethod yX7_told ∈ gW := gW_2 (List.mem_of_getElem? (i := 170) rfl) rfl
theorem wl_X7_told : Cond.selects RX7 yX7_told yX7_told ∈ gW := gW_2 (List.mem_of_getElem? (i := 171) rfl) rfl
theorem wc_X1_has : Cond.code yX1_has cX1_has 2 (some .boolean) ∈ gW := gW_2 (List.mem_of_getElem? (i := 176) rfl) rfl
theorem wm_X1_has : Cond.instanceMethod yX1_has ∈ gW := gW_2 (List.mem_of_getElem? (i := 174) rfl) rfl
theorem wl_X1_has : Cond.selects RX1 yX1_has yX1_has ∈ gW := gW_2 (List.mem_of_getElem? (i := 175) rfl) rfl
theorem wc_X1_isResolved : Cond.code yX1_isResolved cX1_isResolved 2 (some .boolean) ∈ gW := gW_2 (List.mem_of_getElem? (i := 180) rfl) rfl
theorem wm_X1_isResolved : Cond.instanceMethod yX1_isResolved ∈ gW := gW_2 (List.mem_of_getElem? (i := 178) rfl) rfl
theorem wl_X1_isResolved : Cond.selects RX1 yX1_isResolved yX1_isResolved ∈ gW := gW_2 (List.mem_of_getElem? (i := 179) rfl) rfl
theorem wc_X1_gaveValue : Cond.code yX1_gaveValue cX1_gaveValue 2 (some .boolean) ∈ gW := gW_2 (List.mem_of_getElem? (i := 184) rfl) rfl
theorem wm_X1_gaveValue : Cond.instanceMethod yX1_gaveValue ∈ gW := gW_2 (List.mem_of_getElem? (i := 182) rfl) rfl
theorem wl_X1_gaveValue : Cond.selects RX1 yX1_gaveValue yX1_gaveValue ∈ gW := gW_2 (List.mem_of_getElem? (i := 183) rfl) rfl
theorem wc_X7_changes : Cond.code yX7_changes cX7_changes 2 (some .int) ∈ gW := gW_2 (List.mem_of_getElem? (i := 188) rfl) rfl
theorem wm_X7_changes : Cond.instanceMethod yX7_changes ∈ gW := gW_2 (List.mem_of_getElem? (i := 186) rfl) rfl
theorem wl_X7_changes : Cond.selects RX7 yX7_changes yX7_changes ∈ gW := gW_2 (List.mem_of_getElem? (i := 187) rfl) rfl
theorem wc_X2_hasEdition : Cond.code yX2_hasEdition cX2_hasEdition 2 (some .boolean) ∈ gW := gW_2 (List.mem_of_getElem? (i := 192) rfl) rfl
theorem wm_X2_hasEdition : Cond.instanceMethod yX2_hasEdition ∈ gW := gW_2 (List.mem_of_getElem? (i := 190) rfl) rfl
theorem wl_X2_hasEdition : Cond.selects RX2 yX2_hasEdition yX2_hasEdition ∈ gW := gW_2 (List.mem_of_getElem? (i := 191) rfl) rfl
theorem wc_X2_changesOf : Cond.code yX2_changesOf cX2_changesOf 4 (some .int) ∈ gW := gW_2 (List.mem_of_getElem? (i := 196) rfl) rfl
theorem wm_X2_changesOf : Cond.instanceMethod yX2_changesOf ∈ gW := gW_2 (List.mem_of_getElem? (i := 194) rfl) rfl
theorem wl_X2_changesOf : Cond.selects RX2 yX2_changesOf yX2_changesOf ∈ gW := gW_2 (List.mem_of_getElem? (i := 195) rfl) rfl
theorem wc_X2_differs : Cond.code yX2_differs cX2_differs 3 (some .boolean) ∈ gW := gW_2 (List.mem_of_getElem? (i := 200) rfl) rfl
theorem wm_X2_differs : Cond.instanceMethod yX2_differs ∈ gW := gW_2 (List.mem_of_getElem? (i := 198) rfl) rfl
theorem wl_X2_differs : Cond.selects RX2 yX2_differs yX2_differs ∈ gW := gW_2 (List.mem_of_getElem? (i := 199) rfl) rfl
theorem wc_X2_slot : Cond.code yX2_slot cX2_slot 2 (some .int) ∈ gW := gW_2 (List.mem_of_getElem? (i := 203) rfl) rfl
theorem ws_X2_slot : Cond.static yX2_slot ∈ gW := gW_2 (List.mem_of_getElem? (i := 202) rfl) rfl
theorem wc_X7_change : Cond.code yX7_change cX7_change 5 (some .int) ∈ gW := gW_2 (List.mem_of_getElem? (i := 207) rfl) rfl
theorem wm_X7_change : Cond.instanceMethod yX7_change ∈ gW := gW_2 (List.mem_of_getElem? (i := 205) rfl) rfl
theorem wl_X7_change : Cond.selects RX7 yX7_change yX7_change ∈ gW := gW_2 (List.mem_of_getElem? (i := 206) rfl) rfl
theorem wc_X2_placeOfChange : Cond.code yX2_placeOfChange cX2_placeOfChange 5 (some .int) ∈ gW := gW_2 (List.mem_of_getElem? (i := 211) rfl) rfl
theorem wm_X2_placeOfChange : Cond.instanceMethod yX2_placeOfChange ∈ gW := gW_2 (List.mem_of_getElem? (i := 209) rfl) rfl
theorem wl_X2_placeOfChange : Cond.selects RX2 yX2_placeOfChange yX2_placeOfChange ∈ gW := gW_2 (List.mem_of_getElem? (i := 210) rfl) rfl
theorem wc_X7_next : Cond.code yX7_next cX7_next 2 (some .int) ∈ gW := gW_2 (List.mem_of_getElem? (i := 216) rfl) rfl
theorem wm_X7_next : Cond.instanceMethod yX7_next ∈ gW := gW_2 (List.mem_of_getElem? (i := 214) rfl) rfl
theorem wl_X7_next : Cond.selects RX7 yX7_next yX7_next ∈ gW := gW_2 (List.mem_of_getElem? (i := 215) rfl) rfl
theorem wc_X1_firstPending : Cond.code yX1_firstPending cX1_firstPending 4 (some .int) ∈ gW := gW_2 (List.mem_of_getElem? (i := 220) rfl) rfl
theorem wm_X1_firstPending : Cond.instanceMethod yX1_firstPending ∈ gW := gW_2 (List.mem_of_getElem? (i := 218) rfl) rfl
theorem wl_X1_firstPending : Cond.selects RX1 yX1_firstPending yX1_firstPending ∈ gW := gW_2 (List.mem_of_getElem? (i := 219) rfl) rfl
theorem wc_X1_isAhead : Cond.code yX1_isAhead cX1_isAhead 4 (some .boolean) ∈ gW := gW_2 (List.mem_of_getElem? (i := 224) rfl) rfl
theorem wm_X1_isAhead : Cond.instanceMethod yX1_isAhead ∈ gW := gW_2 (List.mem_of_getElem? (i := 223) rfl) rfl
theorem wl_X1_isAhead : Cond.selects RX1 yX1_isAhead yX1_isAhead ∈ gW := gW_p1 (q := (yX1_isAhead, 10)) (List.mem_of_getElem? (i := 2) rfl)
theorem wc_L_refused : Cond.code yL_refused cL_refused 7 (some .boolean) ∈ gW := gW_2 (List.mem_of_getElem? (i := 227) rfl) rfl
theorem ws_L_refused : Cond.static yL_refused ∈ gW := gW_2 (List.mem_of_getElem? (i := 226) rfl) rfl
theorem wc_X7_addMember : Cond.code yX7_addMember cX7_addMember 2 (some .int) ∈ gW := gW_2 (List.mem_of_getElem? (i := 231) rfl) rfl
theorem wm_X7_addMember : Cond.instanceMethod yX7_addMember ∈ gW := gW_2 (List.mem_of_getElem? (i := 229) rfl) rfl
theorem wl_X7_addMember : Cond.selects RX7 yX7_addMember yX7_addMember ∈ gW := gW_2 (List.mem_of_getElem? (i := 230) rfl) rfl
theorem wc_X3_keep : Cond.code yX3_keep cX3_keep 2 none ∈ gW := gW_2 (List.mem_of_getElem? (i := 235) rfl) rfl
theorem wm_X3_keep : Cond.instanceMethod yX3_keep ∈ gW := gW_2 (List.mem_of_getElem? (i := 233) rfl) rfl
theorem wl_X3_keep : Cond.selects RX3 yX3_keep yX3_keep ∈ gW := gW_2 (List.mem_of_getElem? (i := 234) rfl) rfl
theorem wc_X4_append : Cond.code yX4_append cX4_append 2 (some .int) ∈ gW := gW_2 (List.mem_of_getElem? (i := 239) rfl) rfl
theorem wm_X4_append : Cond.instanceMethod yX4_append ∈ gW := gW_2 (List.mem_of_getElem? (i := 237) rfl) rfl
theorem wl_X4_append : Cond.selects RX4 yX4_append yX4_append ∈ gW := gW_2 (List.mem_of_getElem? (i := 238) rfl) rfl
theorem wc_X7_addClause : Cond.code yX7_addClause cX7_addClause 3 (some .int) ∈ gW := gW_3 (List.mem_of_getElem? (i := 3) rfl) rfl
theorem wm_X7_addClause : Cond.instanceMethod yX7_addClause ∈ gW := gW_3 (List.mem_of_getElem? (i := 1) rfl) rfl
theorem wl_X7_addClause : Cond.selects RX7 yX7_addClause yX7_addClause ∈ gW := gW_3 (List.mem_of_getElem? (i := 2) rfl) rfl
theorem wc_X7_isValue : Cond.code yX7_isValue cX7_isValue 1 (some .boolean) ∈ gW := gW_3 (List.mem_of_getElem? (i := 6) rfl) rfl
theorem ws_X7_isValue : Cond.static yX7_isValue ∈ gW := gW_3 (List.mem_of_getElem? (i := 5) rfl) rfl
theorem wc_X2_insert : Cond.code yX2_insert cX2_insert 4 none ∈ gW := gW_3 (List.mem_of_getElem? (i := 10) rfl) rfl
theorem wm_X2_insert : Cond.instanceMethod yX2_insert ∈ gW := gW_3 (List.mem_of_getElem? (i := 8) rfl) rfl
theorem wl_X2_insert : Cond.selects RX2 yX2_insert yX2_insert ∈ gW := gW_3 (List.mem_of_getElem? (i := 9) rfl) rfl
theorem wc_X7_set : Cond.code yX7_set cX7_set 4 (some .int) ∈ gW := gW_3 (List.mem_of_getElem? (i := 14) rfl) rfl
theorem wm_X7_set : Cond.instanceMethod yX7_set ∈ gW := gW_3 (List.mem_of_getElem? (i := 12) rfl) rfl
theorem wl_X7_set : Cond.selects RX7 yX7_set yX7_set ∈ gW := gW_3 (List.mem_of_getElem? (i := 13) rfl) rfl
theorem wc_X7_valueIn : Cond.code yX7_valueIn cX7_valueIn 4 (some .int) ∈ gW := gW_3 (List.mem_of_getElem? (i := 22) rfl) rfl
theorem wm_X7_valueIn : Cond.instanceMethod yX7_valueIn ∈ gW := gW_3 (List.mem_of_getElem? (i := 20) rfl) rfl
theorem wl_X7_valueIn : Cond.selects RX7 yX7_valueIn yX7_valueIn ∈ gW := gW_3 (List.mem_of_getElem? (i := 21) rfl) rfl
theorem wc_X7_vote : Cond.code yX7_vote cX7_vote 3 (some .int) ∈ gW := gW_3 (List.mem_of_getElem? (i := 26) rfl) rfl
theorem wm_X7_vote : Cond.instanceMethod yX7_vote ∈ gW := gW_3 (List.mem_of_getElem? (i := 24) rfl) rfl
theorem wl_X7_vote : Cond.selects RX7 yX7_vote yX7_vote ∈ gW := gW_3 (List.mem_of_getElem? (i := 25) rfl) rfl
theorem wc_X4_voters : Cond.code yX4_voters cX4_voters 3 (some .int) ∈ gW := gW_3 (List.mem_of_getElem? (i := 30) rfl) rfl
theorem wm_X4_voters : Cond.instanceMethod yX4_voters ∈ gW := gW_3 (List.mem_of_getElem? (i := 28) rfl) rfl
theorem wl_X4_voters : Cond.selects RX4 yX4_voters yX4_voters ∈ gW := gW_3 (List.mem_of_getElem? (i := 29) rfl) rfl
theorem wc_X7_pass : Cond.code yX7_pass cX7_pass 2 (some .int) ∈ gW := gW_3 (List.mem_of_getElem? (i := 35) rfl) rfl
theorem wm_X7_pass : Cond.instanceMethod yX7_pass ∈ gW := gW_3 (List.mem_of_getElem? (i := 33) rfl) rfl
theorem wl_X7_pass : Cond.selects RX7 yX7_pass yX7_pass ∈ gW := gW_3 (List.mem_of_getElem? (i := 34) rfl) rfl
theorem wc_X5_endBallot : Cond.code yX5_endBallot cX5_endBallot 1 none ∈ gW := gW_3 (List.mem_of_getElem? (i := 39) rfl) rfl
theorem wm_X5_endBallot : Cond.instanceMethod yX5_endBallot ∈ gW := gW_3 (List.mem_of_getElem? (i := 37) rfl) rfl
theorem wl_X5_endBallot : Cond.selects RX5 yX5_endBallot yX5_endBallot ∈ gW := gW_3 (List.mem_of_getElem? (i := 38) rfl) rfl
theorem wc_X4_noteMisses : Cond.code yX4_noteMisses cX4_noteMisses 2 none ∈ gW := gW_3 (List.mem_of_getElem? (i := 44) rfl) rfl
theorem wm_X4_noteMisses : Cond.instanceMethod yX4_noteMisses ∈ gW := gW_3 (List.mem_of_getElem? (i := 42) rfl) rfl
theorem wl_X4_noteMisses : Cond.selects RX4 yX4_noteMisses yX4_noteMisses ∈ gW := gW_3 (List.mem_of_getElem? (i := 43) rfl) rfl
theorem wc_X1_makeAllPending : Cond.code yX1_makeAllPending cX1_makeAllPending 2 none ∈ gW := gW_3 (List.mem_of_getElem? (i := 48) rfl) rfl
theorem wm_X1_makeAllPending : Cond.instanceMethod yX1_makeAllPending ∈ gW := gW_3 (List.mem_of_getElem? (i := 46) rfl) rfl
theorem wl_X1_makeAllPending : Cond.selects RX1 yX1_makeAllPending yX1_makeAllPending ∈ gW := gW_3 (List.mem_of_getElem? (i := 47) rfl) rfl
theorem wc_X7_comment : Cond.code yX7_comment cX7_comment 6 (some .int) ∈ gW := gW_3 (List.mem_of_getElem? (i := 52) rfl) rfl
theorem wm_X7_comment : Cond.instanceMethod yX7_comment ∈ gW := gW_3 (List.mem_of_getElem? (i := 50) rfl) rfl
theorem wl_X7_comment : Cond.selects RX7 yX7_comment yX7_comment ∈ gW := gW_3 (List.mem_of_getElem? (i := 51) rfl) rfl
theorem wc_X1_append : Cond.code yX1_append cX1_append 5 (some .int) ∈ gW := gW_3 (List.mem_of_getElem? (i := 56) rfl) rfl
theorem wm_X1_append : Cond.instanceMethod yX1_append ∈ gW := gW_3 (List.mem_of_getElem? (i := 54) rfl) rfl
theorem wl_X1_append : Cond.selects RX1 yX1_append yX1_append ∈ gW := gW_3 (List.mem_of_getElem? (i := 55) rfl) rfl
theorem wc_X7_resolve : Cond.code yX7_resolve cX7_resolve 5 (some .int) ∈ gW := gW_3 (List.mem_of_getElem? (i := 60) rfl) rfl
theorem wm_X7_resolve : Cond.instanceMethod yX7_resolve ∈ gW := gW_3 (List.mem_of_getElem? (i := 58) rfl) rfl
theorem wl_X7_resolve : Cond.selects RX7 yX7_resolve yX7_resolve ∈ gW := gW_3 (List.mem_of_getElem? (i := 59) rfl) rfl
theorem wc_X2_canGet : Cond.code yX2_canGet cX2_canGet 3 (some .boolean) ∈ gW := gW_3 (List.mem_of_getElem? (i := 64) rfl) rfl
theorem wm_X2_canGet : Cond.instanceMethod yX2_canGet ∈ gW := gW_3 (List.mem_of_getElem? (i := 62) rfl) rfl
theorem wl_X2_canGet : Cond.selects RX2 yX2_canGet yX2_canGet ∈ gW := gW_3 (List.mem_of_getElem? (i := 63) rfl) rfl
theorem wc_X5_settle : Cond.code yX5_settle cX5_settle 4 none ∈ gW := gW_3 (List.mem_of_getElem? (i := 68) rfl) rfl
theorem wm_X5_settle : Cond.instanceMethod yX5_settle ∈ gW := gW_3 (List.mem_of_getElem? (i := 66) rfl) rfl
theorem wl_X5_settle : Cond.selects RX5 yX5_settle yX5_settle ∈ gW := gW_3 (List.mem_of_getElem? (i := 67) rfl) rfl
theorem wc_X1_resolveAs : Cond.code yX1_resolveAs cX1_resolveAs 5 none ∈ gW := gW_3 (List.mem_of_getElem? (i := 72) rfl) rfl
theorem wm_X1_resolveAs : Cond.instanceMethod yX1_resolveAs ∈ gW := gW_3 (List.mem_of_getElem? (i := 70) rfl) rfl
theorem wl_X1_resolveAs : Cond.selects RX1 yX1_resolveAs yX1_resolveAs ∈ gW := gW_3 (List.mem_of_getElem? (i := 71) rfl) rfl
theorem wc_X2_isChanged : Cond.code yX2_isChanged cX2_isChanged 2 (some .boolean) ∈ gW := gW_3 (List.mem_of_getElem? (i := 78) rfl) rfl
theorem wm_X2_isChanged : Cond.instanceMethod yX2_isChanged ∈ gW := gW_3 (List.mem_of_getElem? (i := 76) rfl) rfl
theorem wl_X2_isChanged : Cond.selects RX2 yX2_isChanged yX2_isChanged ∈ gW := gW_3 (List.mem_of_getElem? (i := 77) rfl) rfl
theorem wc_X5_bringEdition : Cond.code yX5_bringEdition cX5_bringEdition 4 none ∈ gW := gW_3 (List.mem_of_getElem? (i := 82) rfl) rfl
theorem wm_X5_bringEdition : Cond.instanceMethod yX5_bringEdition ∈ gW := gW_3 (List.mem_of_getElem? (i := 81) rfl) rfl
theorem wl_X5_bringEdition : Cond.selects RX5 yX5_bringEdition yX5_bringEdition ∈ gW := gW_p1 (q := (yX5_bringEdition, 6)) (List.mem_of_getElem? (i := 3) rfl)
theorem wc_X1_firstBehind : Cond.code yX1_firstBehind cX1_firstBehind 5 (some .int) ∈ gW := gW_3 (List.mem_of_getElem? (i := 87) rfl) rfl
theorem wm_X1_firstBehind : Cond.instanceMethod yX1_firstBehind ∈ gW := gW_3 (List.mem_of_getElem? (i := 85) rfl) rfl
theorem wl_X1_firstBehind : Cond.selects RX1 yX1_firstBehind yX1_firstBehind ∈ gW := gW_3 (List.mem_of_getElem? (i := 86) rfl) rfl
theorem wc_X7_appeal : Cond.code yX7_appeal cX7_appeal 4 (some .int) ∈ gW := gW_3 (List.mem_of_getElem? (i := 92) rfl) rfl
theorem wm_X7_appeal : Cond.instanceMethod yX7_appeal ∈ gW := gW_3 (List.mem_of_getElem? (i := 90) rfl) rfl
theorem wl_X7_appeal : Cond.selects RX7 yX7_appeal yX7_appeal ∈ gW := gW_3 (List.mem_of_getElem? (i := 91) rfl) rfl
theorem wc_X4_isSet : Cond.code yX4_isSet cX4_isSet 2 (some .boolean) ∈ gW := gW_3 (List.mem_of_getElem? (i := 96) rfl) rfl
theorem wm_X4_isSet : Cond.instanceMethod yX4_isSet ∈ gW := gW_3 (List.mem_of_getElem? (i := 94) rfl) rfl
theorem wl_X4_isSet : Cond.selects RX4 yX4_isSet yX4_isSet ∈ gW := gW_3 (List.mem_of_getElem? (i := 95) rfl) rfl
theorem wc_X5_reopen : Cond.code yX5_reopen cX5_reopen 4 none ∈ gW := gW_3 (List.mem_of_getElem? (i := 101) rfl) rfl
theorem wm_X5_reopen : Cond.instanceMethod yX5_reopen ∈ gW := gW_3 (List.mem_of_getElem? (i := 99) rfl) rfl
theorem wl_X5_reopen : Cond.selects RX5 yX5_reopen yX5_reopen ∈ gW := gW_3 (List.mem_of_getElem? (i := 100) rfl) rfl
theorem wc_X7_type : Cond.code yX7_type cX7_type 2 (some .int) ∈ gW := gW_3 (List.mem_of_getElem? (i := 105) rfl) rfl
theorem wm_X7_type : Cond.instanceMethod yX7_type ∈ gW := gW_3 (List.mem_of_getElem? (i := 103) rfl) rfl
theorem wl_X7_type : Cond.selects RX7 yX7_type yX7_type ∈ gW := gW_3 (List.mem_of_getElem? (i := 104) rfl) rfl
theorem wc_X6_append : Cond.code yX6_append cX6_append 2 none ∈ gW := gW_3 (List.mem_of_getElem? (i := 109) rfl) rfl
theorem wm_X6_append : Cond.instanceMethod yX6_append ∈ gW := gW_3 (List.mem_of_getElem? (i := 107) rfl) rfl
theorem wl_X6_append : Cond.selects RX6 yX6_append yX6_append ∈ gW := gW_3 (List.mem_of_getElem? (i := 108) rfl) rfl
theorem wc_X7_fault : Cond.code yX7_fault cX7_fault 3 (some .int) ∈ gW := gW_3 (List.mem_of_getElem? (i := 113) rfl) rfl
theorem wm_X7_fault : Cond.instanceMethod yX7_fault ∈ gW := gW_3 (List.mem_of_getElem? (i := 111) rfl) rfl
theorem wl_X7_fault : Cond.selects RX7 yX7_fault yX7_fault ∈ gW := gW_3 (List.mem_of_getElem? (i := 112) rfl) rfl
theorem wc_X7_firstFault : Cond.code yX7_firstFault cX7_firstFault 4 (some .int) ∈ gW := gW_3 (List.mem_of_getElem? (i := 117) rfl) rfl
theorem wm_X7_firstFault : Cond.instanceMethod yX7_firstFault ∈ gW := gW_3 (List.mem_of_getElem? (i := 116) rfl) rfl
theorem wl_X7_firstFault : Cond.selects RX7 yX7_firstFault yX7_firstFault ∈ gW := gW_p1 (q := (yX7_firstFault, 3)) (List.mem_of_getElem? (i := 4) rfl)
theorem wc_X6_rewind : Cond.code yX6_rewind cX6_rewind 1 none ∈ gW := gW_3 (List.mem_of_getElem? (i := 121) rfl) rfl
theorem wm_X6_rewind : Cond.instanceMethod yX6_rewind ∈ gW := gW_3 (List.mem_of_getElem? (i := 119) rfl) rfl
theorem wl_X6_rewind : Cond.selects RX6 yX6_rewind yX6_rewind ∈ gW := gW_3 (List.mem_of_getElem? (i := 120) rfl) rfl
theorem wc_X6_isAtEnd : Cond.code yX6_isAtEnd cX6_isAtEnd 1 (some .boolean) ∈ gW := gW_3 (List.mem_of_getElem? (i := 125) rfl) rfl
theorem wm_X6_isAtEnd : Cond.instanceMethod yX6_isAtEnd ∈ gW := gW_3 (List.mem_of_getElem? (i := 123) rfl) rfl
theorem wl_X6_isAtEnd : Cond.selects RX6 yX6_isAtEnd yX6_isAtEnd ∈ gW := gW_3 (List.mem_of_getElem? (i := 124) rfl) rfl
theorem wc_X6_readComment : Cond.code yX6_readComment cX6_readComment 4 (some .boolean) ∈ gW := gW_3 (List.mem_of_getElem? (i := 129) rfl) rfl
theorem wm_X6_readComment : Cond.instanceMethod yX6_readComment ∈ gW := gW_3 (List.mem_of_getElem? (i := 127) rfl) rfl
theorem wl_X6_readComment : Cond.selects RX6 yX6_readComment yX6_readComment ∈ gW := gW_3 (List.mem_of_getElem? (i := 128) rfl) rfl
theorem wc_X6_digitsAt : Cond.code yX6_digitsAt cX6_digitsAt 5 (some .int) ∈ gW := gW_3 (List.mem_of_getElem? (i := 133) rfl) rfl
theorem wm_X6_digitsAt : Cond.instanceMethod yX6_digitsAt ∈ gW := gW_3 (List.mem_of_getElem? (i := 132) rfl) rfl
theorem wl_X6_digitsAt : Cond.selects RX6 yX6_digitsAt yX6_digitsAt ∈ gW := gW_p1 (q := (yX6_digitsAt, 7)) (List.mem_of_getElem? (i := 5) rfl)
theorem wc_X6_signAt : Cond.code yX6_signAt cX6_signAt 2 (some .char) ∈ gW := gW_3 (List.mem_of_getElem? (i := 137) rfl) rfl
theorem wm_X6_signAt : Cond.instanceMethod yX6_signAt ∈ gW := gW_3 (List.mem_of_getElem? (i := 136) rfl) rfl
theorem wl_X6_signAt : Cond.selects RX6 yX6_signAt yX6_signAt ∈ gW := gW_p1 (q := (yX6_signAt, 7)) (List.mem_of_getElem? (i := 6) rfl)
theorem wc_X6_numberAt : Cond.code yX6_numberAt cX6_numberAt 5 (some .int) ∈ gW := gW_3 (List.mem_of_getElem? (i := 141) rfl) rfl
theorem wm_X6_numberAt : Cond.instanceMethod yX6_numberAt ∈ gW := gW_3 (List.mem_of_getElem? (i := 140) rfl) rfl
theorem wl_X6_numberAt : Cond.selects RX6 yX6_numberAt yX6_numberAt ∈ gW := gW_p1 (q := (yX6_numberAt, 7)) (List.mem_of_getElem? (i := 7) rfl)
theorem wc_X7_enter : Cond.code yX7_enter cX7_enter 5 (some .int) ∈ gW := gW_3 (List.mem_of_getElem? (i := 145) rfl) rfl
theorem wm_X7_enter : Cond.instanceMethod yX7_enter ∈ gW := gW_3 (List.mem_of_getElem? (i := 143) rfl) rfl
theorem wl_X7_enter : Cond.selects RX7 yX7_enter yX7_enter ∈ gW := gW_3 (List.mem_of_getElem? (i := 144) rfl) rfl
theorem wc_X7_lacking : Cond.code yX7_lacking cX7_lacking 6 (some .int) ∈ gW := gW_3 (List.mem_of_getElem? (i := 149) rfl) rfl
theorem wm_X7_lacking : Cond.instanceMethod yX7_lacking ∈ gW := gW_3 (List.mem_of_getElem? (i := 147) rfl) rfl
theorem wl_X7_lacking : Cond.selects RX7 yX7_lacking yX7_lacking ∈ gW := gW_3 (List.mem_of_getElem? (i := 148) rfl) rfl
theorem wc_X7_dividedUp : Cond.code yX7_dividedUp cX7_dividedUp 2 (some .int) ∈ gW := gW_3 (List.mem_of_getElem? (i := 152) rfl) rfl
theorem ws_X7_dividedUp : Cond.static yX7_dividedUp ∈ gW := gW_3 (List.mem_of_getElem? (i := 151) rfl) rfl
theorem wc_J9_max_7cf53 : Cond.code yJ9_max_7cf53 cJ9_max_7cf53 2 (some .int) ∈ gW := gW_3 (List.mem_of_getElem? (i := 155) rfl) rfl
theorem ws_J9_max_7cf53 : Cond.static yJ9_max_7cf53 ∈ gW := gW_3 (List.mem_of_getElem? (i := 154) rfl) rfl
theorem wc_X7_open : Cond.code yX7_open cX7_open 1 (some .int) ∈ gW := gW_3 (List.mem_of_getElem? (i := 159) rfl) rfl
theorem wm_X7_open : Cond.instanceMethod yX7_open ∈ gW := gW_3 (List.mem_of_getElem? (i := 157) rfl) rfl
theorem wl_X7_open : Cond.selects RX7 yX7_open yX7_open ∈ gW := gW_3 (List.mem_of_getElem? (i := 158) rfl) rfl
theorem wc_X5_openBallot : Cond.code yX5_openBallot cX5_openBallot 1 none ∈ gW := gW_3 (List.mem_of_getElem? (i := 163) rfl) rfl
theorem wm_X5_openBallot : Cond.instanceMethod yX5_openBallot ∈ gW := gW_3 (List.mem_of_getElem? (i := 161) rfl) rfl
theorem wl_X5_openBallot : Cond.selects RX5 yX5_openBallot yX5_openBallot ∈ gW := gW_3 (List.mem_of_getElem? (i := 162) rfl) rfl
theorem wc_L_areMembers : Cond.code yL_areMembers cL_areMembers 6 (some .boolean) ∈ gW := gW_3 (List.mem_of_getElem? (i := 166) rfl) rfl
theorem ws_L_areMembers : Cond.static yL_areMembers ∈ gW := gW_3 (List.mem_of_getElem? (i := 165) rfl) rfl
theorem wc_L_areVotes : Cond.code yL_areVotes cL_areVotes 11 (some .boolean) ∈ gW := gW_3 (List.mem_of_getElem? (i := 169) rfl) rfl
theorem ws_L_areVotes : Cond.static yL_areVotes ∈ gW := gW_3 (List.mem_of_getElem? (i := 168) rfl) rfl
theorem wc_L_areComments : Cond.code yL_areComments cL_areComments 9 (some .boolean) ∈ gW := gW_3 (List.mem_of_getElem? (i := 172) rfl) rfl
theorem ws_L_areComments : Cond.static yL_areComments ∈ gW := gW_3 (List.mem_of_getElem? (i := 171) rfl) rfl
theorem wc_L_areEditions : Cond.code yL_areEditions cL_areEditions 10 (some .boolean) ∈ gW := gW_3 (List.mem_of_getElem? (i := 175) rfl) rfl
theorem ws_L_areEditions : Cond.static yL_areEditions ∈ gW := gW_3 (List.mem_of_getElem? (i := 174) rfl) rfl
theorem wc_L_isAppealed : Cond.code yL_isAppealed cL_isAppealed 13 (some .boolean) ∈ gW := gW_3 (List.mem_of_getElem? (i := 178) rfl) rfl
theorem ws_L_isAppealed : Cond.static yL_isAppealed ∈ gW := gW_3 (List.mem_of_getElem? (i := 177) rfl) rfl
theorem wc_L_acts : Cond.code yL_acts cL_acts 6 (some .int) ∈ gW := gW_3 (List.mem_of_getElem? (i := 181) rfl) rfl
theorem ws_L_acts : Cond.static yL_acts ∈ gW := gW_3 (List.mem_of_getElem? (i := 180) rfl) rfl
theorem wf_X4_9 : Cond.fieldLink RX4 9 "CommitteeBallots$Members" "weight" "[I" ∈ gW := gW_1 (List.mem_of_getElem? (i := 32) rfl) rfl
theorem wf_X5_86 : Cond.fieldLink RX5 86 "CommitteeBallots$Members" "weight" "[I" ∈ gW := gW_1 (List.mem_of_getElem? (i := 33) rfl) rfl
theorem wf_X7_88 : Cond.fieldLink RX7 88 "CommitteeBallots$Members" "weight" "[I" ∈ gW := gW_1 (List.mem_of_getElem? (i := 34) rfl) rfl
theorem wf_X1_51 : Cond.fieldLink RX1 51 "CommitteeBallots$Members" "weight" "[I" ∈ gW := gW_1 (List.mem_of_getElem? (i := 35) rfl) rfl
theorem wf_X4_15 : Cond.fieldLink RX4 15 "CommitteeBallots$Members" "misses" "[I" ∈ gW := gW_1 (List.mem_of_getElem? (i := 36) rfl) rfl
theorem wf_X5_72 : Cond.fieldLink RX5 72 "CommitteeBallots$Members" "misses" "[I" ∈ gW := gW_1 (List.mem_of_getElem? (i := 37) rfl) rfl
theorem wf_X7_91 : Cond.fieldLink RX7 91 "CommitteeBallots$Members" "misses" "[I" ∈ gW := gW_1 (List.mem_of_getElem? (i := 38) rfl) rfl
theorem wf_X4_18 : Cond.fieldLink RX4 18 "CommitteeBallots$Members" "given" "[I" ∈ gW := gW_1 (List.mem_of_getElem? (i := 39) rfl) rfl
theorem wf_X7_100 : Cond.fieldLink RX7 100 "CommitteeBallots$Members" "given" "[I" ∈ gW := gW_1 (List.mem_of_getElem? (i := 40) rfl) rfl
theorem wf_X5_106 : Cond.fieldLink RX5 106 "CommitteeBallots$Members" "given" "[I" ∈ gW := gW_1 (List.mem_of_getElem? (i := 41) rfl) rfl
theorem wf_X4_21 : Cond.fieldLink RX4 21 "CommitteeBallots$Members" "ballotsVoted" "[I" ∈ gW := gW_1 (List.mem_of_getElem? (i := 42) rfl) rfl
theorem wf_X7_112 : Cond.fieldLink RX7 112 "CommitteeBallots$Members" "ballotsVoted" "[I" ∈ gW := gW_1 (List.mem_of_getElem? (i := 43) rfl) rfl
theorem wf_X7_34 : Cond.fieldLink RX7 34 "CommitteeBallots$Members" "size" "I" ∈ gW := gW_1 (List.mem_of_getElem? (i := 44) rfl) rfl
theorem wf_X4_28 : Cond.fieldLink RX4 28 "CommitteeBallots$Members" "size" "I" ∈ gW := gW_1 (List.mem_of_getElem? (i := 45) rfl) rfl
theorem wf_X5_75 : Cond.fieldLink RX5 75 "CommitteeBallots$Members" "size" "I" ∈ gW := gW_1 (List.mem_of_getElem? (i := 46) rfl) rfl
theorem wf_X2_9 : Cond.fieldLink RX2 9 "CommitteeBallots$Document" "number" "[I" ∈ gW := gW_1 (List.mem_of_getElem? (i := 65) rfl) rfl
theorem wf_X7_128 : Cond.fieldLink RX7 128 "CommitteeBallots$Document" "number" "[I" ∈ gW := gW_1 (List.mem_of_getElem? (i := 66) rfl) rfl
theorem wf_X2_15 : Cond.fieldLink RX2 15 "CommitteeBallots$Document" "present" "[I" ∈ gW := gW_1 (List.mem_of_getElem? (i := 67) rfl) rfl
theorem wf_X7_115 : Cond.fieldLink RX7 115 "CommitteeBallots$Document" "present" "[I" ∈ gW := gW_1 (List.mem_of_getElem? (i := 68) rfl) rfl
theorem wf_X5_115 : Cond.fieldLink RX5 115 "CommitteeBallots$Document" "present" "[I" ∈ gW := gW_1 (List.mem_of_getElem? (i := 69) rfl) rfl
theorem wf_X2_18 : Cond.fieldLink RX2 18 "CommitteeBallots$Document" "atOpening" "[I" ∈ gW := gW_1 (List.mem_of_getElem? (i := 70) rfl) rfl
theorem wf_X5_118 : Cond.fieldLink RX5 118 "CommitteeBallots$Document" "atOpening" "[I" ∈ gW := gW_1 (List.mem_of_getElem? (i := 71) rfl) rfl
theorem wf_X2_21 : Cond.fieldLink RX2 21 "CommitteeBallots$Document" "ballotBehind" "[I" ∈ gW := gW_1 (List.mem_of_getElem? (i := 72) rfl) rfl
theorem wf_X5_170 : Cond.fieldLink RX5 170 "CommitteeBallots$Document" "ballotBehind" "[I" ∈ gW := gW_1 (List.mem_of_getElem? (i := 73) rfl) rfl
theorem wf_X7_237 : Cond.fieldLink RX7 237 "CommitteeBallots$Document" "ballotBehind" "[I" ∈ gW := gW_1 (List.mem_of_getElem? (i := 74) rfl) rfl
theorem wf_X2_24 : Cond.fieldLink RX2 24 "CommitteeBallots$Document" "inEdition" "[I" ∈ gW := gW_1 (List.mem_of_getElem? (i := 75) rfl) rfl
theorem wf_X7_121 : Cond.fieldLink RX7 121 "CommitteeBallots$Document" "inEdition" "[I" ∈ gW := gW_1 (List.mem_of_getElem? (i := 76) rfl) rfl
theorem wf_X5_178 : Cond.fieldLink RX5 178 "CommitteeBallots$Document" "inEdition" "[I" ∈ gW := gW_1 (List.mem_of_getElem? (i := 77) rfl) rfl
theorem wf_X2_27 : Cond.fieldLink RX2 27 "CommitteeBallots$Document" "commentBehind" "[I" ∈ gW := gW_1 (List.mem_of_getElem? (i := 78) rfl) rfl
theorem wf_X5_181 : Cond.fieldLink RX5 181 "CommitteeBallots$Document" "commentBehind" "[I" ∈ gW := gW_1 (List.mem_of_getElem? (i := 79) rfl) rfl
theorem wf_X7_240 : Cond.fieldLink RX7 240 "CommitteeBallots$Document" "commentBehind" "[I" ∈ gW := gW_1 (List.mem_of_getElem? (i := 80) rfl) rfl
theorem wf_X2_38 : Cond.fieldLink RX2 38 "CommitteeBallots$Document" "size" "I" ∈ gW := gW_1 (List.mem_of_getElem? (i := 81) rfl) rfl
theorem wf_X7_70 : Cond.fieldLink RX7 70 "CommitteeBallots$Document" "size" "I" ∈ gW := gW_1 (List.mem_of_getElem? (i := 82) rfl) rfl
theorem wf_X5_173 : Cond.fieldLink RX5 173 "CommitteeBallots$Document" "size" "I" ∈ gW := gW_1 (List.mem_of_getElem? (i := 83) rfl) rfl
theorem wf_X2_30 : Cond.fieldLink RX2 30 "CommitteeBallots$Document" "edition" "I" ∈ gW := gW_1 (List.mem_of_getElem? (i := 84) rfl) rfl
theorem wf_X7_130 : Cond.fieldLink RX7 130 "CommitteeBallots$Document" "edition" "I" ∈ gW := gW_1 (List.mem_of_getElem? (i := 85) rfl) rfl
theorem wf_X5_167 : Cond.fieldLink RX5 167 "CommitteeBallots$Document" "edition" "I" ∈ gW := gW_1 (List.mem_of_getElem? (i := 86) rfl) rfl
theorem wf_X0_9 : Cond.fieldLink RX0 9 "CommitteeBallots$Ballot" "sums" "[I" ∈ gW := gW_1 (List.mem_of_getElem? (i := 110) rfl) rfl
theorem wf_X5_121 : Cond.fieldLink RX5 121 "CommitteeBallots$Ballot" "sums" "[I" ∈ gW := gW_1 (List.mem_of_getElem? (i := 111) rfl) rfl
theorem wf_X7_164 : Cond.fieldLink RX7 164 "CommitteeBallots$Ballot" "sums" "[I" ∈ gW := gW_1 (List.mem_of_getElem? (i := 112) rfl) rfl
theorem wf_X0_19 : Cond.fieldLink RX0 19 "CommitteeBallots$Ballot" "isOpen" "Z" ∈ gW := gW_1 (List.mem_of_getElem? (i := 113) rfl) rfl
theorem wf_X5_89 : Cond.fieldLink RX5 89 "CommitteeBallots$Ballot" "isOpen" "Z" ∈ gW := gW_1 (List.mem_of_getElem? (i := 114) rfl) rfl
theorem wf_X7_136 : Cond.fieldLink RX7 136 "CommitteeBallots$Ballot" "isOpen" "Z" ∈ gW := gW_1 (List.mem_of_getElem? (i := 115) rfl) rfl
theorem wf_X0_23 : Cond.fieldLink RX0 23 "CommitteeBallots$Ballot" "broughtEdition" "Z" ∈ gW := gW_1 (List.mem_of_getElem? (i := 116) rfl) rfl
theorem wf_X5_93 : Cond.fieldLink RX5 93 "CommitteeBallots$Ballot" "broughtEdition" "Z" ∈ gW := gW_1 (List.mem_of_getElem? (i := 117) rfl) rfl
theorem wf_X0_26 : Cond.fieldLink RX0 26 "CommitteeBallots$Ballot" "number" "I" ∈ gW := gW_1 (List.mem_of_getElem? (i := 118) rfl) rfl
theorem wf_X7_56 : Cond.fieldLink RX7 56 "CommitteeBallots$Ballot" "number" "I" ∈ gW := gW_1 (List.mem_of_getElem? (i := 119) rfl) rfl
theorem wf_X5_96 : Cond.fieldLink RX5 96 "CommitteeBallots$Ballot" "number" "I" ∈ gW := gW_1 (List.mem_of_getElem? (i := 120) rfl) rfl
theorem wf_X0_30 : Cond.fieldLink RX0 30 "CommitteeBallots$Ballot" "endDay" "I" ∈ gW := gW_1 (List.mem_of_getElem? (i := 121) rfl) rfl
theorem wf_X5_99 : Cond.fieldLink RX5 99 "CommitteeBallots$Ballot" "endDay" "I" ∈ gW := gW_1 (List.mem_of_getElem? (i := 122) rfl) rfl
theorem wf_X7_152 : Cond.fieldLink RX7 152 "CommitteeBallots$Ballot" "endDay" "I" ∈ gW := gW_1 (List.mem_of_getElem? (i := 123) rfl) rfl
theorem wf_X1_9 : Cond.fieldLink RX1 9 "CommitteeBallots$Comments" "member" "[I" ∈ gW := gW_1 (List.mem_of_getElem? (i := 141) rfl) rfl
theorem wf_X7_182 : Cond.fieldLink RX7 182 "CommitteeBallots$Comments" "member" "[I" ∈ gW := gW_1 (List.mem_of_getElem? (i := 142) rfl) rfl
theorem wf_X1_15 : Cond.fieldLink RX1 15 "CommitteeBallots$Comments" "place" "[I" ∈ gW := gW_1 (List.mem_of_getElem? (i := 143) rfl) rfl
theorem wf_X5_153 : Cond.fieldLink RX5 153 "CommitteeBallots$Comments" "place" "[I" ∈ gW := gW_1 (List.mem_of_getElem? (i := 144) rfl) rfl
theorem wf_X7_185 : Cond.fieldLink RX7 185 "CommitteeBallots$Comments" "place" "[I" ∈ gW := gW_1 (List.mem_of_getElem? (i := 145) rfl) rfl
theorem wf_X1_18 : Cond.fieldLink RX1 18 "CommitteeBallots$Comments" "kind" "[I" ∈ gW := gW_1 (List.mem_of_getElem? (i := 146) rfl) rfl
theorem wf_X7_188 : Cond.fieldLink RX7 188 "CommitteeBallots$Comments" "kind" "[I" ∈ gW := gW_1 (List.mem_of_getElem? (i := 147) rfl) rfl
theorem wf_X1_21 : Cond.fieldLink RX1 21 "CommitteeBallots$Comments" "proposed" "[I" ∈ gW := gW_1 (List.mem_of_getElem? (i := 148) rfl) rfl
theorem wf_X7_191 : Cond.fieldLink RX7 191 "CommitteeBallots$Comments" "proposed" "[I" ∈ gW := gW_1 (List.mem_of_getElem? (i := 149) rfl) rfl
theorem wf_X1_24 : Cond.fieldLink RX1 24 "CommitteeBallots$Comments" "standing" "[I" ∈ gW := gW_1 (List.mem_of_getElem? (i := 150) rfl) rfl
theorem wf_X5_187 : Cond.fieldLink RX5 187 "CommitteeBallots$Comments" "standing" "[I" ∈ gW := gW_1 (List.mem_of_getElem? (i := 151) rfl) rfl
theorem wf_X7_194 : Cond.fieldLink RX7 194 "CommitteeBallots$Comments" "standing" "[I" ∈ gW := gW_1 (List.mem_of_getElem? (i := 152) rfl) rfl
theorem wf_X1_27 : Cond.fieldLink RX1 27 "CommitteeBallots$Comments" "day" "[I" ∈ gW := gW_1 (List.mem_of_getElem? (i := 153) rfl) rfl
theorem wf_X7_200 : Cond.fieldLink RX7 200 "CommitteeBallots$Comments" "day" "[I" ∈ gW := gW_1 (List.mem_of_getElem? (i := 154) rfl) rfl
theorem wf_X1_30 : Cond.fieldLink RX1 30 "CommitteeBallots$Comments" "gave" "[I" ∈ gW := gW_1 (List.mem_of_getElem? (i := 155) rfl) rfl
theorem wf_X7_206 : Cond.fieldLink RX7 206 "CommitteeBallots$Comments" "gave" "[I" ∈ gW := gW_1 (List.mem_of_getElem? (i := 156) rfl) rfl
theorem wf_X1_33 : Cond.fieldLink RX1 33 "CommitteeBallots$Comments" "turn" "[I" ∈ gW := gW_1 (List.mem_of_getElem? (i := 157) rfl) rfl
theorem wf_X1_40 : Cond.fieldLink RX1 40 "CommitteeBallots$Comments" "size" "I" ∈ gW := gW_1 (List.mem_of_getElem? (i := 158) rfl) rfl
theorem wf_X5_102 : Cond.fieldLink RX5 102 "CommitteeBallots$Comments" "size" "I" ∈ gW := gW_1 (List.mem_of_getElem? (i := 159) rfl) rfl
theorem wf_X7_140 : Cond.fieldLink RX7 140 "CommitteeBallots$Comments" "size" "I" ∈ gW := gW_1 (List.mem_of_getElem? (i := 160) rfl) rfl
theorem wf_X1_44 : Cond.fieldLink RX1 44 "CommitteeBallots$Comments" "turns" "I" ∈ gW := gW_1 (List.mem_of_getElem? (i := 161) rfl) rfl
theorem wf_X5_103 : Cond.fieldLink RX5 103 "CommitteeBallots$Comments" "turns" "I" ∈ gW := gW_1 (List.mem_of_getElem? (i := 162) rfl) rfl
theorem wf_X5_12 : Cond.fieldLink RX5 12 "CommitteeBallots$State" "members" "LCommitteeBallots$Members;" ∈ gW := gW_1 (List.mem_of_getElem? (i := 193) rfl) rfl
theorem wf_X7_30 : Cond.fieldLink RX7 30 "CommitteeBallots$State" "members" "LCommitteeBallots$Members;" ∈ gW := gW_1 (List.mem_of_getElem? (i := 194) rfl) rfl
theorem wf_X5_21 : Cond.fieldLink RX5 21 "CommitteeBallots$State" "document" "LCommitteeBallots$Document;" ∈ gW := gW_1 (List.mem_of_getElem? (i := 195) rfl) rfl
theorem wf_X7_61 : Cond.fieldLink RX7 61 "CommitteeBallots$State" "document" "LCommitteeBallots$Document;" ∈ gW := gW_1 (List.mem_of_getElem? (i := 196) rfl) rfl
theorem wf_X5_28 : Cond.fieldLink RX5 28 "CommitteeBallots$State" "ballot" "LCommitteeBallots$Ballot;" ∈ gW := gW_1 (List.mem_of_getElem? (i := 197) rfl) rfl
theorem wf_X7_52 : Cond.fieldLink RX7 52 "CommitteeBallots$State" "ballot" "LCommitteeBallots$Ballot;" ∈ gW := gW_1 (List.mem_of_getElem? (i := 198) rfl) rfl
theorem wf_X5_35 : Cond.fieldLink RX5 35 "CommitteeBallots$State" "comments" "LCommitteeBallots$Comments;" ∈ gW := gW_1 (List.mem_of_getElem? (i := 199) rfl) rfl
theorem wf_X7_103 : Cond.fieldLink RX7 103 "CommitteeBallots$State" "comments" "LCommitteeBallots$Comments;" ∈ gW := gW_1 (List.mem_of_getElem? (i := 200) rfl) rfl
theorem wf_X5_48 : Cond.fieldLink RX5 48 "CommitteeBallots$State" "settings" "[I" ∈ gW := gW_1 (List.mem_of_getElem? (i := 201) rfl) rfl
theorem wf_X7_82 : Cond.fieldLink RX7 82 "CommitteeBallots$State" "settings" "[I" ∈ gW := gW_1 (List.mem_of_getElem? (i := 202) rfl) rfl
theorem wf_X5_68 : Cond.fieldLink RX5 68 "CommitteeBallots$State" "today" "I" ∈ gW := gW_1 (List.mem_of_getElem? (i := 203) rfl) rfl
theorem wf_X7_133 : Cond.fieldLink RX7 133 "CommitteeBallots$State" "today" "I" ∈ gW := gW_1 (List.mem_of_getElem? (i := 204) rfl) rfl
theorem wf_X3_11 : Cond.fieldLink RX3 11 "CommitteeBallots$History" "states" "[LCommitteeBallots$State;" ∈ gW := gW_1 (List.mem_of_getElem? (i := 227) rfl) rfl
theorem wf_X3_18 : Cond.fieldLink RX3 18 "CommitteeBallots$History" "oldest" "I" ∈ gW := gW_1 (List.mem_of_getElem? (i := 228) rfl) rfl
theorem wf_X3_22 : Cond.fieldLink RX3 22 "CommitteeBallots$History" "size" "I" ∈ gW := gW_1 (List.mem_of_getElem? (i := 229) rfl) rfl
theorem wf_X7_148 : Cond.fieldLink RX7 148 "CommitteeBallots$History" "size" "I" ∈ gW := gW_1 (List.mem_of_getElem? (i := 230) rfl) rfl
theorem wf_X6_9 : Cond.fieldLink RX6 9 "CommitteeBallots$Text" "signs" "[C" ∈ gW := gW_2 (List.mem_of_getElem? (i := 4) rfl) rfl
theorem wf_X6_15 : Cond.fieldLink RX6 15 "CommitteeBallots$Text" "length" "I" ∈ gW := gW_2 (List.mem_of_getElem? (i := 5) rfl) rfl
theorem wf_X7_149 : Cond.fieldLink RX7 149 "CommitteeBallots$Text" "length" "I" ∈ gW := gW_2 (List.mem_of_getElem? (i := 6) rfl) rfl
theorem wf_X6_19 : Cond.fieldLink RX6 19 "CommitteeBallots$Text" "start" "I" ∈ gW := gW_2 (List.mem_of_getElem? (i := 7) rfl) rfl
theorem wf_X7_252 : Cond.fieldLink RX7 252 "CommitteeBallots$Text" "start" "I" ∈ gW := gW_2 (List.mem_of_getElem? (i := 8) rfl) rfl
theorem wf_X6_22 : Cond.fieldLink RX6 22 "CommitteeBallots$Text" "end" "I" ∈ gW := gW_2 (List.mem_of_getElem? (i := 9) rfl) rfl
theorem wf_X6_32 : Cond.fieldLink RX6 32 "CommitteeBallots$Text" "clause" "I" ∈ gW := gW_2 (List.mem_of_getElem? (i := 10) rfl) rfl
theorem wf_X7_262 : Cond.fieldLink RX7 262 "CommitteeBallots$Text" "clause" "I" ∈ gW := gW_2 (List.mem_of_getElem? (i := 11) rfl) rfl
theorem wf_X6_39 : Cond.fieldLink RX6 39 "CommitteeBallots$Text" "kind" "I" ∈ gW := gW_2 (List.mem_of_getElem? (i := 12) rfl) rfl
theorem wf_X7_265 : Cond.fieldLink RX7 265 "CommitteeBallots$Text" "kind" "I" ∈ gW := gW_2 (List.mem_of_getElem? (i := 13) rfl) rfl
theorem wf_X6_42 : Cond.fieldLink RX6 42 "CommitteeBallots$Text" "proposed" "I" ∈ gW := gW_2 (List.mem_of_getElem? (i := 14) rfl) rfl
theorem wf_X7_267 : Cond.fieldLink RX7 267 "CommitteeBallots$Text" "proposed" "I" ∈ gW := gW_2 (List.mem_of_getElem? (i := 15) rfl) rfl
theorem wf_X7_10 : Cond.fieldLink RX7 10 "CommitteeBallots" "now" "LCommitteeBallots$State;" ∈ gW := gW_2 (List.mem_of_getElem? (i := 32) rfl) rfl
theorem wf_X7_19 : Cond.fieldLink RX7 19 "CommitteeBallots" "history" "LCommitteeBallots$History;" ∈ gW := gW_2 (List.mem_of_getElem? (i := 33) rfl) rfl
theorem wf_X7_26 : Cond.fieldLink RX7 26 "CommitteeBallots" "text" "LCommitteeBallots$Text;" ∈ gW := gW_2 (List.mem_of_getElem? (i := 34) rfl) rfl
theorem wf_X7_75 : Cond.fieldLink RX7 75 "CommitteeBallots" "LEAST_SETTINGS" "[I" ∈ gW := gW_3 (List.mem_of_getElem? (i := 15) rfl) rfl
theorem wf_X7_79 : Cond.fieldLink RX7 79 "CommitteeBallots" "GREATEST_SETTINGS" "[I" ∈ gW := gW_3 (List.mem_of_getElem? (i := 17) rfl) rfl
theorem wk_L_108 : Cond.methodLink RL 108 yX7_init ∈ gW := gW_1 (List.mem_of_getElem? (i := 14) rfl) rfl
theorem wk_X7_1 : Cond.methodLink RX7 1 ⟨"java/lang/Object", "<init>", "()V"⟩ ∈ gW := gW_1 (List.mem_of_getElem? (i := 17) rfl) rfl
theorem wk_X5_3 : Cond.methodLink RX5 3 ⟨"java/lang/Object", "<init>", "()V"⟩ ∈ gW := gW_1 (List.mem_of_getElem? (i := 25) rfl) rfl
theorem wk_X4_3 : Cond.methodLink RX4 3 ⟨"java/lang/Object", "<init>", "()V"⟩ ∈ gW := gW_1 (List.mem_of_getElem? (i := 31) rfl) rfl
theorem wk_X2_3 : Cond.methodLink RX2 3 ⟨"java/lang/Object", "<init>", "()V"⟩ ∈ gW := gW_1 (List.mem_of_getElem? (i := 64) rfl) rfl
theorem wk_X0_3 : Cond.methodLink RX0 3 ⟨"java/lang/Object", "<init>", "()V"⟩ ∈ gW := gW_1 (List.mem_of_getElem? (i := 109) rfl) rfl
theorem wk_X1_3 : Cond.methodLink RX1 3 ⟨"java/lang/Object", "<init>", "()V"⟩ ∈ gW := gW_1 (List.mem_of_getElem? (i := 140) rfl) rfl
theorem wk_X5_43 : Cond.methodLink RX5 43 ⟨"[I", "clone", "()Ljava/lang/Object;"⟩ ∈ gW := gW_1 (List.mem_of_getElem? (i := 186) rfl) rfl
theorem wk_X7_18 : Cond.methodLink RX7 18 yX3_init ∈ gW := gW_1 (List.mem_of_getElem? (i := 220) rfl) rfl
theorem wk_X3_3 : Cond.methodLink RX3 3 ⟨"java/lang/Object", "<init>", "()V"⟩ ∈ gW := gW_1 (List.mem_of_getElem? (i := 223) rfl) rfl
theorem wk_X6_3 : Cond.methodLink RX6 3 ⟨"java/lang/Object", "<init>", "()V"⟩ ∈ gW := gW_2 (List.mem_of_getElem? (i := 3) rfl) rfl
theorem wk_L_13 : Cond.methodLink RL 13 yX7_count ∈ gW := gW_2 (List.mem_of_getElem? (i := 42) rfl) rfl
theorem wk_X7_141 : Cond.methodLink RX7 141 yX1_pending ∈ gW := gW_2 (List.mem_of_getElem? (i := 46) rfl) rfl
theorem wk_X7_145 : Cond.methodLink RX7 145 yX5_activeWeight ∈ gW := gW_2 (List.mem_of_getElem? (i := 50) rfl) rfl
theorem wk_X5_78 : Cond.methodLink RX5 78 yX5_activeWeightIn ∈ gW := gW_2 (List.mem_of_getElem? (i := 54) rfl) rfl
theorem wk_X5_82 : Cond.methodLink RX5 82 yX5_isLapsed ∈ gW := gW_2 (List.mem_of_getElem? (i := 58) rfl) rfl
theorem wk_L_105 : Cond.methodLink RL 105 yX7_undo ∈ gW := gW_2 (List.mem_of_getElem? (i := 62) rfl) rfl
theorem wk_X7_243 : Cond.methodLink RX7 243 yX3_restore ∈ gW := gW_2 (List.mem_of_getElem? (i := 66) rfl) rfl
theorem wk_X3_25 : Cond.methodLink RX3 25 yX5_copyFrom ∈ gW := gW_2 (List.mem_of_getElem? (i := 70) rfl) rfl
theorem wk_X5_51 : Cond.methodLink RX5 51 yX4_copyFrom ∈ gW := gW_2 (List.mem_of_getElem? (i := 74) rfl) rfl
theorem wk_X7_272 : Cond.methodLink RX7 272 yJ9_min_7cf53 ∈ gW := gW_2 (List.mem_of_getElem? (i := 81) rfl) rfl
theorem wk_X7_275 : Cond.methodLink RX7 275 ⟨"java/lang/System", "arraycopy", "(Ljava/lang/Object;ILjava/lang/Object;II)V"⟩ ∈ gW := gW_2 (List.mem_of_getElem? (i := 84) rfl) rfl
theorem wk_X5_55 : Cond.methodLink RX5 55 yX2_copyFrom ∈ gW := gW_2 (List.mem_of_getElem? (i := 87) rfl) rfl
theorem wk_X5_58 : Cond.methodLink RX5 58 yX0_copyFrom ∈ gW := gW_2 (List.mem_of_getElem? (i := 92) rfl) rfl
theorem wk_X5_61 : Cond.methodLink RX5 61 yX1_copyFrom ∈ gW := gW_2 (List.mem_of_getElem? (i := 97) rfl) rfl
theorem wk_L_115 : Cond.methodLink RL 115 yL_cell ∈ gW := gW_2 (List.mem_of_getElem? (i := 103) rfl) rfl
theorem wk_L_95 : Cond.methodLink RL 95 yL_low ∈ gW := gW_2 (List.mem_of_getElem? (i := 107) rfl) rfl
theorem wk_L_46 : Cond.methodLink RL 46 yL_print ∈ gW := gW_2 (List.mem_of_getElem? (i := 111) rfl) rfl
theorem wk_L_19 : Cond.methodLink RL 19 yX7_tally ∈ gW := gW_2 (List.mem_of_getElem? (i := 116) rfl) rfl
theorem wk_X7_167 : Cond.methodLink RX7 167 yX5_countVotes ∈ gW := gW_2 (List.mem_of_getElem? (i := 120) rfl) rfl
theorem wk_X5_109 : Cond.methodLink RX5 109 yJ7_fill_53178 ∈ gW := gW_2 (List.mem_of_getElem? (i := 124) rfl) rfl
theorem wk_X5_124 : Cond.methodLink RX5 124 yX4_hasVoted ∈ gW := gW_2 (List.mem_of_getElem? (i := 127) rfl) rfl
theorem wk_X5_127 : Cond.methodLink RX5 127 yX5_sumFor ∈ gW := gW_2 (List.mem_of_getElem? (i := 131) rfl) rfl
theorem wk_X5_134 : Cond.methodLink RX5 134 yX1_hasTechnicalOf ∈ gW := gW_2 (List.mem_of_getElem? (i := 135) rfl) rfl
theorem wk_X5_130 : Cond.methodLink RX5 130 yX5_isCarriedBy ∈ gW := gW_2 (List.mem_of_getElem? (i := 139) rfl) rfl
theorem wk_L_22 : Cond.methodLink RL 22 yX7_member ∈ gW := gW_2 (List.mem_of_getElem? (i := 143) rfl) rfl
theorem wk_X7_85 : Cond.methodLink RX7 85 yX4_has ∈ gW := gW_2 (List.mem_of_getElem? (i := 147) rfl) rfl
theorem wk_X7_94 : Cond.methodLink RX7 94 yX5_isLapsed ∈ gW := gW_2 (List.mem_of_getElem? (i := 151) rfl) rfl
theorem wk_X7_97 : Cond.methodLink RX7 97 yX4_hasVoted ∈ gW := gW_2 (List.mem_of_getElem? (i := 152) rfl) rfl
theorem wk_X7_107 : Cond.methodLink RX7 107 yX1_numberOf ∈ gW := gW_2 (List.mem_of_getElem? (i := 153) rfl) rfl
theorem wk_L_26 : Cond.methodLink RL 26 yX7_clause ∈ gW := gW_2 (List.mem_of_getElem? (i := 157) rfl) rfl
theorem wk_L_29 : Cond.methodLink RL 29 yX7_value ∈ gW := gW_2 (List.mem_of_getElem? (i := 161) rfl) rfl
theorem wk_X7_65 : Cond.methodLink RX7 65 yX2_find ∈ gW := gW_2 (List.mem_of_getElem? (i := 165) rfl) rfl
theorem wk_L_32 : Cond.methodLink RL 32 yX7_told ∈ gW := gW_2 (List.mem_of_getElem? (i := 169) rfl) rfl
theorem wk_X7_181 : Cond.methodLink RX7 181 yX1_has ∈ gW := gW_2 (List.mem_of_getElem? (i := 173) rfl) rfl
theorem wk_X7_197 : Cond.methodLink RX7 197 yX1_isResolved ∈ gW := gW_2 (List.mem_of_getElem? (i := 177) rfl) rfl
theorem wk_X7_203 : Cond.methodLink RX7 203 yX1_gaveValue ∈ gW := gW_2 (List.mem_of_getElem? (i := 181) rfl) rfl
theorem wk_L_35 : Cond.methodLink RL 35 yX7_changes ∈ gW := gW_2 (List.mem_of_getElem? (i := 185) rfl) rfl
theorem wk_X7_118 : Cond.methodLink RX7 118 yX2_hasEdition ∈ gW := gW_2 (List.mem_of_getElem? (i := 189) rfl) rfl
theorem wk_X7_231 : Cond.methodLink RX7 231 yX2_changesOf ∈ gW := gW_2 (List.mem_of_getElem? (i := 193) rfl) rfl
theorem wk_X2_45 : Cond.methodLink RX2 45 yX2_differs ∈ gW := gW_2 (List.mem_of_getElem? (i := 197) rfl) rfl
theorem wk_X2_41 : Cond.methodLink RX2 41 yX2_slot ∈ gW := gW_2 (List.mem_of_getElem? (i := 201) rfl) rfl
theorem wk_L_38 : Cond.methodLink RL 38 yX7_change ∈ gW := gW_2 (List.mem_of_getElem? (i := 204) rfl) rfl
theorem wk_X7_234 : Cond.methodLink RX7 234 yX2_placeOfChange ∈ gW := gW_2 (List.mem_of_getElem? (i := 208) rfl) rfl
theorem wk_X7_124 : Cond.methodLink RX7 124 yX2_slot ∈ gW := gW_2 (List.mem_of_getElem? (i := 212) rfl) rfl
theorem wk_L_42 : Cond.methodLink RL 42 yX7_next ∈ gW := gW_2 (List.mem_of_getElem? (i := 213) rfl) rfl
theorem wk_X7_209 : Cond.methodLink RX7 209 yX1_firstPending ∈ gW := gW_2 (List.mem_of_getElem? (i := 217) rfl) rfl
theorem wk_X1_47 : Cond.methodLink RX1 47 yX1_isAhead ∈ gW := gW_2 (List.mem_of_getElem? (i := 221) rfl) rfl
theorem wk_L_109 : Cond.methodLink RL 109 yL_refused ∈ gW := gW_2 (List.mem_of_getElem? (i := 225) rfl) rfl
theorem wk_L_52 : Cond.methodLink RL 52 yX7_addMember ∈ gW := gW_2 (List.mem_of_getElem? (i := 228) rfl) rfl
theorem wk_X7_40 : Cond.methodLink RX7 40 yX3_keep ∈ gW := gW_2 (List.mem_of_getElem? (i := 232) rfl) rfl
theorem wk_X7_44 : Cond.methodLink RX7 44 yX4_append ∈ gW := gW_2 (List.mem_of_getElem? (i := 236) rfl) rfl
theorem wk_L_55 : Cond.methodLink RL 55 yX7_addClause ∈ gW := gW_3 (List.mem_of_getElem? (i := 0) rfl) rfl
theorem wk_X7_48 : Cond.methodLink RX7 48 yX7_isValue ∈ gW := gW_3 (List.mem_of_getElem? (i := 4) rfl) rfl
theorem wk_X7_71 : Cond.methodLink RX7 71 yX2_insert ∈ gW := gW_3 (List.mem_of_getElem? (i := 7) rfl) rfl
theorem wk_L_58 : Cond.methodLink RL 58 yX7_set ∈ gW := gW_3 (List.mem_of_getElem? (i := 11) rfl) rfl
theorem wk_L_61 : Cond.methodLink RL 61 yX7_valueIn ∈ gW := gW_3 (List.mem_of_getElem? (i := 19) rfl) rfl
theorem wk_L_64 : Cond.methodLink RL 64 yX7_vote ∈ gW := gW_3 (List.mem_of_getElem? (i := 23) rfl) rfl
theorem wk_X7_158 : Cond.methodLink RX7 158 yX4_voters ∈ gW := gW_3 (List.mem_of_getElem? (i := 27) rfl) rfl
theorem wk_X4_32 : Cond.methodLink RX4 32 yX4_hasVoted ∈ gW := gW_3 (List.mem_of_getElem? (i := 31) rfl) rfl
theorem wk_L_67 : Cond.methodLink RL 67 yX7_pass ∈ gW := gW_3 (List.mem_of_getElem? (i := 32) rfl) rfl
theorem wk_X7_161 : Cond.methodLink RX7 161 yX5_endBallot ∈ gW := gW_3 (List.mem_of_getElem? (i := 36) rfl) rfl
theorem wk_X5_137 : Cond.methodLink RX5 137 yX5_countVotes ∈ gW := gW_3 (List.mem_of_getElem? (i := 40) rfl) rfl
theorem wk_X5_140 : Cond.methodLink RX5 140 yX4_noteMisses ∈ gW := gW_3 (List.mem_of_getElem? (i := 41) rfl) rfl
theorem wk_X5_143 : Cond.methodLink RX5 143 yX1_makeAllPending ∈ gW := gW_3 (List.mem_of_getElem? (i := 45) rfl) rfl
theorem wk_L_70 : Cond.methodLink RL 70 yX7_comment ∈ gW := gW_3 (List.mem_of_getElem? (i := 49) rfl) rfl
theorem wk_X7_178 : Cond.methodLink RX7 178 yX1_append ∈ gW := gW_3 (List.mem_of_getElem? (i := 53) rfl) rfl
theorem wk_L_74 : Cond.methodLink RL 74 yX7_resolve ∈ gW := gW_3 (List.mem_of_getElem? (i := 57) rfl) rfl
theorem wk_X7_213 : Cond.methodLink RX7 213 yX2_canGet ∈ gW := gW_3 (List.mem_of_getElem? (i := 61) rfl) rfl
theorem wk_X7_217 : Cond.methodLink RX7 217 yX5_settle ∈ gW := gW_3 (List.mem_of_getElem? (i := 65) rfl) rfl
theorem wk_X5_146 : Cond.methodLink RX5 146 yX1_resolveAs ∈ gW := gW_3 (List.mem_of_getElem? (i := 69) rfl) rfl
theorem wk_X5_150 : Cond.methodLink RX5 150 yX1_gaveValue ∈ gW := gW_3 (List.mem_of_getElem? (i := 73) rfl) rfl
theorem wk_X5_156 : Cond.methodLink RX5 156 yX1_pending ∈ gW := gW_3 (List.mem_of_getElem? (i := 74) rfl) rfl
theorem wk_X5_160 : Cond.methodLink RX5 160 yX2_isChanged ∈ gW := gW_3 (List.mem_of_getElem? (i := 75) rfl) rfl
theorem wk_X5_164 : Cond.methodLink RX5 164 yX5_bringEdition ∈ gW := gW_3 (List.mem_of_getElem? (i := 79) rfl) rfl
theorem wk_X5_174 : Cond.methodLink RX5 174 yX2_slot ∈ gW := gW_3 (List.mem_of_getElem? (i := 83) rfl) rfl
theorem wk_X5_184 : Cond.methodLink RX5 184 yX1_firstBehind ∈ gW := gW_3 (List.mem_of_getElem? (i := 84) rfl) rfl
theorem wk_X1_56 : Cond.methodLink RX1 56 yX1_gaveValue ∈ gW := gW_3 (List.mem_of_getElem? (i := 88) rfl) rfl
theorem wk_L_77 : Cond.methodLink RL 77 yX7_appeal ∈ gW := gW_3 (List.mem_of_getElem? (i := 89) rfl) rfl
theorem wk_X7_221 : Cond.methodLink RX7 221 yX4_isSet ∈ gW := gW_3 (List.mem_of_getElem? (i := 93) rfl) rfl
theorem wk_X7_224 : Cond.methodLink RX7 224 yX5_activeWeightIn ∈ gW := gW_3 (List.mem_of_getElem? (i := 97) rfl) rfl
theorem wk_X7_227 : Cond.methodLink RX7 227 yX5_reopen ∈ gW := gW_3 (List.mem_of_getElem? (i := 98) rfl) rfl
theorem wk_L_80 : Cond.methodLink RL 80 yX7_type ∈ gW := gW_3 (List.mem_of_getElem? (i := 102) rfl) rfl
theorem wk_X7_246 : Cond.methodLink RX7 246 yX6_append ∈ gW := gW_3 (List.mem_of_getElem? (i := 106) rfl) rfl
theorem wk_L_83 : Cond.methodLink RL 83 yX7_fault ∈ gW := gW_3 (List.mem_of_getElem? (i := 110) rfl) rfl
theorem wk_X7_249 : Cond.methodLink RX7 249 yX7_firstFault ∈ gW := gW_3 (List.mem_of_getElem? (i := 114) rfl) rfl
theorem wk_X7_255 : Cond.methodLink RX7 255 yX6_rewind ∈ gW := gW_3 (List.mem_of_getElem? (i := 118) rfl) rfl
theorem wk_X7_269 : Cond.methodLink RX7 269 yX6_isAtEnd ∈ gW := gW_3 (List.mem_of_getElem? (i := 122) rfl) rfl
theorem wk_X7_258 : Cond.methodLink RX7 258 yX6_readComment ∈ gW := gW_3 (List.mem_of_getElem? (i := 126) rfl) rfl
theorem wk_X6_25 : Cond.methodLink RX6 25 yX6_digitsAt ∈ gW := gW_3 (List.mem_of_getElem? (i := 130) rfl) rfl
theorem wk_X6_35 : Cond.methodLink RX6 35 yX6_signAt ∈ gW := gW_3 (List.mem_of_getElem? (i := 134) rfl) rfl
theorem wk_X6_29 : Cond.methodLink RX6 29 yX6_numberAt ∈ gW := gW_3 (List.mem_of_getElem? (i := 138) rfl) rfl
theorem wk_L_86 : Cond.methodLink RL 86 yX7_enter ∈ gW := gW_3 (List.mem_of_getElem? (i := 142) rfl) rfl
theorem wk_L_89 : Cond.methodLink RL 89 yX7_lacking ∈ gW := gW_3 (List.mem_of_getElem? (i := 146) rfl) rfl
theorem wk_X7_170 : Cond.methodLink RX7 170 yX7_dividedUp ∈ gW := gW_3 (List.mem_of_getElem? (i := 150) rfl) rfl
theorem wk_X7_173 : Cond.methodLink RX7 173 yJ9_max_7cf53 ∈ gW := gW_3 (List.mem_of_getElem? (i := 153) rfl) rfl
theorem wk_L_92 : Cond.methodLink RL 92 yX7_open ∈ gW := gW_3 (List.mem_of_getElem? (i := 156) rfl) rfl
theorem wk_X7_155 : Cond.methodLink RX7 155 yX5_openBallot ∈ gW := gW_3 (List.mem_of_getElem? (i := 160) rfl) rfl
theorem wk_L_112 : Cond.methodLink RL 112 yL_areMembers ∈ gW := gW_3 (List.mem_of_getElem? (i := 164) rfl) rfl
theorem wk_L_125 : Cond.methodLink RL 125 yL_areVotes ∈ gW := gW_3 (List.mem_of_getElem? (i := 167) rfl) rfl
theorem wk_L_102 : Cond.methodLink RL 102 yL_areComments ∈ gW := gW_3 (List.mem_of_getElem? (i := 170) rfl) rfl
theorem wk_L_98 : Cond.methodLink RL 98 yL_areEditions ∈ gW := gW_3 (List.mem_of_getElem? (i := 173) rfl) rfl
theorem wk_L_128 : Cond.methodLink RL 128 yL_isAppealed ∈ gW := gW_3 (List.mem_of_getElem? (i := 176) rfl) rfl
theorem wk_L_121 : Cond.methodLink RL 121 yL_acts ∈ gW := gW_3 (List.mem_of_getElem? (i := 179) rfl) rfl
theorem wn_L_14 : Cond.classLink RL 14 "CommitteeBallots" ∈ gW := gW_1 (List.mem_of_getElem? (i := 12) rfl) rfl
theorem wn_X7_7 : Cond.classLink RX7 7 "CommitteeBallots$State" ∈ gW := gW_1 (List.mem_of_getElem? (i := 20) rfl) rfl
theorem wn_X5_9 : Cond.classLink RX5 9 "CommitteeBallots$Members" ∈ gW := gW_1 (List.mem_of_getElem? (i := 26) rfl) rfl
theorem wn_X5_18 : Cond.classLink RX5 18 "CommitteeBallots$Document" ∈ gW := gW_1 (List.mem_of_getElem? (i := 59) rfl) rfl
theorem wn_X5_25 : Cond.classLink RX5 25 "CommitteeBallots$Ballot" ∈ gW := gW_1 (List.mem_of_getElem? (i := 104) rfl) rfl
theorem wn_X5_32 : Cond.classLink RX5 32 "CommitteeBallots$Comments" ∈ gW := gW_1 (List.mem_of_getElem? (i := 135) rfl) rfl
theorem wn_X5_44 : Cond.classLink RX5 44 "[I" ∈ gW := gW_1 (List.mem_of_getElem? (i := 192) rfl) rfl
theorem wn_X7_16 : Cond.classLink RX7 16 "CommitteeBallots$History" ∈ gW := gW_1 (List.mem_of_getElem? (i := 218) rfl) rfl
theorem wn_X3_9 : Cond.classLink RX3 9 "CommitteeBallots$State" ∈ gW := gW_1 (List.mem_of_getElem? (i := 224) rfl) rfl
theorem wn_X7_23 : Cond.classLink RX7 23 "CommitteeBallots$Text" ∈ gW := gW_1 (List.mem_of_getElem? (i := 238) rfl) rfl
theorem wt_X7 : Cond.instantiable RX7 3 ∈ gW := gW_1 (List.mem_of_getElem? (i := 13) rfl) rfl
theorem wt_X5 : Cond.instantiable RX5 6 ∈ gW := gW_1 (List.mem_of_getElem? (i := 21) rfl) rfl
theorem wt_X4 : Cond.instantiable RX4 5 ∈ gW := gW_1 (List.mem_of_getElem? (i := 27) rfl) rfl
theorem wt_X2 : Cond.instantiable RX2 8 ∈ gW := gW_1 (List.mem_of_getElem? (i := 60) rfl) rfl
theorem wt_X0 : Cond.instantiable RX0 5 ∈ gW := gW_1 (List.mem_of_getElem? (i := 105) rfl) rfl
theorem wt_X1 : Cond.instantiable RX1 10 ∈ gW := gW_1 (List.mem_of_getElem? (i := 136) rfl) rfl
theorem wt_X3 : Cond.instantiable RX3 3 ∈ gW := gW_1 (List.mem_of_getElem? (i := 219) rfl) rfl
theorem wt_X6 : Cond.instantiable RX6 7 ∈ gW := gW_1 (List.mem_of_getElem? (i := 239) rfl) rfl
theorem wu_X0 : ∀ w ∈ u_ws RX0 TX0 5, w ∈ gW := by
  show ∀ w ∈ [u_lay RX0 TX0 0, u_lay RX0 TX0 1, u_lay RX0 TX0 2, u_lay RX0 TX0 3, u_lay RX0 TX0 4], w ∈ gW
  exact List.forall_mem_cons.mpr ⟨(gW_1 (List.mem_of_getElem? (i := 124) rfl) rfl : Cond.laysFinal RX0 "CommitteeBallots$Ballot" "sums" "[I" ∈ gW), List.forall_mem_cons.mpr ⟨(gW_1 (List.mem_of_getElem? (i := 126) rfl) rfl : Cond.lays RX0 "CommitteeBallots$Ballot" "isOpen" "Z" ∈ gW), List.forall_mem_cons.mpr ⟨(gW_1 (List.mem_of_getElem? (i := 128) rfl) rfl : Cond.lays RX0 "CommitteeBallots$Ballot" "broughtEdition" "Z" ∈ gW), List.forall_mem_cons.mpr ⟨(gW_1 (List.mem_of_getElem? (i := 130) rfl) rfl : Cond.lays RX0 "CommitteeBallots$Ballot" "number" "I" ∈ gW), List.forall_mem_cons.mpr ⟨(gW_1 (List.mem_of_getElem? (i := 132) rfl) rfl : Cond.lays RX0 "CommitteeBallots$Ballot" "endDay" "I" ∈ gW), fun _ h => absurd h List.not_mem_nil⟩⟩⟩⟩⟩
theorem wu_X1 : ∀ w ∈ u_ws RX1 TX1 10, w ∈ gW := by
  show ∀ w ∈ [u_lay RX1 TX1 0, u_lay RX1 TX1 1, u_lay RX1 TX1 2, u_lay RX1 TX1 3, u_lay RX1 TX1 4, u_lay RX1 TX1 5, u_lay RX1 TX1 6, u_lay RX1 TX1 7, u_lay RX1 TX1 8, u_lay RX1 TX1 9], w ∈ gW
  exact List.forall_mem_cons.mpr ⟨(gW_1 (List.mem_of_getElem? (i := 163) rfl) rfl : Cond.laysFinal RX1 "CommitteeBallots$Comments" "member" "[I" ∈ gW), List.forall_mem_cons.mpr ⟨(gW_1 (List.mem_of_getElem? (i := 165) rfl) rfl : Cond.laysFinal RX1 "CommitteeBallots$Comments" "place" "[I" ∈ gW), List.forall_mem_cons.mpr ⟨(gW_1 (List.mem_of_getElem? (i := 167) rfl) rfl : Cond.laysFinal RX1 "CommitteeBallots$Comments" "kind" "[I" ∈ gW), List.forall_mem_cons.mpr ⟨(gW_1 (List.mem_of_getElem? (i := 169) rfl) rfl : Cond.laysFinal RX1 "CommitteeBallots$Comments" "proposed" "[I" ∈ gW), List.forall_mem_cons.mpr ⟨(gW_1 (List.mem_of_getElem? (i := 171) rfl) rfl : Cond.laysFinal RX1 "CommitteeBallots$Comments" "standing" "[I" ∈ gW), List.forall_mem_cons.mpr ⟨(gW_1 (List.mem_of_getElem? (i := 173) rfl) rfl : Cond.laysFinal RX1 "CommitteeBallots$Comments" "day" "[I" ∈ gW), List.forall_mem_cons.mpr ⟨(gW_1 (List.mem_of_getElem? (i := 175) rfl) rfl : Cond.laysFinal RX1 "CommitteeBallots$Comments" "gave" "[I" ∈ gW), List.forall_mem_cons.mpr ⟨(gW_1 (List.mem_of_getElem? (i := 177) rfl) rfl : Cond.laysFinal RX1 "CommitteeBallots$Comments" "turn" "[I" ∈ gW), List.forall_mem_cons.mpr ⟨(gW_1 (List.mem_of_getElem? (i := 179) rfl) rfl : Cond.lays RX1 "CommitteeBallots$Comments" "size" "I" ∈ gW), List.forall_mem_cons.mpr ⟨(gW_1 (List.mem_of_getElem? (i := 181) rfl) rfl : Cond.lays RX1 "CommitteeBallots$Comments" "turns" "I" ∈ gW), fun _ h => absurd h List.not_mem_nil⟩⟩⟩⟩⟩⟩⟩⟩⟩⟩
theorem wu_X2 : ∀ w ∈ u_ws RX2 TX2 8, w ∈ gW := by
  show ∀ w ∈ [u_lay RX2 TX2 0, u_lay RX2 TX2 1, u_lay RX2 TX2 2, u_lay RX2 TX2 3, u_lay RX2 TX2 4, u_lay RX2 TX2 5, u_lay RX2 TX2 6, u_lay RX2 TX2 7], w ∈ gW
  exact List.forall_mem_cons.mpr ⟨(gW_1 (List.mem_of_getElem? (i := 87) rfl) rfl : Cond.laysFinal RX2 "CommitteeBallots$Document" "number" "[I" ∈ gW), List.forall_mem_cons.mpr ⟨(gW_1 (List.mem_of_getElem? (i := 89) rfl) rfl : Cond.laysFinal RX2 "CommitteeBallots$Document" "present" "[I" ∈ gW), List.forall_mem_cons.mpr ⟨(gW_1 (List.mem_of_getElem? (i := 91) rfl) rfl : Cond.laysFinal RX2 "CommitteeBallots$Document" "atOpening" "[I" ∈ gW), List.forall_mem_cons.mpr ⟨(gW_1 (List.mem_of_getElem? (i := 93) rfl) rfl : Cond.laysFinal RX2 "CommitteeBallots$Document" "ballotBehind" "[I" ∈ gW), List.forall_mem_cons.mpr ⟨(gW_1 (List.mem_of_getElem? (i := 95) rfl) rfl : Cond.laysFinal RX2 "CommitteeBallots$Document" "inEdition" "[I" ∈ gW), List.forall_mem_cons.mpr ⟨(gW_1 (List.mem_of_getElem? (i := 97) rfl) rfl : Cond.laysFinal RX2 "CommitteeBallots$Document" "commentBehind" "[I" ∈ gW), List.forall_mem_cons.mpr ⟨(gW_1 (List.mem_of_getElem? (i := 99) rfl) rfl : Cond.lays RX2 "CommitteeBallots$Document" "size" "I" ∈ gW), List.forall_mem_cons.mpr ⟨(gW_1 (List.mem_of_getElem? (i := 101) rfl) rfl : Cond.lays RX2 "CommitteeBallots$Document" "edition" "I" ∈ gW), fun _ h => absurd h List.not_mem_nil⟩⟩⟩⟩⟩⟩⟩⟩
theorem wu_X3 : ∀ w ∈ u_ws RX3 TX3 3, w ∈ gW := by
  show ∀ w ∈ [u_lay RX3 TX3 0, u_lay RX3 TX3 1, u_lay RX3 TX3 2], w ∈ gW
  exact List.forall_mem_cons.mpr ⟨(gW_1 (List.mem_of_getElem? (i := 231) rfl) rfl : Cond.laysFinal RX3 "CommitteeBallots$History" "states" "[LCommitteeBallots$State;" ∈ gW), List.forall_mem_cons.mpr ⟨(gW_1 (List.mem_of_getElem? (i := 233) rfl) rfl : Cond.lays RX3 "CommitteeBallots$History" "oldest" "I" ∈ gW), List.forall_mem_cons.mpr ⟨(gW_1 (List.mem_of_getElem? (i := 235) rfl) rfl : Cond.lays RX3 "CommitteeBallots$History" "size" "I" ∈ gW), fun _ h => absurd h List.not_mem_nil⟩⟩⟩
theorem wu_X4 : ∀ w ∈ u_ws RX4 TX4 5, w ∈ gW := by
  show ∀ w ∈ [u_lay RX4 TX4 0, u_lay RX4 TX4 1, u_lay RX4 TX4 2, u_lay RX4 TX4 3, u_lay RX4 TX4 4], w ∈ gW
  exact List.forall_mem_cons.mpr ⟨(gW_1 (List.mem_of_getElem? (i := 47) rfl) rfl : Cond.laysFinal RX4 "CommitteeBallots$Members" "weight" "[I" ∈ gW), List.forall_mem_cons.mpr ⟨(gW_1 (List.mem_of_getElem? (i := 49) rfl) rfl : Cond.laysFinal RX4 "CommitteeBallots$Members" "misses" "[I" ∈ gW), List.forall_mem_cons.mpr ⟨(gW_1 (List.mem_of_getElem? (i := 51) rfl) rfl : Cond.laysFinal RX4 "CommitteeBallots$Members" "given" "[I" ∈ gW), List.forall_mem_cons.mpr ⟨(gW_1 (List.mem_of_getElem? (i := 53) rfl) rfl : Cond.laysFinal RX4 "CommitteeBallots$Members" "ballotsVoted" "[I" ∈ gW), List.forall_mem_cons.mpr ⟨(gW_1 (List.mem_of_getElem? (i := 55) rfl) rfl : Cond.lays RX4 "CommitteeBallots$Members" "size" "I" ∈ gW), fun _ h => absurd h List.not_mem_nil⟩⟩⟩⟩⟩
theorem wu_X5 : ∀ w ∈ u_ws RX5 TX5 6, w ∈ gW := by
  show ∀ w ∈ [u_lay RX5 TX5 0, u_lay RX5 TX5 1, u_lay RX5 TX5 2, u_lay RX5 TX5 3, u_lay RX5 TX5 4, u_lay RX5 TX5 5], w ∈ gW
  exact List.forall_mem_cons.mpr ⟨(gW_1 (List.mem_of_getElem? (i := 205) rfl) rfl : Cond.laysFinal RX5 "CommitteeBallots$State" "members" "LCommitteeBallots$Members;" ∈ gW), List.forall_mem_cons.mpr ⟨(gW_1 (List.mem_of_getElem? (i := 207) rfl) rfl : Cond.laysFinal RX5 "CommitteeBallots$State" "document" "LCommitteeBallots$Document;" ∈ gW), List.forall_mem_cons.mpr ⟨(gW_1 (List.mem_of_getElem? (i := 209) rfl) rfl : Cond.laysFinal RX5 "CommitteeBallots$State" "ballot" "LCommitteeBallots$Ballot;" ∈ gW), List.forall_mem_cons.mpr ⟨(gW_1 (List.mem_of_getElem? (i := 211) rfl) rfl : Cond.laysFinal RX5 "CommitteeBallots$State" "comments" "LCommitteeBallots$Comments;" ∈ gW), List.forall_mem_cons.mpr ⟨(gW_1 (List.mem_of_getElem? (i := 213) rfl) rfl : Cond.laysFinal RX5 "CommitteeBallots$State" "settings" "[I" ∈ gW), List.forall_mem_cons.mpr ⟨(gW_1 (List.mem_of_getElem? (i := 215) rfl) rfl : Cond.lays RX5 "CommitteeBallots$State" "today" "I" ∈ gW), fun _ h => absurd h List.not_mem_nil⟩⟩⟩⟩⟩⟩
theorem wu_X6 : ∀ w ∈ u_ws RX6 TX6 7, w ∈ gW := by
  show ∀ w ∈ [u_lay RX6 TX6 0, u_lay RX6 TX6 1, u_lay RX6 TX6 2, u_lay RX6 TX6 3, u_lay RX6 TX6 4, u_lay RX6 TX6 5, u_lay RX6 TX6 6], w ∈ gW
  exact List.forall_mem_cons.mpr ⟨(gW_2 (List.mem_of_getElem? (i := 16) rfl) rfl : Cond.laysFinal RX6 "CommitteeBallots$Text" "signs" "[C" ∈ gW), List.forall_mem_cons.mpr ⟨(gW_2 (List.mem_of_getElem? (i := 18) rfl) rfl : Cond.lays RX6 "CommitteeBallots$Text" "length" "I" ∈ gW), List.forall_mem_cons.mpr ⟨(gW_2 (List.mem_of_getElem? (i := 20) rfl) rfl : Cond.lays RX6 "CommitteeBallots$Text" "start" "I" ∈ gW), List.forall_mem_cons.mpr ⟨(gW_2 (List.mem_of_getElem? (i := 22) rfl) rfl : Cond.lays RX6 "CommitteeBallots$Text" "end" "I" ∈ gW), List.forall_mem_cons.mpr ⟨(gW_2 (List.mem_of_getElem? (i := 24) rfl) rfl : Cond.lays RX6 "CommitteeBallots$Text" "clause" "I" ∈ gW), List.forall_mem_cons.mpr ⟨(gW_2 (List.mem_of_getElem? (i := 26) rfl) rfl : Cond.lays RX6 "CommitteeBallots$Text" "kind" "I" ∈ gW), List.forall_mem_cons.mpr ⟨(gW_2 (List.mem_of_getElem? (i := 28) rfl) rfl : Cond.lays RX6 "CommitteeBallots$Text" "proposed" "I" ∈ gW), fun _ h => absurd h List.not_mem_nil⟩⟩⟩⟩⟩⟩⟩
theorem wu_X7 : ∀ w ∈ u_ws RX7 TX7 3, w ∈ gW := by
  show ∀ w ∈ [u_lay RX7 TX7 0, u_lay RX7 TX7 1, u_lay RX7 TX7 2], w ∈ gW
  exact List.forall_mem_cons.mpr ⟨(gW_2 (List.mem_of_getElem? (i := 35) rfl) rfl : Cond.laysFinal RX7 "CommitteeBallots" "now" "LCommitteeBallots$State;" ∈ gW), List.forall_mem_cons.mpr ⟨(gW_2 (List.mem_of_getElem? (i := 37) rfl) rfl : Cond.laysFinal RX7 "CommitteeBallots" "history" "LCommitteeBallots$History;" ∈ gW), List.forall_mem_cons.mpr ⟨(gW_2 (List.mem_of_getElem? (i := 39) rfl) rfl : Cond.laysFinal RX7 "CommitteeBallots" "text" "LCommitteeBallots$Text;" ∈ gW), fun _ h => absurd h List.not_mem_nil⟩⟩⟩
theorem wq_L_7 : Cond.constant RL 7 916318735 ∈ gW := gW_2 (List.mem_of_getElem? (i := 106) rfl) rfl
theorem wq_L_8 : Cond.constant RL 8 2147483647 ∈ gW := gW_2 (List.mem_of_getElem? (i := 110) rfl) rfl
theorem wq_L_9 : Cond.constantLong RL 9 73 ∈ gW := gW_2 (List.mem_of_getElem? (i := 114) rfl) rfl
theorem wq_L_11 : Cond.constantLong RL 11 31 ∈ gW := gW_2 (List.mem_of_getElem? (i := 115) rfl) rfl
theorem wq_L_119 : Cond.constant RL 119 1000000 ∈ gW := gW_3 (List.mem_of_getElem? (i := 182) rfl) rfl
theorem wq_L_120 : Cond.constant RL 120 99999 ∈ gW := gW_3 (List.mem_of_getElem? (i := 183) rfl) rfl
def gNest : List Cond := [.methodLinkNest RX7 9 yX5_init "CommitteeBallots", .methodLinkNest RX5 11 yX4_init "CommitteeBallots", .methodLinkNest RX5 20 yX2_init "CommitteeBallots", .methodLinkNest RX5 27 yX0_init "CommitteeBallots", .methodLinkNest RX5 34 yX1_init "CommitteeBallots", .fieldLinkNest RX5 39 "CommitteeBallots" "FIRST_SETTINGS" "[I" "CommitteeBallots", .methodLinkNest RX3 17 yX5_init "CommitteeBallots", .methodLinkNest RX7 25 yX6_init "CommitteeBallots", .methodLinkNest RX4 24 yX7_copyAll "CommitteeBallots", .methodLinkNest RX2 34 yX7_copyAll "CommitteeBallots", .methodLinkNest RX0 15 yX7_copyAll "CommitteeBallots", .methodLinkNest RX1 36 yX7_copyAll "CommitteeBallots", .methodLinkNest RX5 64 yX7_copyAll "CommitteeBallots"]
