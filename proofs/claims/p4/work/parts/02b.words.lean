/-! the tables' words by their places; written by wip/gen/names.py -/
theorem ii_Lw : (Cond.initialized R_Lw) ∈ tb := tb_mem (List.mem_append_left _ (List.mem_of_getElem? (i := 0) rfl)) rfl
theorem ii_PS : (Cond.initialized R_PS) ∈ tb := tb_mem (List.mem_append_left _ (List.mem_of_getElem? (i := 1) rfl)) rfl
theorem ii_Tx : (Cond.initialized R_Tx) ∈ tb := tb_mem (List.mem_append_left _ (List.mem_of_getElem? (i := 2) rfl)) rfl
theorem ii_Pe : (Cond.initialized R_Pe) ∈ tb := tb_mem (List.mem_append_left _ (List.mem_of_getElem? (i := 3) rfl)) rfl
theorem ii_Vl : (Cond.initialized R_Vl) ∈ tb := tb_mem (List.mem_append_left _ (List.mem_of_getElem? (i := 4) rfl)) rfl
theorem ii_Lg : (Cond.initialized R_Lg) ∈ tb := tb_mem (List.mem_append_left _ (List.mem_of_getElem? (i := 5) rfl)) rfl
theorem ii_Rn : (Cond.initialized R_Rn) ∈ tb := tb_mem (List.mem_append_left _ (List.mem_of_getElem? (i := 6) rfl)) rfl
theorem ii_Vs : (Cond.initialized R_Vs) ∈ tb := tb_mem (List.mem_append_left _ (List.mem_of_getElem? (i := 7) rfl)) rfl
theorem ii_Ar : (Cond.initialized R_Ar) ∈ tb := tb_mem (List.mem_append_left _ (List.mem_of_getElem? (i := 8) rfl)) rfl
theorem ii_Pd : (Cond.initialized R_Pd) ∈ tb := tb_mem (List.mem_append_left _ (List.mem_of_getElem? (i := 9) rfl)) rfl
theorem ii_Sm : (Cond.initialized R_Sm) ∈ tb := tb_mem (List.mem_append_left _ (List.mem_of_getElem? (i := 10) rfl)) rfl
theorem ii_Lv : (Cond.initialized R_Lv) ∈ tb := tb_mem (List.mem_append_left _ (List.mem_of_getElem? (i := 11) rfl)) rfl
theorem ii_Md : (Cond.initialized R_Md) ∈ tb := tb_mem (List.mem_append_left _ (List.mem_of_getElem? (i := 12) rfl)) rfl
theorem ii_Ma : (Cond.initialized R_Ma) ∈ tb := tb_mem (List.mem_append_left _ (List.mem_of_getElem? (i := 13) rfl)) rfl
theorem ii_Sy : (Cond.initialized R_Sy) ∈ tb := tb_mem (List.mem_append_left _ (List.mem_of_getElem? (i := 14) rfl)) rfl
theorem ii_St : (Cond.initialized R_St) ∈ tb := tb_mem (List.mem_append_left _ (List.mem_of_getElem? (i := 15) rfl)) rfl
theorem ii_S1 : (Cond.initialized R_S1) ∈ tb := tb_mem (List.mem_append_left _ (List.mem_of_getElem? (i := 16) rfl)) rfl
theorem ii_S2 : (Cond.initialized R_S2) ∈ tb := tb_mem (List.mem_append_left _ (List.mem_of_getElem? (i := 17) rfl)) rfl
theorem ii_Pp : (Cond.initialized R_Pp) ∈ tb := tb_mem (List.mem_append_left _ (List.mem_of_getElem? (i := 18) rfl)) rfl
theorem ii_Ch : (Cond.initialized R_Ch) ∈ tb := tb_mem (List.mem_append_left _ (List.mem_of_getElem? (i := 19) rfl)) rfl
theorem cl_Lw_7 : (Cond.classLink R_Lw 7 "PeerScripts") ∈ tb := tb_mem (List.mem_append_left _ (List.mem_of_getElem? (i := 20) rfl)) rfl
theorem it_PS : (Cond.instantiable R_PS 3) ∈ tb := tb_mem (List.mem_append_left _ (List.mem_of_getElem? (i := 21) rfl)) rfl
theorem ml_Lw_9 : (Cond.methodLink R_Lw 9 y_PS_init) ∈ tb := tb_mem (List.mem_append_left _ (List.mem_of_getElem? (i := 22) rfl)) rfl
theorem im_PS_init : (Cond.instanceMethod y_PS_init) ∈ tb := tb_mem (List.mem_append_left _ (List.mem_of_getElem? (i := 23) rfl)) rfl
theorem ml_PS_1 : (Cond.methodLink R_PS 1 y_Ob_init) ∈ tb := tb_mem (List.mem_append_left _ (List.mem_of_getElem? (i := 25) rfl)) rfl
theorem im_Ob_init : (Cond.instanceMethod y_Ob_init) ∈ tb := tb_mem (List.mem_append_left _ (List.mem_of_getElem? (i := 26) rfl)) rfl
theorem cl_PS_7 : (Cond.classLink R_PS 7 "PeerScripts$Text") ∈ tb := tb_mem (List.mem_append_left _ (List.mem_of_getElem? (i := 28) rfl)) rfl
theorem it_Tx : (Cond.instantiable R_Tx 3) ∈ tb := tb_mem (List.mem_append_left _ (List.mem_of_getElem? (i := 29) rfl)) rfl
theorem im_Tx_init : (Cond.instanceMethod y_Tx_init) ∈ tb := tb_mem (List.mem_append_left _ (List.mem_of_getElem? (i := 31) rfl)) rfl
theorem ml_Tx_3 : (Cond.methodLink R_Tx 3 y_Ob_init) ∈ tb := tb_mem (List.mem_append_left _ (List.mem_of_getElem? (i := 33) rfl)) rfl
theorem fl_Tx_9 : (Cond.fieldLink R_Tx 9 "PeerScripts$Text" "letters" "[C") ∈ tb := tb_mem (List.mem_append_left _ (List.mem_of_getElem? (i := 34) rfl)) rfl
theorem sc_Tx : (Cond.superclass R_Tx "java/lang/Object") ∈ tb := tb_mem (List.mem_append_left _ (List.mem_of_getElem? (i := 45) rfl)) rfl
theorem ac_char : (Cond.arrayClass ClassFile.FieldType.char) ∈ tb := tb_mem (List.mem_append_left _ (List.mem_of_getElem? (i := 46) rfl)) rfl
theorem cl_PS_16 : (Cond.classLink R_PS 16 "PeerScripts$Peer") ∈ tb := tb_mem (List.mem_append_left _ (List.mem_of_getElem? (i := 47) rfl)) rfl
theorem it_Pe : (Cond.instantiable R_Pe 10) ∈ tb := tb_mem (List.mem_append_left _ (List.mem_of_getElem? (i := 48) rfl)) rfl
theorem im_Pe_init : (Cond.instanceMethod y_Pe_init) ∈ tb := tb_mem (List.mem_append_left _ (List.mem_of_getElem? (i := 50) rfl)) rfl
theorem ml_Pe_3 : (Cond.methodLink R_Pe 3 y_Ob_init) ∈ tb := tb_mem (List.mem_append_left _ (List.mem_of_getElem? (i := 52) rfl)) rfl
theorem cl_Pe_27 : (Cond.classLink R_Pe 27 "PeerScripts$Values") ∈ tb := tb_mem (List.mem_append_left _ (List.mem_of_getElem? (i := 53) rfl)) rfl
theorem it_Vl : (Cond.instantiable R_Vl 2) ∈ tb := tb_mem (List.mem_append_left _ (List.mem_of_getElem? (i := 54) rfl)) rfl
theorem ml_Pe_29 : (Cond.methodLink R_Pe 29 y_Vl_init) ∈ tb := tb_mem (List.mem_append_left _ (List.mem_of_getElem? (i := 55) rfl)) rfl
theorem im_Vl_init : (Cond.instanceMethod y_Vl_init) ∈ tb := tb_mem (List.mem_append_left _ (List.mem_of_getElem? (i := 56) rfl)) rfl
theorem ml_Vl_3 : (Cond.methodLink R_Vl 3 y_Ob_init) ∈ tb := tb_mem (List.mem_append_left _ (List.mem_of_getElem? (i := 58) rfl)) rfl
theorem fl_Vl_9 : (Cond.fieldLink R_Vl 9 "PeerScripts$Values" "letters" "[C") ∈ tb := tb_mem (List.mem_append_left _ (List.mem_of_getElem? (i := 59) rfl)) rfl
theorem fl_Vl_15 : (Cond.fieldLink R_Vl 15 "PeerScripts$Values" "sizes" "[I") ∈ tb := tb_mem (List.mem_append_left _ (List.mem_of_getElem? (i := 60) rfl)) rfl
theorem sc_Vl : (Cond.superclass R_Vl "java/lang/Object") ∈ tb := tb_mem (List.mem_append_left _ (List.mem_of_getElem? (i := 65) rfl)) rfl
theorem ac_int : (Cond.arrayClass ClassFile.FieldType.int) ∈ tb := tb_mem (List.mem_append_left _ (List.mem_of_getElem? (i := 66) rfl)) rfl
theorem cl_Pe_36 : (Cond.classLink R_Pe 36 "PeerScripts$Log") ∈ tb := tb_mem (List.mem_append_left _ (List.mem_of_getElem? (i := 67) rfl)) rfl
theorem it_Lg : (Cond.instantiable R_Lg 2) ∈ tb := tb_mem (List.mem_append_left _ (List.mem_of_getElem? (i := 68) rfl)) rfl
theorem im_Lg_init : (Cond.instanceMethod y_Lg_init) ∈ tb := tb_mem (List.mem_append_left _ (List.mem_of_getElem? (i := 70) rfl)) rfl
theorem ml_Lg_3 : (Cond.methodLink R_Lg 3 y_Ob_init) ∈ tb := tb_mem (List.mem_append_left _ (List.mem_of_getElem? (i := 72) rfl)) rfl
theorem fl_Lg_9 : (Cond.fieldLink R_Lg 9 "PeerScripts$Log" "latest" "[I") ∈ tb := tb_mem (List.mem_append_left _ (List.mem_of_getElem? (i := 73) rfl)) rfl
theorem fl_Lg_15 : (Cond.fieldLink R_Lg 15 "PeerScripts$Log" "count" "I") ∈ tb := tb_mem (List.mem_append_left _ (List.mem_of_getElem? (i := 74) rfl)) rfl
theorem sc_Lg : (Cond.superclass R_Lg "java/lang/Object") ∈ tb := tb_mem (List.mem_append_left _ (List.mem_of_getElem? (i := 80) rfl)) rfl
theorem fl_Pe_9 : (Cond.fieldLink R_Pe 9 "PeerScripts$Peer" "states" "[I") ∈ tb := tb_mem (List.mem_append_left _ (List.mem_of_getElem? (i := 81) rfl)) rfl
theorem fl_Pe_15 : (Cond.fieldLink R_Pe 15 "PeerScripts$Peer" "ons" "[I") ∈ tb := tb_mem (List.mem_append_left _ (List.mem_of_getElem? (i := 82) rfl)) rfl
theorem fl_Pe_18 : (Cond.fieldLink R_Pe 18 "PeerScripts$Peer" "sayings" "[I") ∈ tb := tb_mem (List.mem_append_left _ (List.mem_of_getElem? (i := 83) rfl)) rfl
theorem fl_Pe_21 : (Cond.fieldLink R_Pe 21 "PeerScripts$Peer" "nexts" "[I") ∈ tb := tb_mem (List.mem_append_left _ (List.mem_of_getElem? (i := 84) rfl)) rfl
theorem fl_Pe_43 : (Cond.fieldLink R_Pe 43 "PeerScripts$Peer" "ruleCount" "I") ∈ tb := tb_mem (List.mem_append_left _ (List.mem_of_getElem? (i := 85) rfl)) rfl
theorem fl_Pe_47 : (Cond.fieldLink R_Pe 47 "PeerScripts$Peer" "state" "I") ∈ tb := tb_mem (List.mem_append_left _ (List.mem_of_getElem? (i := 86) rfl)) rfl
theorem fl_Pe_24 : (Cond.fieldLink R_Pe 24 "PeerScripts$Peer" "input" "[I") ∈ tb := tb_mem (List.mem_append_left _ (List.mem_of_getElem? (i := 88) rfl)) rfl
theorem fl_Pe_50 : (Cond.fieldLink R_Pe 50 "PeerScripts$Peer" "inputCount" "I") ∈ tb := tb_mem (List.mem_append_left _ (List.mem_of_getElem? (i := 89) rfl)) rfl
theorem fl_Pe_32 : (Cond.fieldLink R_Pe 32 "PeerScripts$Peer" "buffer" "LPeerScripts$Values;") ∈ tb := tb_mem (List.mem_append_left _ (List.mem_of_getElem? (i := 91) rfl)) rfl
theorem fl_Pe_39 : (Cond.fieldLink R_Pe 39 "PeerScripts$Peer" "log" "LPeerScripts$Log;") ∈ tb := tb_mem (List.mem_append_left _ (List.mem_of_getElem? (i := 94) rfl)) rfl
theorem sc_Pe : (Cond.superclass R_Pe "java/lang/Object") ∈ tb := tb_mem (List.mem_append_left _ (List.mem_of_getElem? (i := 116) rfl)) rfl
theorem cl_PS_23 : (Cond.classLink R_PS 23 "PeerScripts$Runner") ∈ tb := tb_mem (List.mem_append_left _ (List.mem_of_getElem? (i := 117) rfl)) rfl
theorem it_Rn : (Cond.instantiable R_Rn 9) ∈ tb := tb_mem (List.mem_append_left _ (List.mem_of_getElem? (i := 118) rfl)) rfl
theorem ml_PS_25 : (Cond.methodLink R_PS 25 y_Rn_init) ∈ tb := tb_mem (List.mem_append_left _ (List.mem_of_getElem? (i := 119) rfl)) rfl
theorem im_Rn_init : (Cond.instanceMethod y_Rn_init) ∈ tb := tb_mem (List.mem_append_left _ (List.mem_of_getElem? (i := 120) rfl)) rfl
theorem ml_Rn_3 : (Cond.methodLink R_Rn 3 y_Ob_init) ∈ tb := tb_mem (List.mem_append_left _ (List.mem_of_getElem? (i := 122) rfl)) rfl
theorem cl_Rn_9 : (Cond.classLink R_Rn 9 "PeerScripts$Variables") ∈ tb := tb_mem (List.mem_append_left _ (List.mem_of_getElem? (i := 123) rfl)) rfl
theorem it_Vs : (Cond.instantiable R_Vs 2) ∈ tb := tb_mem (List.mem_append_left _ (List.mem_of_getElem? (i := 124) rfl)) rfl
theorem ml_Rn_11 : (Cond.methodLink R_Rn 11 y_Vs_init) ∈ tb := tb_mem (List.mem_append_left _ (List.mem_of_getElem? (i := 125) rfl)) rfl
theorem im_Vs_init : (Cond.instanceMethod y_Vs_init) ∈ tb := tb_mem (List.mem_append_left _ (List.mem_of_getElem? (i := 126) rfl)) rfl
theorem ml_Vs_3 : (Cond.methodLink R_Vs 3 y_Ob_init) ∈ tb := tb_mem (List.mem_append_left _ (List.mem_of_getElem? (i := 128) rfl)) rfl
theorem cl_Vs_9 : (Cond.classLink R_Vs 9 "PeerScripts$Values") ∈ tb := tb_mem (List.mem_append_left _ (List.mem_of_getElem? (i := 129) rfl)) rfl
theorem ml_Vs_21 : (Cond.methodLink R_Vs 21 y_Vl_init) ∈ tb := tb_mem (List.mem_append_left _ (List.mem_of_getElem? (i := 131) rfl)) rfl
theorem ml_Vs_24 : (Cond.methodLink R_Vs 24 y_Vl_forgetAll) ∈ tb := tb_mem (List.mem_append_left _ (List.mem_of_getElem? (i := 132) rfl)) rfl
theorem im_Vl_forgetAll : (Cond.instanceMethod y_Vl_forgetAll) ∈ tb := tb_mem (List.mem_append_left _ (List.mem_of_getElem? (i := 133) rfl)) rfl
theorem se_Vl_forgetAll : (Cond.selects R_Vl y_Vl_forgetAll y_Vl_forgetAll) ∈ tb := tb_mem (List.mem_append_left _ (List.mem_of_getElem? (i := 134) rfl)) rfl
theorem ml_Vl_19 : (Cond.methodLink R_Vl 19 y_Ar_fill) ∈ tb := tb_mem (List.mem_append_left _ (List.mem_of_getElem? (i := 136) rfl)) rfl
theorem sm_Ar_fill : (Cond.static y_Ar_fill) ∈ tb := tb_mem (List.mem_append_left _ (List.mem_of_getElem? (i := 137) rfl)) rfl
theorem fl_Vs_11 : (Cond.fieldLink R_Vs 11 "PeerScripts$Variables" "frames" "[LPeerScripts$Values;") ∈ tb := tb_mem (List.mem_append_left _ (List.mem_of_getElem? (i := 139) rfl)) rfl
theorem fl_Vs_17 : (Cond.fieldLink R_Vs 17 "PeerScripts$Variables" "linked" "[Z") ∈ tb := tb_mem (List.mem_append_left _ (List.mem_of_getElem? (i := 140) rfl)) rfl
theorem sc_Vs : (Cond.superclass R_Vs "java/lang/Object") ∈ tb := tb_mem (List.mem_append_left _ (List.mem_of_getElem? (i := 145) rfl)) rfl
theorem ac_boolean : (Cond.arrayClass ClassFile.FieldType.boolean) ∈ tb := tb_mem (List.mem_append_left _ (List.mem_of_getElem? (i := 146) rfl)) rfl
theorem cl_Rn_18 : (Cond.classLink R_Rn 18 "PeerScripts$Procedures") ∈ tb := tb_mem (List.mem_append_left _ (List.mem_of_getElem? (i := 147) rfl)) rfl
theorem it_Pd : (Cond.instantiable R_Pd 3) ∈ tb := tb_mem (List.mem_append_left _ (List.mem_of_getElem? (i := 148) rfl)) rfl
theorem ml_Rn_20 : (Cond.methodLink R_Rn 20 y_Pd_init) ∈ tb := tb_mem (List.mem_append_left _ (List.mem_of_getElem? (i := 149) rfl)) rfl
theorem im_Pd_init : (Cond.instanceMethod y_Pd_init) ∈ tb := tb_mem (List.mem_append_left _ (List.mem_of_getElem? (i := 150) rfl)) rfl
theorem ml_Pd_3 : (Cond.methodLink R_Pd 3 y_Ob_init) ∈ tb := tb_mem (List.mem_append_left _ (List.mem_of_getElem? (i := 152) rfl)) rfl
theorem ml_Pd_21 : (Cond.methodLink R_Pd 21 y_Ar_fill) ∈ tb := tb_mem (List.mem_append_left _ (List.mem_of_getElem? (i := 153) rfl)) rfl
theorem fl_Pd_9 : (Cond.fieldLink R_Pd 9 "PeerScripts$Procedures" "starts" "[I") ∈ tb := tb_mem (List.mem_append_left _ (List.mem_of_getElem? (i := 154) rfl)) rfl
theorem fl_Pd_15 : (Cond.fieldLink R_Pd 15 "PeerScripts$Procedures" "ends" "[I") ∈ tb := tb_mem (List.mem_append_left _ (List.mem_of_getElem? (i := 156) rfl)) rfl
theorem fl_Pd_18 : (Cond.fieldLink R_Pd 18 "PeerScripts$Procedures" "parameters" "[I") ∈ tb := tb_mem (List.mem_append_left _ (List.mem_of_getElem? (i := 158) rfl)) rfl
theorem sc_Pd : (Cond.superclass R_Pd "java/lang/Object") ∈ tb := tb_mem (List.mem_append_left _ (List.mem_of_getElem? (i := 166) rfl)) rfl
theorem cl_Rn_25 : (Cond.classLink R_Rn 25 "PeerScripts$Level") ∈ tb := tb_mem (List.mem_append_left _ (List.mem_of_getElem? (i := 167) rfl)) rfl
theorem cl_Rn_31 : (Cond.classLink R_Rn 31 "PeerScripts$Values") ∈ tb := tb_mem (List.mem_append_left _ (List.mem_of_getElem? (i := 169) rfl)) rfl
theorem ml_Rn_33 : (Cond.methodLink R_Rn 33 y_Vl_init) ∈ tb := tb_mem (List.mem_append_left _ (List.mem_of_getElem? (i := 170) rfl)) rfl
theorem cl_Rn_48 : (Cond.classLink R_Rn 48 "PeerScripts$Sums") ∈ tb := tb_mem (List.mem_append_left _ (List.mem_of_getElem? (i := 171) rfl)) rfl
theorem it_Sm : (Cond.instantiable R_Sm 14) ∈ tb := tb_mem (List.mem_append_left _ (List.mem_of_getElem? (i := 172) rfl)) rfl
theorem ml_Rn_56 : (Cond.methodLink R_Rn 56 y_Sm_init) ∈ tb := tb_mem (List.mem_append_left _ (List.mem_of_getElem? (i := 173) rfl)) rfl
theorem im_Sm_init : (Cond.instanceMethod y_Sm_init) ∈ tb := tb_mem (List.mem_append_left _ (List.mem_of_getElem? (i := 174) rfl)) rfl
theorem ml_Sm_3 : (Cond.methodLink R_Sm 3 y_Ob_init) ∈ tb := tb_mem (List.mem_append_left _ (List.mem_of_getElem? (i := 176) rfl)) rfl
theorem fl_Sm_19 : (Cond.fieldLink R_Sm 19 "PeerScripts$Sums" "letters" "[C") ∈ tb := tb_mem (List.mem_append_left _ (List.mem_of_getElem? (i := 177) rfl)) rfl
theorem fl_Sm_22 : (Cond.fieldLink R_Sm 22 "PeerScripts$Sums" "variables" "LPeerScripts$Variables;") ∈ tb := tb_mem (List.mem_append_left _ (List.mem_of_getElem? (i := 178) rfl)) rfl
theorem fl_Sm_9 : (Cond.fieldLink R_Sm 9 "PeerScripts$Sums" "operands" "[I") ∈ tb := tb_mem (List.mem_append_left _ (List.mem_of_getElem? (i := 179) rfl)) rfl
theorem fl_Sm_15 : (Cond.fieldLink R_Sm 15 "PeerScripts$Sums" "signs" "[C") ∈ tb := tb_mem (List.mem_append_left _ (List.mem_of_getElem? (i := 180) rfl)) rfl
theorem fl_Sm_87 : (Cond.fieldLink R_Sm 87 "PeerScripts$Sums" "operandCount" "I") ∈ tb := tb_mem (List.mem_append_left _ (List.mem_of_getElem? (i := 181) rfl)) rfl
theorem fl_Sm_90 : (Cond.fieldLink R_Sm 90 "PeerScripts$Sums" "signCount" "I") ∈ tb := tb_mem (List.mem_append_left _ (List.mem_of_getElem? (i := 182) rfl)) rfl
theorem fl_Sm_59 : (Cond.fieldLink R_Sm 59 "PeerScripts$Sums" "openCount" "I") ∈ tb := tb_mem (List.mem_append_left _ (List.mem_of_getElem? (i := 183) rfl)) rfl
theorem fl_Sm_30 : (Cond.fieldLink R_Sm 30 "PeerScripts$Sums" "at" "I") ∈ tb := tb_mem (List.mem_append_left _ (List.mem_of_getElem? (i := 184) rfl)) rfl
theorem fl_Sm_34 : (Cond.fieldLink R_Sm 34 "PeerScripts$Sums" "end" "I") ∈ tb := tb_mem (List.mem_append_left _ (List.mem_of_getElem? (i := 185) rfl)) rfl
theorem fl_Sm_84 : (Cond.fieldLink R_Sm 84 "PeerScripts$Sums" "frame" "I") ∈ tb := tb_mem (List.mem_append_left _ (List.mem_of_getElem? (i := 186) rfl)) rfl
theorem fl_Sm_37 : (Cond.fieldLink R_Sm 37 "PeerScripts$Sums" "operandIsDue" "Z") ∈ tb := tb_mem (List.mem_append_left _ (List.mem_of_getElem? (i := 187) rfl)) rfl
theorem fl_Sm_69 : (Cond.fieldLink R_Sm 69 "PeerScripts$Sums" "variableError" "I") ∈ tb := tb_mem (List.mem_append_left _ (List.mem_of_getElem? (i := 188) rfl)) rfl
theorem fl_Sm_72 : (Cond.fieldLink R_Sm 72 "PeerScripts$Sums" "byZero" "Z") ∈ tb := tb_mem (List.mem_append_left _ (List.mem_of_getElem? (i := 189) rfl)) rfl
theorem fl_Sm_66 : (Cond.fieldLink R_Sm 66 "PeerScripts$Sums" "value" "I") ∈ tb := tb_mem (List.mem_append_left _ (List.mem_of_getElem? (i := 190) rfl)) rfl
theorem sc_Sm : (Cond.superclass R_Sm "java/lang/Object") ∈ tb := tb_mem (List.mem_append_left _ (List.mem_of_getElem? (i := 220) rfl)) rfl
theorem it_Lv : (Cond.instantiable R_Lv 10) ∈ tb := tb_mem (List.mem_append_left _ (List.mem_of_getElem? (i := 221) rfl)) rfl
theorem im_Lv_init : (Cond.instanceMethod y_Lv_init) ∈ tb := tb_mem (List.mem_append_left _ (List.mem_of_getElem? (i := 223) rfl)) rfl
theorem ml_Lv_3 : (Cond.methodLink R_Lv 3 y_Ob_init) ∈ tb := tb_mem (List.mem_append_left _ (List.mem_of_getElem? (i := 225) rfl)) rfl
theorem cl_Lv_9 : (Cond.classLink R_Lv 9 "PeerScripts$Values") ∈ tb := tb_mem (List.mem_append_left _ (List.mem_of_getElem? (i := 226) rfl)) rfl
theorem ml_Lv_11 : (Cond.methodLink R_Lv 11 y_Vl_init) ∈ tb := tb_mem (List.mem_append_left _ (List.mem_of_getElem? (i := 227) rfl)) rfl
theorem fl_Lv_14 : (Cond.fieldLink R_Lv 14 "PeerScripts$Level" "words" "LPeerScripts$Values;") ∈ tb := tb_mem (List.mem_append_left _ (List.mem_of_getElem? (i := 228) rfl)) rfl
theorem fl_Lv_20 : (Cond.fieldLink R_Lv 20 "PeerScripts$Level" "braced" "[Z") ∈ tb := tb_mem (List.mem_append_left _ (List.mem_of_getElem? (i := 230) rfl)) rfl
theorem fl_Lv_24 : (Cond.fieldLink R_Lv 24 "PeerScripts$Level" "starts" "[I") ∈ tb := tb_mem (List.mem_append_left _ (List.mem_of_getElem? (i := 231) rfl)) rfl
theorem fl_Lv_28 : (Cond.fieldLink R_Lv 28 "PeerScripts$Level" "ends" "[I") ∈ tb := tb_mem (List.mem_append_left _ (List.mem_of_getElem? (i := 232) rfl)) rfl
theorem fl_Lv_31 : (Cond.fieldLink R_Lv 31 "PeerScripts$Level" "count" "I") ∈ tb := tb_mem (List.mem_append_left _ (List.mem_of_getElem? (i := 233) rfl)) rfl
theorem fl_Lv_41 : (Cond.fieldLink R_Lv 41 "PeerScripts$Level" "at" "I") ∈ tb := tb_mem (List.mem_append_left _ (List.mem_of_getElem? (i := 235) rfl)) rfl
theorem fl_Lv_47 : (Cond.fieldLink R_Lv 47 "PeerScripts$Level" "end" "I") ∈ tb := tb_mem (List.mem_append_left _ (List.mem_of_getElem? (i := 237) rfl)) rfl
theorem fl_Lv_50 : (Cond.fieldLink R_Lv 50 "PeerScripts$Level" "frame" "I") ∈ tb := tb_mem (List.mem_append_left _ (List.mem_of_getElem? (i := 239) rfl)) rfl
theorem fl_Lv_53 : (Cond.fieldLink R_Lv 53 "PeerScripts$Level" "inBrackets" "Z") ∈ tb := tb_mem (List.mem_append_right _ (List.mem_append_left _ (List.mem_of_getElem? (i := 1) rfl))) rfl
theorem fl_Lv_57 : (Cond.fieldLink R_Lv 57 "PeerScripts$Level" "over" "Z") ∈ tb := tb_mem (List.mem_append_right _ (List.mem_append_left _ (List.mem_of_getElem? (i := 3) rfl))) rfl
theorem sc_Lv : (Cond.superclass R_Lv "java/lang/Object") ∈ tb := tb_mem (List.mem_append_right _ (List.mem_append_left _ (List.mem_of_getElem? (i := 25) rfl))) rfl
theorem fl_Rn_40 : (Cond.fieldLink R_Rn 40 "PeerScripts$Runner" "text" "LPeerScripts$Text;") ∈ tb := tb_mem (List.mem_append_right _ (List.mem_append_left _ (List.mem_of_getElem? (i := 26) rfl))) rfl
theorem fl_Rn_44 : (Cond.fieldLink R_Rn 44 "PeerScripts$Runner" "partner" "LPeerScripts$Peer;") ∈ tb := tb_mem (List.mem_append_right _ (List.mem_append_left _ (List.mem_of_getElem? (i := 27) rfl))) rfl
theorem fl_Rn_12 : (Cond.fieldLink R_Rn 12 "PeerScripts$Runner" "variables" "LPeerScripts$Variables;") ∈ tb := tb_mem (List.mem_append_right _ (List.mem_append_left _ (List.mem_of_getElem? (i := 28) rfl))) rfl
theorem fl_Rn_21 : (Cond.fieldLink R_Rn 21 "PeerScripts$Runner" "procedures" "LPeerScripts$Procedures;") ∈ tb := tb_mem (List.mem_append_right _ (List.mem_append_left _ (List.mem_of_getElem? (i := 30) rfl))) rfl
theorem fl_Rn_59 : (Cond.fieldLink R_Rn 59 "PeerScripts$Runner" "sums" "LPeerScripts$Sums;") ∈ tb := tb_mem (List.mem_append_right _ (List.mem_append_left _ (List.mem_of_getElem? (i := 32) rfl))) rfl
theorem fl_Rn_27 : (Cond.fieldLink R_Rn 27 "PeerScripts$Runner" "levels" "[LPeerScripts$Level;") ∈ tb := tb_mem (List.mem_append_right _ (List.mem_append_left _ (List.mem_of_getElem? (i := 33) rfl))) rfl
theorem fl_Rn_36 : (Cond.fieldLink R_Rn 36 "PeerScripts$Runner" "result" "LPeerScripts$Values;") ∈ tb := tb_mem (List.mem_append_right _ (List.mem_append_left _ (List.mem_of_getElem? (i := 34) rfl))) rfl
theorem fl_Rn_98 : (Cond.fieldLink R_Rn 98 "PeerScripts$Runner" "fuelLeft" "I") ∈ tb := tb_mem (List.mem_append_right _ (List.mem_append_left _ (List.mem_of_getElem? (i := 37) rfl))) rfl
theorem sc_Rn : (Cond.superclass R_Rn "java/lang/Object") ∈ tb := tb_mem (List.mem_append_right _ (List.mem_append_left _ (List.mem_of_getElem? (i := 57) rfl))) rfl
theorem fl_PS_10 : (Cond.fieldLink R_PS 10 "PeerScripts" "text" "LPeerScripts$Text;") ∈ tb := tb_mem (List.mem_append_right _ (List.mem_append_left _ (List.mem_of_getElem? (i := 58) rfl))) rfl
theorem fl_PS_19 : (Cond.fieldLink R_PS 19 "PeerScripts" "partner" "LPeerScripts$Peer;") ∈ tb := tb_mem (List.mem_append_right _ (List.mem_append_left _ (List.mem_of_getElem? (i := 59) rfl))) rfl
theorem fl_PS_28 : (Cond.fieldLink R_PS 28 "PeerScripts" "runner" "LPeerScripts$Runner;") ∈ tb := tb_mem (List.mem_append_right _ (List.mem_append_left _ (List.mem_of_getElem? (i := 60) rfl))) rfl
theorem sc_PS : (Cond.superclass R_PS "java/lang/Object") ∈ tb := tb_mem (List.mem_append_right _ (List.mem_append_left _ (List.mem_of_getElem? (i := 67) rfl))) rfl
theorem ml_Lw_13 : (Cond.methodLink R_Lw 13 y_PS_put) ∈ tb := tb_mem (List.mem_append_right _ (List.mem_append_left _ (List.mem_of_getElem? (i := 68) rfl))) rfl
theorem im_PS_put : (Cond.instanceMethod y_PS_put) ∈ tb := tb_mem (List.mem_append_right _ (List.mem_append_left _ (List.mem_of_getElem? (i := 69) rfl))) rfl
theorem se_PS_put : (Cond.selects R_PS y_PS_put y_PS_put) ∈ tb := tb_mem (List.mem_append_right _ (List.mem_append_left _ (List.mem_of_getElem? (i := 70) rfl))) rfl
theorem ml_PS_32 : (Cond.methodLink R_PS 32 y_PS_isPrintable) ∈ tb := tb_mem (List.mem_append_right _ (List.mem_append_left _ (List.mem_of_getElem? (i := 72) rfl))) rfl
theorem sm_PS_isPrintable : (Cond.static y_PS_isPrintable) ∈ tb := tb_mem (List.mem_append_right _ (List.mem_append_left _ (List.mem_of_getElem? (i := 73) rfl))) rfl
theorem ml_Lw_18 : (Cond.methodLink R_Lw 18 y_PS_wipe) ∈ tb := tb_mem (List.mem_append_right _ (List.mem_append_left _ (List.mem_of_getElem? (i := 75) rfl))) rfl
theorem im_PS_wipe : (Cond.instanceMethod y_PS_wipe) ∈ tb := tb_mem (List.mem_append_right _ (List.mem_append_left _ (List.mem_of_getElem? (i := 76) rfl))) rfl
theorem se_PS_wipe : (Cond.selects R_PS y_PS_wipe y_PS_wipe) ∈ tb := tb_mem (List.mem_append_right _ (List.mem_append_left _ (List.mem_of_getElem? (i := 77) rfl))) rfl
theorem ml_PS_52 : (Cond.methodLink R_PS 52 y_Vs_open) ∈ tb := tb_mem (List.mem_append_right _ (List.mem_append_left _ (List.mem_of_getElem? (i := 79) rfl))) rfl
theorem im_Vs_open : (Cond.instanceMethod y_Vs_open) ∈ tb := tb_mem (List.mem_append_right _ (List.mem_append_left _ (List.mem_of_getElem? (i := 80) rfl))) rfl
theorem se_Vs_open : (Cond.selects R_Vs y_Vs_open y_Vs_open) ∈ tb := tb_mem (List.mem_append_right _ (List.mem_append_left _ (List.mem_of_getElem? (i := 81) rfl))) rfl
theorem ml_PS_62 : (Cond.methodLink R_PS 62 y_Pd_forgetAll) ∈ tb := tb_mem (List.mem_append_right _ (List.mem_append_left _ (List.mem_of_getElem? (i := 83) rfl))) rfl
theorem im_Pd_forgetAll : (Cond.instanceMethod y_Pd_forgetAll) ∈ tb := tb_mem (List.mem_append_right _ (List.mem_append_left _ (List.mem_of_getElem? (i := 84) rfl))) rfl
theorem se_Pd_forgetAll : (Cond.selects R_Pd y_Pd_forgetAll y_Pd_forgetAll) ∈ tb := tb_mem (List.mem_append_right _ (List.mem_append_left _ (List.mem_of_getElem? (i := 85) rfl))) rfl
theorem ml_Lw_22 : (Cond.methodLink R_Lw 22 y_PS_rule) ∈ tb := tb_mem (List.mem_append_right _ (List.mem_append_left _ (List.mem_of_getElem? (i := 87) rfl))) rfl
theorem im_PS_rule : (Cond.instanceMethod y_PS_rule) ∈ tb := tb_mem (List.mem_append_right _ (List.mem_append_left _ (List.mem_of_getElem? (i := 88) rfl))) rfl
theorem se_PS_rule : (Cond.selects R_PS y_PS_rule y_PS_rule) ∈ tb := tb_mem (List.mem_append_right _ (List.mem_append_left _ (List.mem_of_getElem? (i := 89) rfl))) rfl
theorem ml_PS_67 : (Cond.methodLink R_PS 67 y_PS_isState) ∈ tb := tb_mem (List.mem_append_right _ (List.mem_append_left _ (List.mem_of_getElem? (i := 91) rfl))) rfl
theorem sm_PS_isState : (Cond.static y_PS_isState) ∈ tb := tb_mem (List.mem_append_right _ (List.mem_append_left _ (List.mem_of_getElem? (i := 92) rfl))) rfl
theorem ml_PS_70 : (Cond.methodLink R_PS 70 y_PS_isPrintableOrZero) ∈ tb := tb_mem (List.mem_append_right _ (List.mem_append_left _ (List.mem_of_getElem? (i := 94) rfl))) rfl
theorem sm_PS_isPrintableOrZero : (Cond.static y_PS_isPrintableOrZero) ∈ tb := tb_mem (List.mem_append_right _ (List.mem_append_left _ (List.mem_of_getElem? (i := 95) rfl))) rfl
theorem ml_PS_73 : (Cond.methodLink R_PS 73 y_Pe_addRule) ∈ tb := tb_mem (List.mem_append_right _ (List.mem_append_left _ (List.mem_of_getElem? (i := 97) rfl))) rfl
theorem im_Pe_addRule : (Cond.instanceMethod y_Pe_addRule) ∈ tb := tb_mem (List.mem_append_right _ (List.mem_append_left _ (List.mem_of_getElem? (i := 98) rfl))) rfl
theorem se_Pe_addRule : (Cond.selects R_Pe y_Pe_addRule y_Pe_addRule) ∈ tb := tb_mem (List.mem_append_right _ (List.mem_append_left _ (List.mem_of_getElem? (i := 99) rfl))) rfl
theorem ml_Lw_27 : (Cond.methodLink R_Lw 27 y_PS_reset) ∈ tb := tb_mem (List.mem_append_right _ (List.mem_append_left _ (List.mem_of_getElem? (i := 101) rfl))) rfl
theorem im_PS_reset : (Cond.instanceMethod y_PS_reset) ∈ tb := tb_mem (List.mem_append_right _ (List.mem_append_left _ (List.mem_of_getElem? (i := 102) rfl))) rfl
theorem se_PS_reset : (Cond.selects R_PS y_PS_reset y_PS_reset) ∈ tb := tb_mem (List.mem_append_right _ (List.mem_append_left _ (List.mem_of_getElem? (i := 103) rfl))) rfl
theorem ml_PS_77 : (Cond.methodLink R_PS 77 y_Pe_startAnew) ∈ tb := tb_mem (List.mem_append_right _ (List.mem_append_left _ (List.mem_of_getElem? (i := 105) rfl))) rfl
theorem im_Pe_startAnew : (Cond.instanceMethod y_Pe_startAnew) ∈ tb := tb_mem (List.mem_append_right _ (List.mem_append_left _ (List.mem_of_getElem? (i := 106) rfl))) rfl
theorem se_Pe_startAnew : (Cond.selects R_Pe y_Pe_startAnew y_Pe_startAnew) ∈ tb := tb_mem (List.mem_append_right _ (List.mem_append_left _ (List.mem_of_getElem? (i := 107) rfl))) rfl
theorem ml_Pe_53 : (Cond.methodLink R_Pe 53 y_Vl_empty) ∈ tb := tb_mem (List.mem_append_right _ (List.mem_append_left _ (List.mem_of_getElem? (i := 109) rfl))) rfl
theorem im_Vl_empty : (Cond.instanceMethod y_Vl_empty) ∈ tb := tb_mem (List.mem_append_right _ (List.mem_append_left _ (List.mem_of_getElem? (i := 110) rfl))) rfl
theorem se_Vl_empty : (Cond.selects R_Vl y_Vl_empty y_Vl_empty) ∈ tb := tb_mem (List.mem_append_right _ (List.mem_append_left _ (List.mem_of_getElem? (i := 111) rfl))) rfl
theorem ml_Lw_31 : (Cond.methodLink R_Lw 31 y_PS_run) ∈ tb := tb_mem (List.mem_append_right _ (List.mem_append_left _ (List.mem_of_getElem? (i := 113) rfl))) rfl
theorem im_PS_run : (Cond.instanceMethod y_PS_run) ∈ tb := tb_mem (List.mem_append_right _ (List.mem_append_left _ (List.mem_of_getElem? (i := 114) rfl))) rfl
theorem se_PS_run : (Cond.selects R_PS y_PS_run y_PS_run) ∈ tb := tb_mem (List.mem_append_right _ (List.mem_append_left _ (List.mem_of_getElem? (i := 115) rfl))) rfl
theorem im_Rn_runScript : (Cond.instanceMethod y_Rn_runScript) ∈ tb := tb_mem (List.mem_append_right _ (List.mem_append_left _ (List.mem_of_getElem? (i := 119) rfl))) rfl
theorem ml_Rn_64 : (Cond.methodLink R_Rn 64 y_Rn_fail) ∈ tb := tb_mem (List.mem_append_right _ (List.mem_append_left _ (List.mem_of_getElem? (i := 121) rfl))) rfl
theorem im_Rn_fail : (Cond.instanceMethod y_Rn_fail) ∈ tb := tb_mem (List.mem_append_right _ (List.mem_append_left _ (List.mem_of_getElem? (i := 123) rfl))) rfl
theorem ml_Rn_72 : (Cond.methodLink R_Rn 72 y_Vl_empty) ∈ tb := tb_mem (List.mem_append_right _ (List.mem_append_left _ (List.mem_of_getElem? (i := 125) rfl))) rfl
theorem ml_Rn_94 : (Cond.methodLink R_Rn 94 y_Vl_append) ∈ tb := tb_mem (List.mem_append_right _ (List.mem_append_left _ (List.mem_of_getElem? (i := 126) rfl))) rfl
theorem im_Vl_append : (Cond.instanceMethod y_Vl_append) ∈ tb := tb_mem (List.mem_append_right _ (List.mem_append_left _ (List.mem_of_getElem? (i := 127) rfl))) rfl
theorem se_Vl_append : (Cond.selects R_Vl y_Vl_append y_Vl_append) ∈ tb := tb_mem (List.mem_append_right _ (List.mem_append_left _ (List.mem_of_getElem? (i := 128) rfl))) rfl
theorem ml_Rn_68 : (Cond.methodLink R_Rn 68 y_Lv_begin) ∈ tb := tb_mem (List.mem_append_right _ (List.mem_append_left _ (List.mem_of_getElem? (i := 130) rfl))) rfl
theorem im_Lv_begin : (Cond.instanceMethod y_Lv_begin) ∈ tb := tb_mem (List.mem_append_right _ (List.mem_append_left _ (List.mem_of_getElem? (i := 131) rfl))) rfl
theorem se_Lv_begin : (Cond.selects R_Lv y_Lv_begin y_Lv_begin) ∈ tb := tb_mem (List.mem_append_right _ (List.mem_append_left _ (List.mem_of_getElem? (i := 132) rfl))) rfl
theorem ml_Lv_35 : (Cond.methodLink R_Lv 35 y_Ma_max) ∈ tb := tb_mem (List.mem_append_right _ (List.mem_append_left _ (List.mem_of_getElem? (i := 134) rfl))) rfl
theorem sm_Ma_max : (Cond.static y_Ma_max) ∈ tb := tb_mem (List.mem_append_right _ (List.mem_append_left _ (List.mem_of_getElem? (i := 135) rfl))) rfl
theorem ml_Lv_44 : (Cond.methodLink R_Lv 44 y_Ma_min) ∈ tb := tb_mem (List.mem_append_right _ (List.mem_append_left _ (List.mem_of_getElem? (i := 137) rfl))) rfl
theorem sm_Ma_min : (Cond.static y_Ma_min) ∈ tb := tb_mem (List.mem_append_right _ (List.mem_append_left _ (List.mem_of_getElem? (i := 138) rfl))) rfl
theorem ml_Rn_79 : (Cond.methodLink R_Rn 79 y_Rn_readCommand) ∈ tb := tb_mem (List.mem_append_right _ (List.mem_append_left _ (List.mem_of_getElem? (i := 140) rfl))) rfl
theorem im_Rn_readCommand : (Cond.instanceMethod y_Rn_readCommand) ∈ tb := tb_mem (List.mem_append_right _ (List.mem_append_left _ (List.mem_of_getElem? (i := 142) rfl))) rfl
theorem ml_Rn_107 : (Cond.methodLink R_Rn 107 y_Lv_endsCommand) ∈ tb := tb_mem (List.mem_append_right _ (List.mem_append_left _ (List.mem_of_getElem? (i := 144) rfl))) rfl
theorem im_Lv_endsCommand : (Cond.instanceMethod y_Lv_endsCommand) ∈ tb := tb_mem (List.mem_append_right _ (List.mem_append_left _ (List.mem_of_getElem? (i := 145) rfl))) rfl
theorem se_Lv_endsCommand : (Cond.selects R_Lv y_Lv_endsCommand y_Lv_endsCommand) ∈ tb := tb_mem (List.mem_append_right _ (List.mem_append_left _ (List.mem_of_getElem? (i := 146) rfl))) rfl
theorem ml_Rn_111 : (Cond.methodLink R_Rn 111 y_Rn_readWord) ∈ tb := tb_mem (List.mem_append_right _ (List.mem_append_left _ (List.mem_of_getElem? (i := 148) rfl))) rfl
theorem im_Rn_readWord : (Cond.instanceMethod y_Rn_readWord) ∈ tb := tb_mem (List.mem_append_right _ (List.mem_append_left _ (List.mem_of_getElem? (i := 150) rfl))) rfl
theorem ml_Rn_118 : (Cond.methodLink R_Rn 118 y_Lv_beginWord) ∈ tb := tb_mem (List.mem_append_right _ (List.mem_append_left _ (List.mem_of_getElem? (i := 152) rfl))) rfl
theorem im_Lv_beginWord : (Cond.instanceMethod y_Lv_beginWord) ∈ tb := tb_mem (List.mem_append_right _ (List.mem_append_left _ (List.mem_of_getElem? (i := 153) rfl))) rfl
theorem se_Lv_beginWord : (Cond.selects R_Lv y_Lv_beginWord y_Lv_beginWord) ∈ tb := tb_mem (List.mem_append_right _ (List.mem_append_left _ (List.mem_of_getElem? (i := 154) rfl))) rfl
theorem ml_Lv_60 : (Cond.methodLink R_Lv 60 y_Vl_empty) ∈ tb := tb_mem (List.mem_append_right _ (List.mem_append_left _ (List.mem_of_getElem? (i := 156) rfl))) rfl
theorem ml_Rn_121 : (Cond.methodLink R_Rn 121 y_Rn_readBraced) ∈ tb := tb_mem (List.mem_append_right _ (List.mem_append_left _ (List.mem_of_getElem? (i := 157) rfl))) rfl
theorem im_Rn_readBraced : (Cond.instanceMethod y_Rn_readBraced) ∈ tb := tb_mem (List.mem_append_right _ (List.mem_append_left _ (List.mem_of_getElem? (i := 159) rfl))) rfl
theorem ml_Rn_131 : (Cond.methodLink R_Rn 131 y_Lv_endBraced) ∈ tb := tb_mem (List.mem_append_right _ (List.mem_append_left _ (List.mem_of_getElem? (i := 161) rfl))) rfl
theorem im_Lv_endBraced : (Cond.instanceMethod y_Lv_endBraced) ∈ tb := tb_mem (List.mem_append_right _ (List.mem_append_left _ (List.mem_of_getElem? (i := 162) rfl))) rfl
theorem se_Lv_endBraced : (Cond.selects R_Lv y_Lv_endBraced y_Lv_endBraced) ∈ tb := tb_mem (List.mem_append_right _ (List.mem_append_left _ (List.mem_of_getElem? (i := 163) rfl))) rfl
theorem ml_Lv_63 : (Cond.methodLink R_Lv 63 y_Vl_copyStretch) ∈ tb := tb_mem (List.mem_append_right _ (List.mem_append_left _ (List.mem_of_getElem? (i := 165) rfl))) rfl
theorem im_Vl_copyStretch : (Cond.instanceMethod y_Vl_copyStretch) ∈ tb := tb_mem (List.mem_append_right _ (List.mem_append_left _ (List.mem_of_getElem? (i := 166) rfl))) rfl
theorem se_Vl_copyStretch : (Cond.selects R_Vl y_Vl_copyStretch y_Vl_copyStretch) ∈ tb := tb_mem (List.mem_append_right _ (List.mem_append_left _ (List.mem_of_getElem? (i := 167) rfl))) rfl
theorem ml_Vl_37 : (Cond.methodLink R_Vl 37 y_Vl_holds) ∈ tb := tb_mem (List.mem_append_right _ (List.mem_append_left _ (List.mem_of_getElem? (i := 169) rfl))) rfl
theorem im_Vl_holds : (Cond.instanceMethod y_Vl_holds) ∈ tb := tb_mem (List.mem_append_right _ (List.mem_append_left _ (List.mem_of_getElem? (i := 171) rfl))) rfl
theorem ml_Vl_41 : (Cond.methodLink R_Vl 41 ⟨"java/lang/System", "arraycopy", "(Ljava/lang/Object;ILjava/lang/Object;II)V"⟩) ∈ tb := tb_mem (List.mem_append_right _ (List.mem_append_left _ (List.mem_of_getElem? (i := 173) rfl))) rfl
theorem tw_414 : (Cond.static ⟨"java/lang/System", "arraycopy", "(Ljava/lang/Object;ILjava/lang/Object;II)V"⟩) ∈ tb := tb_mem (List.mem_append_right _ (List.mem_append_left _ (List.mem_of_getElem? (i := 174) rfl))) rfl
theorem tw_415 : (Cond.native ⟨"java/lang/System", "arraycopy", "(Ljava/lang/Object;ILjava/lang/Object;II)V"⟩) ∈ tb := tb_mem (List.mem_append_right _ (List.mem_append_left _ (List.mem_of_getElem? (i := 175) rfl))) rfl
theorem ml_Rn_128 : (Cond.methodLink R_Rn 128 y_Rn_checkBehind) ∈ tb := tb_mem (List.mem_append_right _ (List.mem_append_left _ (List.mem_of_getElem? (i := 176) rfl))) rfl
theorem im_Rn_checkBehind : (Cond.instanceMethod y_Rn_checkBehind) ∈ tb := tb_mem (List.mem_append_right _ (List.mem_append_left _ (List.mem_of_getElem? (i := 178) rfl))) rfl
theorem ml_Rn_124 : (Cond.methodLink R_Rn 124 y_Rn_readPieces) ∈ tb := tb_mem (List.mem_append_right _ (List.mem_append_left _ (List.mem_of_getElem? (i := 180) rfl))) rfl
theorem im_Rn_readPieces : (Cond.instanceMethod y_Rn_readPieces) ∈ tb := tb_mem (List.mem_append_right _ (List.mem_append_left _ (List.mem_of_getElem? (i := 182) rfl))) rfl
theorem ml_Rn_135 : (Cond.methodLink R_Rn 135 y_Rn_readPiece) ∈ tb := tb_mem (List.mem_append_right _ (List.mem_append_left _ (List.mem_of_getElem? (i := 184) rfl))) rfl
theorem im_Rn_readPiece : (Cond.instanceMethod y_Rn_readPiece) ∈ tb := tb_mem (List.mem_append_right _ (List.mem_append_left _ (List.mem_of_getElem? (i := 186) rfl))) rfl
theorem ml_Rn_141 : (Cond.methodLink R_Rn 141 y_Rn_runScript) ∈ tb := tb_mem (List.mem_append_right _ (List.mem_append_left _ (List.mem_of_getElem? (i := 188) rfl))) rfl
theorem ml_Rn_148 : (Cond.methodLink R_Rn 148 y_Vl_appendValue) ∈ tb := tb_mem (List.mem_append_right _ (List.mem_append_left _ (List.mem_of_getElem? (i := 189) rfl))) rfl
theorem im_Vl_appendValue : (Cond.instanceMethod y_Vl_appendValue) ∈ tb := tb_mem (List.mem_append_right _ (List.mem_append_left _ (List.mem_of_getElem? (i := 190) rfl))) rfl
theorem se_Vl_appendValue : (Cond.selects R_Vl y_Vl_appendValue y_Vl_appendValue) ∈ tb := tb_mem (List.mem_append_right _ (List.mem_append_left _ (List.mem_of_getElem? (i := 191) rfl))) rfl
theorem ml_Vl_25 : (Cond.methodLink R_Vl 25 y_Vl_sizeOf) ∈ tb := tb_mem (List.mem_append_right _ (List.mem_append_left _ (List.mem_of_getElem? (i := 193) rfl))) rfl
theorem im_Vl_sizeOf : (Cond.instanceMethod y_Vl_sizeOf) ∈ tb := tb_mem (List.mem_append_right _ (List.mem_append_left _ (List.mem_of_getElem? (i := 194) rfl))) rfl
theorem se_Vl_sizeOf : (Cond.selects R_Vl y_Vl_sizeOf y_Vl_sizeOf) ∈ tb := tb_mem (List.mem_append_right _ (List.mem_append_left _ (List.mem_of_getElem? (i := 195) rfl))) rfl
theorem ml_Vl_29 : (Cond.methodLink R_Vl 29 y_Vl_letterOf) ∈ tb := tb_mem (List.mem_append_right _ (List.mem_append_left _ (List.mem_of_getElem? (i := 197) rfl))) rfl
theorem im_Vl_letterOf : (Cond.instanceMethod y_Vl_letterOf) ∈ tb := tb_mem (List.mem_append_right _ (List.mem_append_left _ (List.mem_of_getElem? (i := 198) rfl))) rfl
theorem se_Vl_letterOf : (Cond.selects R_Vl y_Vl_letterOf y_Vl_letterOf) ∈ tb := tb_mem (List.mem_append_right _ (List.mem_append_left _ (List.mem_of_getElem? (i := 199) rfl))) rfl
theorem ml_Vl_33 : (Cond.methodLink R_Vl 33 y_Vl_append) ∈ tb := tb_mem (List.mem_append_right _ (List.mem_append_left _ (List.mem_of_getElem? (i := 201) rfl))) rfl
theorem sm_PS_isVariable : (Cond.static y_PS_isVariable) ∈ tb := tb_mem (List.mem_append_right _ (List.mem_append_left _ (List.mem_of_getElem? (i := 203) rfl))) rfl
theorem ml_Rn_156 : (Cond.methodLink R_Rn 156 y_Vs_meant) ∈ tb := tb_mem (List.mem_append_right _ (List.mem_append_left _ (List.mem_of_getElem? (i := 205) rfl))) rfl
theorem im_Vs_meant : (Cond.instanceMethod y_Vs_meant) ∈ tb := tb_mem (List.mem_append_right _ (List.mem_append_left _ (List.mem_of_getElem? (i := 206) rfl))) rfl
theorem se_Vs_meant : (Cond.selects R_Vs y_Vs_meant y_Vs_meant) ∈ tb := tb_mem (List.mem_append_right _ (List.mem_append_left _ (List.mem_of_getElem? (i := 207) rfl))) rfl
theorem ml_Vs_27 : (Cond.methodLink R_Vs 27 y_Vs_isLocal) ∈ tb := tb_mem (List.mem_append_right _ (List.mem_append_left _ (List.mem_of_getElem? (i := 209) rfl))) rfl
theorem sm_Vs_isLocal : (Cond.static y_Vs_isLocal) ∈ tb := tb_mem (List.mem_append_right _ (List.mem_append_left _ (List.mem_of_getElem? (i := 210) rfl))) rfl
theorem ml_Rn_160 : (Cond.methodLink R_Rn 160 y_Vl_sizeOf) ∈ tb := tb_mem (List.mem_append_right _ (List.mem_append_left _ (List.mem_of_getElem? (i := 212) rfl))) rfl
theorem ml_Rn_87 : (Cond.methodLink R_Rn 87 y_Rn_checkCommand) ∈ tb := tb_mem (List.mem_append_right _ (List.mem_append_left _ (List.mem_of_getElem? (i := 213) rfl))) rfl
theorem im_Rn_checkCommand : (Cond.instanceMethod y_Rn_checkCommand) ∈ tb := tb_mem (List.mem_append_right _ (List.mem_append_left _ (List.mem_of_getElem? (i := 215) rfl))) rfl
theorem ml_Rn_163 : (Cond.methodLink R_Rn 163 y_Rn_takeFuel) ∈ tb := tb_mem (List.mem_append_right _ (List.mem_append_left _ (List.mem_of_getElem? (i := 217) rfl))) rfl
theorem im_Rn_takeFuel : (Cond.instanceMethod y_Rn_takeFuel) ∈ tb := tb_mem (List.mem_append_right _ (List.mem_append_left _ (List.mem_of_getElem? (i := 219) rfl))) rfl
theorem ml_Rn_167 : (Cond.methodLink R_Rn 167 y_Rn_endOut) ∈ tb := tb_mem (List.mem_append_right _ (List.mem_append_left _ (List.mem_of_getElem? (i := 221) rfl))) rfl
theorem im_Rn_endOut : (Cond.instanceMethod y_Rn_endOut) ∈ tb := tb_mem (List.mem_append_right _ (List.mem_append_left _ (List.mem_of_getElem? (i := 223) rfl))) rfl
theorem ml_Rn_171 : (Cond.methodLink R_Rn 171 y_Vl_nameOf) ∈ tb := tb_mem (List.mem_append_right _ (List.mem_append_left _ (List.mem_of_getElem? (i := 225) rfl))) rfl
theorem im_Vl_nameOf : (Cond.instanceMethod y_Vl_nameOf) ∈ tb := tb_mem (List.mem_append_right _ (List.mem_append_left _ (List.mem_of_getElem? (i := 226) rfl))) rfl
theorem se_Vl_nameOf : (Cond.selects R_Vl y_Vl_nameOf y_Vl_nameOf) ∈ tb := tb_mem (List.mem_append_right _ (List.mem_append_left _ (List.mem_of_getElem? (i := 227) rfl))) rfl
theorem ml_Rn_174 : (Cond.methodLink R_Rn 174 y_Rn_isCommand) ∈ tb := tb_mem (List.mem_append_right _ (List.mem_append_left _ (List.mem_of_getElem? (i := 229) rfl))) rfl
theorem im_Rn_isCommand : (Cond.instanceMethod y_Rn_isCommand) ∈ tb := tb_mem (List.mem_append_right _ (List.mem_append_left _ (List.mem_of_getElem? (i := 231) rfl))) rfl
theorem sm_PS_isProcedure : (Cond.static y_PS_isProcedure) ∈ tb := tb_mem (List.mem_append_right _ (List.mem_append_left _ (List.mem_of_getElem? (i := 234) rfl))) rfl
theorem ml_Rn_200 : (Cond.methodLink R_Rn 200 y_Pd_has) ∈ tb := tb_mem (List.mem_append_right _ (List.mem_append_left _ (List.mem_of_getElem? (i := 236) rfl))) rfl
theorem im_Pd_has : (Cond.instanceMethod y_Pd_has) ∈ tb := tb_mem (List.mem_append_right _ (List.mem_append_left _ (List.mem_of_getElem? (i := 237) rfl))) rfl
theorem se_Pd_has : (Cond.selects R_Pd y_Pd_has y_Pd_has) ∈ tb := tb_mem (List.mem_append_right _ (List.mem_append_left _ (List.mem_of_getElem? (i := 238) rfl))) rfl
theorem ml_Rn_205 : (Cond.methodLink R_Rn 205 y_St_indexOf_0) ∈ tb := tb_mem (List.mem_append_right _ (List.mem_append_right _ (List.mem_append_left _ (List.mem_of_getElem? (i := 1) rfl)))) rfl
theorem im_St_indexOf_0 : (Cond.instanceMethod y_St_indexOf_0) ∈ tb := tb_mem (List.mem_append_right _ (List.mem_append_right _ (List.mem_append_left _ (List.mem_of_getElem? (i := 2) rfl)))) rfl
theorem se_St_indexOf_0 : (Cond.selects R_St y_St_indexOf_0 y_St_indexOf_0) ∈ tb := tb_mem (List.mem_append_right _ (List.mem_append_right _ (List.mem_append_left _ (List.mem_of_getElem? (i := 3) rfl)))) rfl
theorem ml_St_633 : (Cond.methodLink R_St 633 y_St_indexOf_1) ∈ tb := tb_mem (List.mem_append_right _ (List.mem_append_right _ (List.mem_append_left _ (List.mem_of_getElem? (i := 5) rfl)))) rfl
theorem im_St_indexOf_1 : (Cond.instanceMethod y_St_indexOf_1) ∈ tb := tb_mem (List.mem_append_right _ (List.mem_append_right _ (List.mem_append_left _ (List.mem_of_getElem? (i := 6) rfl)))) rfl
theorem se_St_indexOf_1 : (Cond.selects R_St y_St_indexOf_1 y_St_indexOf_1) ∈ tb := tb_mem (List.mem_append_right _ (List.mem_append_right _ (List.mem_append_left _ (List.mem_of_getElem? (i := 7) rfl)))) rfl
theorem ml_St_492 : (Cond.methodLink R_St 492 y_St_isLatin1) ∈ tb := tb_mem (List.mem_append_right _ (List.mem_append_right _ (List.mem_append_left _ (List.mem_of_getElem? (i := 9) rfl)))) rfl
theorem im_St_isLatin1 : (Cond.instanceMethod y_St_isLatin1) ∈ tb := tb_mem (List.mem_append_right _ (List.mem_append_right _ (List.mem_append_left _ (List.mem_of_getElem? (i := 10) rfl)))) rfl
theorem se_St_isLatin1 : (Cond.selects R_St y_St_isLatin1 y_St_isLatin1) ∈ tb := tb_mem (List.mem_append_right _ (List.mem_append_right _ (List.mem_append_left _ (List.mem_of_getElem? (i := 11) rfl)))) rfl
theorem fl_St_38 : (Cond.fieldLink R_St 38 "java/lang/String" "COMPACT_STRINGS" "Z") ∈ tb := tb_mem (List.mem_append_right _ (List.mem_append_right _ (List.mem_append_left _ (List.mem_of_getElem? (i := 13) rfl)))) rfl
theorem ml_St_505 : (Cond.methodLink R_St 505 y_St_length) ∈ tb := tb_mem (List.mem_append_right _ (List.mem_append_right _ (List.mem_append_left _ (List.mem_of_getElem? (i := 15) rfl)))) rfl
theorem im_St_length : (Cond.instanceMethod y_St_length) ∈ tb := tb_mem (List.mem_append_right _ (List.mem_append_right _ (List.mem_append_left _ (List.mem_of_getElem? (i := 16) rfl)))) rfl
theorem se_St_length : (Cond.selects R_St y_St_length y_St_length) ∈ tb := tb_mem (List.mem_append_right _ (List.mem_append_right _ (List.mem_append_left _ (List.mem_of_getElem? (i := 17) rfl)))) rfl
theorem ml_St_335 : (Cond.methodLink R_St 335 y_St_coder) ∈ tb := tb_mem (List.mem_append_right _ (List.mem_append_right _ (List.mem_append_left _ (List.mem_of_getElem? (i := 19) rfl)))) rfl
theorem im_St_coder : (Cond.instanceMethod y_St_coder) ∈ tb := tb_mem (List.mem_append_right _ (List.mem_append_right _ (List.mem_append_left _ (List.mem_of_getElem? (i := 20) rfl)))) rfl
theorem se_St_coder : (Cond.selects R_St y_St_coder y_St_coder) ∈ tb := tb_mem (List.mem_append_right _ (List.mem_append_right _ (List.mem_append_left _ (List.mem_of_getElem? (i := 21) rfl)))) rfl
theorem ml_St_637 : (Cond.methodLink R_St 637 y_S1_indexOf) ∈ tb := tb_mem (List.mem_append_right _ (List.mem_append_right _ (List.mem_append_left _ (List.mem_of_getElem? (i := 23) rfl)))) rfl
theorem sm_S1_indexOf : (Cond.static y_S1_indexOf) ∈ tb := tb_mem (List.mem_append_right _ (List.mem_append_right _ (List.mem_append_left _ (List.mem_of_getElem? (i := 24) rfl)))) rfl
theorem ml_S1_88 : (Cond.methodLink R_S1 88 y_S1_canEncode) ∈ tb := tb_mem (List.mem_append_right _ (List.mem_append_right _ (List.mem_append_left _ (List.mem_of_getElem? (i := 26) rfl)))) rfl
theorem sm_S1_canEncode : (Cond.static y_S1_canEncode) ∈ tb := tb_mem (List.mem_append_right _ (List.mem_append_right _ (List.mem_append_left _ (List.mem_of_getElem? (i := 27) rfl)))) rfl
theorem ml_S1_92 : (Cond.methodLink R_S1 92 y_Ma_max) ∈ tb := tb_mem (List.mem_append_right _ (List.mem_append_right _ (List.mem_append_left _ (List.mem_of_getElem? (i := 29) rfl)))) rfl
theorem ml_S1_38 : (Cond.methodLink R_S1 38 y_Ma_min) ∈ tb := tb_mem (List.mem_append_right _ (List.mem_append_right _ (List.mem_append_left _ (List.mem_of_getElem? (i := 30) rfl)))) rfl
theorem ml_S1_95 : (Cond.methodLink R_S1 95 y_S1_indexOfChar) ∈ tb := tb_mem (List.mem_append_right _ (List.mem_append_right _ (List.mem_append_left _ (List.mem_of_getElem? (i := 31) rfl)))) rfl
theorem sm_S1_indexOfChar : (Cond.static y_S1_indexOfChar) ∈ tb := tb_mem (List.mem_append_right _ (List.mem_append_right _ (List.mem_append_left _ (List.mem_of_getElem? (i := 32) rfl)))) rfl
theorem ml_St_640 : (Cond.methodLink R_St 640 y_S2_indexOf) ∈ tb := tb_mem (List.mem_append_right _ (List.mem_append_right _ (List.mem_append_left _ (List.mem_of_getElem? (i := 34) rfl)))) rfl
theorem sm_S2_indexOf : (Cond.static y_S2_indexOf) ∈ tb := tb_mem (List.mem_append_right _ (List.mem_append_right _ (List.mem_append_left _ (List.mem_of_getElem? (i := 35) rfl)))) rfl
theorem ml_S2_224 : (Cond.methodLink R_S2 224 y_Ma_max) ∈ tb := tb_mem (List.mem_append_right _ (List.mem_append_right _ (List.mem_append_left _ (List.mem_of_getElem? (i := 37) rfl)))) rfl
theorem ml_S2_183 : (Cond.methodLink R_S2 183 y_Ma_min) ∈ tb := tb_mem (List.mem_append_right _ (List.mem_append_right _ (List.mem_append_left _ (List.mem_of_getElem? (i := 38) rfl)))) rfl
theorem co_S2_227 : (Cond.constant R_S2 227 (65536 : Int32)) ∈ tb := tb_mem (List.mem_append_right _ (List.mem_append_right _ (List.mem_append_left _ (List.mem_of_getElem? (i := 39) rfl)))) rfl
theorem ml_S2_228 : (Cond.methodLink R_S2 228 y_S2_indexOfChar) ∈ tb := tb_mem (List.mem_append_right _ (List.mem_append_right _ (List.mem_append_left _ (List.mem_of_getElem? (i := 40) rfl)))) rfl
theorem sm_S2_indexOfChar : (Cond.static y_S2_indexOfChar) ∈ tb := tb_mem (List.mem_append_right _ (List.mem_append_right _ (List.mem_append_left _ (List.mem_of_getElem? (i := 41) rfl)))) rfl
theorem ml_S2_96 : (Cond.methodLink R_S2 96 y_S2_checkBoundsBeginEnd) ∈ tb := tb_mem (List.mem_append_right _ (List.mem_append_right _ (List.mem_append_left _ (List.mem_of_getElem? (i := 43) rfl)))) rfl
theorem sm_S2_checkBoundsBeginEnd : (Cond.static y_S2_checkBoundsBeginEnd) ∈ tb := tb_mem (List.mem_append_right _ (List.mem_append_right _ (List.mem_append_left _ (List.mem_of_getElem? (i := 44) rfl)))) rfl
theorem ml_S2_48 : (Cond.methodLink R_S2 48 y_S2_length) ∈ tb := tb_mem (List.mem_append_right _ (List.mem_append_right _ (List.mem_append_left _ (List.mem_of_getElem? (i := 46) rfl)))) rfl
theorem sm_S2_length : (Cond.static y_S2_length) ∈ tb := tb_mem (List.mem_append_right _ (List.mem_append_right _ (List.mem_append_left _ (List.mem_of_getElem? (i := 47) rfl)))) rfl
theorem ml_S2_241 : (Cond.methodLink R_S2 241 y_St_checkBoundsBeginEnd) ∈ tb := tb_mem (List.mem_append_right _ (List.mem_append_right _ (List.mem_append_left _ (List.mem_of_getElem? (i := 49) rfl)))) rfl
theorem sm_St_checkBoundsBeginEnd : (Cond.static y_St_checkBoundsBeginEnd) ∈ tb := tb_mem (List.mem_append_right _ (List.mem_append_right _ (List.mem_append_left _ (List.mem_of_getElem? (i := 50) rfl)))) rfl
theorem fl_St_1053 : (Cond.fieldLink R_St 1053 "jdk/internal/util/Preconditions" "SIOOBE_FORMATTER" "Ljava/util/function/BiFunction;") ∈ tb := tb_mem (List.mem_append_right _ (List.mem_append_right _ (List.mem_append_left _ (List.mem_of_getElem? (i := 52) rfl)))) rfl
theorem ml_St_1062 : (Cond.methodLink R_St 1062 y_Pp_checkFromToIndex) ∈ tb := tb_mem (List.mem_append_right _ (List.mem_append_right _ (List.mem_append_left _ (List.mem_of_getElem? (i := 54) rfl)))) rfl
theorem sm_Pp_checkFromToIndex : (Cond.static y_Pp_checkFromToIndex) ∈ tb := tb_mem (List.mem_append_right _ (List.mem_append_right _ (List.mem_append_left _ (List.mem_of_getElem? (i := 55) rfl)))) rfl
theorem ml_S2_244 : (Cond.methodLink R_S2 244 y_S2_indexOfCharUnsafe) ∈ tb := tb_mem (List.mem_append_right _ (List.mem_append_right _ (List.mem_append_left _ (List.mem_of_getElem? (i := 57) rfl)))) rfl
theorem sm_S2_indexOfCharUnsafe : (Cond.static y_S2_indexOfCharUnsafe) ∈ tb := tb_mem (List.mem_append_right _ (List.mem_append_right _ (List.mem_append_left _ (List.mem_of_getElem? (i := 58) rfl)))) rfl
theorem ml_S2_71 : (Cond.methodLink R_S2 71 y_S2_getChar) ∈ tb := tb_mem (List.mem_append_right _ (List.mem_append_right _ (List.mem_append_left _ (List.mem_of_getElem? (i := 60) rfl)))) rfl
theorem sm_S2_getChar : (Cond.static y_S2_getChar) ∈ tb := tb_mem (List.mem_append_right _ (List.mem_append_right _ (List.mem_append_left _ (List.mem_of_getElem? (i := 61) rfl)))) rfl
theorem fl_S2_44 : (Cond.fieldLink R_S2 44 "java/lang/StringUTF16" "$assertionsDisabled" "Z") ∈ tb := tb_mem (List.mem_append_right _ (List.mem_append_right _ (List.mem_append_left _ (List.mem_of_getElem? (i := 63) rfl)))) rfl
theorem fl_S2_59 : (Cond.fieldLink R_S2 59 "java/lang/StringUTF16" "HI_BYTE_SHIFT" "I") ∈ tb := tb_mem (List.mem_append_right _ (List.mem_append_right _ (List.mem_append_left _ (List.mem_of_getElem? (i := 65) rfl)))) rfl
theorem fl_S2_63 : (Cond.fieldLink R_S2 63 "java/lang/StringUTF16" "LO_BYTE_SHIFT" "I") ∈ tb := tb_mem (List.mem_append_right _ (List.mem_append_right _ (List.mem_append_left _ (List.mem_of_getElem? (i := 67) rfl)))) rfl
theorem ml_S2_232 : (Cond.methodLink R_S2 232 y_S2_indexOfSupplementary) ∈ tb := tb_mem (List.mem_append_right _ (List.mem_append_right _ (List.mem_append_left _ (List.mem_of_getElem? (i := 69) rfl)))) rfl
theorem sm_S2_indexOfSupplementary : (Cond.static y_S2_indexOfSupplementary) ∈ tb := tb_mem (List.mem_append_right _ (List.mem_append_right _ (List.mem_append_left _ (List.mem_of_getElem? (i := 70) rfl)))) rfl
theorem ml_S2_164 : (Cond.methodLink R_S2 164 y_Ch_isValidCodePoint) ∈ tb := tb_mem (List.mem_append_right _ (List.mem_append_right _ (List.mem_append_left _ (List.mem_of_getElem? (i := 72) rfl)))) rfl
theorem sm_Ch_isValidCodePoint : (Cond.static y_Ch_isValidCodePoint) ∈ tb := tb_mem (List.mem_append_right _ (List.mem_append_right _ (List.mem_append_left _ (List.mem_of_getElem? (i := 73) rfl)))) rfl
theorem ml_S2_157 : (Cond.methodLink R_S2 157 y_Ch_highSurrogate) ∈ tb := tb_mem (List.mem_append_right _ (List.mem_append_right _ (List.mem_append_left _ (List.mem_of_getElem? (i := 75) rfl)))) rfl
theorem sm_Ch_highSurrogate : (Cond.static y_Ch_highSurrogate) ∈ tb := tb_mem (List.mem_append_right _ (List.mem_append_right _ (List.mem_append_left _ (List.mem_of_getElem? (i := 76) rfl)))) rfl
theorem co_Ch_110 : (Cond.constant R_Ch 110 (55232 : Int32)) ∈ tb := tb_mem (List.mem_append_right _ (List.mem_append_right _ (List.mem_append_left _ (List.mem_of_getElem? (i := 78) rfl)))) rfl
theorem ml_S2_161 : (Cond.methodLink R_S2 161 y_Ch_lowSurrogate) ∈ tb := tb_mem (List.mem_append_right _ (List.mem_append_right _ (List.mem_append_left _ (List.mem_of_getElem? (i := 79) rfl)))) rfl
theorem sm_Ch_lowSurrogate : (Cond.static y_Ch_lowSurrogate) ∈ tb := tb_mem (List.mem_append_right _ (List.mem_append_right _ (List.mem_append_left _ (List.mem_of_getElem? (i := 80) rfl)))) rfl
theorem co_Ch_76 : (Cond.constant R_Ch 76 (56320 : Int32)) ∈ tb := tb_mem (List.mem_append_right _ (List.mem_append_right _ (List.mem_append_left _ (List.mem_of_getElem? (i := 82) rfl)))) rfl
theorem ml_Rn_177 : (Cond.methodLink R_Rn 177 y_Rn_formOf) ∈ tb := tb_mem (List.mem_append_right _ (List.mem_append_right _ (List.mem_append_left _ (List.mem_of_getElem? (i := 83) rfl)))) rfl
theorem sm_Rn_formOf : (Cond.static y_Rn_formOf) ∈ tb := tb_mem (List.mem_append_right _ (List.mem_append_right _ (List.mem_append_left _ (List.mem_of_getElem? (i := 84) rfl)))) rfl
theorem ml_Rn_181 : (Cond.methodLink R_Rn 181 y_St_length) ∈ tb := tb_mem (List.mem_append_right _ (List.mem_append_right _ (List.mem_append_left _ (List.mem_of_getElem? (i := 101) rfl)))) rfl
theorem ml_Rn_186 : (Cond.methodLink R_Rn 186 y_St_charAt) ∈ tb := tb_mem (List.mem_append_right _ (List.mem_append_right _ (List.mem_append_left _ (List.mem_of_getElem? (i := 102) rfl)))) rfl
theorem im_St_charAt : (Cond.instanceMethod y_St_charAt) ∈ tb := tb_mem (List.mem_append_right _ (List.mem_append_right _ (List.mem_append_left _ (List.mem_of_getElem? (i := 103) rfl)))) rfl
theorem se_St_charAt : (Cond.selects R_St y_St_charAt y_St_charAt) ∈ tb := tb_mem (List.mem_append_right _ (List.mem_append_right _ (List.mem_append_left _ (List.mem_of_getElem? (i := 104) rfl)))) rfl
theorem ml_St_495 : (Cond.methodLink R_St 495 y_S1_charAt) ∈ tb := tb_mem (List.mem_append_right _ (List.mem_append_right _ (List.mem_append_left _ (List.mem_of_getElem? (i := 106) rfl)))) rfl
theorem sm_S1_charAt : (Cond.static y_S1_charAt) ∈ tb := tb_mem (List.mem_append_right _ (List.mem_append_right _ (List.mem_append_left _ (List.mem_of_getElem? (i := 107) rfl)))) rfl
theorem ml_S1_9 : (Cond.methodLink R_S1 9 y_St_checkIndex) ∈ tb := tb_mem (List.mem_append_right _ (List.mem_append_right _ (List.mem_append_left _ (List.mem_of_getElem? (i := 109) rfl)))) rfl
theorem sm_St_checkIndex : (Cond.static y_St_checkIndex) ∈ tb := tb_mem (List.mem_append_right _ (List.mem_append_right _ (List.mem_append_left _ (List.mem_of_getElem? (i := 110) rfl)))) rfl
theorem ml_St_1059 : (Cond.methodLink R_St 1059 y_Pp_checkIndex) ∈ tb := tb_mem (List.mem_append_right _ (List.mem_append_right _ (List.mem_append_left _ (List.mem_of_getElem? (i := 112) rfl)))) rfl
theorem sm_Pp_checkIndex : (Cond.static y_Pp_checkIndex) ∈ tb := tb_mem (List.mem_append_right _ (List.mem_append_right _ (List.mem_append_left _ (List.mem_of_getElem? (i := 113) rfl)))) rfl
theorem ml_St_498 : (Cond.methodLink R_St 498 y_S2_charAt) ∈ tb := tb_mem (List.mem_append_right _ (List.mem_append_right _ (List.mem_append_left _ (List.mem_of_getElem? (i := 115) rfl)))) rfl
theorem sm_S2_charAt : (Cond.static y_S2_charAt) ∈ tb := tb_mem (List.mem_append_right _ (List.mem_append_right _ (List.mem_append_left _ (List.mem_of_getElem? (i := 116) rfl)))) rfl
theorem ml_S2_67 : (Cond.methodLink R_S2 67 y_S2_checkIndex) ∈ tb := tb_mem (List.mem_append_right _ (List.mem_append_right _ (List.mem_append_left _ (List.mem_of_getElem? (i := 118) rfl)))) rfl
theorem sm_S2_checkIndex : (Cond.static y_S2_checkIndex) ∈ tb := tb_mem (List.mem_append_right _ (List.mem_append_right _ (List.mem_append_left _ (List.mem_of_getElem? (i := 119) rfl)))) rfl
theorem ml_S2_414 : (Cond.methodLink R_S2 414 y_St_checkIndex) ∈ tb := tb_mem (List.mem_append_right _ (List.mem_append_right _ (List.mem_append_left _ (List.mem_of_getElem? (i := 121) rfl)))) rfl
theorem ml_Rn_190 : (Cond.methodLink R_Rn 190 y_Lv_isBraced) ∈ tb := tb_mem (List.mem_append_right _ (List.mem_append_right _ (List.mem_append_left _ (List.mem_of_getElem? (i := 122) rfl)))) rfl
theorem im_Lv_isBraced : (Cond.instanceMethod y_Lv_isBraced) ∈ tb := tb_mem (List.mem_append_right _ (List.mem_append_right _ (List.mem_append_left _ (List.mem_of_getElem? (i := 123) rfl)))) rfl
theorem se_Lv_isBraced : (Cond.selects R_Lv y_Lv_isBraced y_Lv_isBraced) ∈ tb := tb_mem (List.mem_append_right _ (List.mem_append_right _ (List.mem_append_left _ (List.mem_of_getElem? (i := 124) rfl)))) rfl
theorem ml_Rn_193 : (Cond.methodLink R_Rn 193 y_Rn_errorOf) ∈ tb := tb_mem (List.mem_append_right _ (List.mem_append_right _ (List.mem_append_left _ (List.mem_of_getElem? (i := 126) rfl)))) rfl
theorem sm_Rn_errorOf : (Cond.static y_Rn_errorOf) ∈ tb := tb_mem (List.mem_append_right _ (List.mem_append_right _ (List.mem_append_left _ (List.mem_of_getElem? (i := 127) rfl)))) rfl
theorem ml_Rn_238 : (Cond.methodLink R_Rn 238 y_Vl_isNumber) ∈ tb := tb_mem (List.mem_append_right _ (List.mem_append_right _ (List.mem_append_left _ (List.mem_of_getElem? (i := 129) rfl)))) rfl
theorem im_Vl_isNumber : (Cond.instanceMethod y_Vl_isNumber) ∈ tb := tb_mem (List.mem_append_right _ (List.mem_append_right _ (List.mem_append_left _ (List.mem_of_getElem? (i := 130) rfl)))) rfl
theorem se_Vl_isNumber : (Cond.selects R_Vl y_Vl_isNumber y_Vl_isNumber) ∈ tb := tb_mem (List.mem_append_right _ (List.mem_append_right _ (List.mem_append_left _ (List.mem_of_getElem? (i := 131) rfl)))) rfl
theorem sm_PS_isDigit : (Cond.static y_PS_isDigit) ∈ tb := tb_mem (List.mem_append_right _ (List.mem_append_right _ (List.mem_append_left _ (List.mem_of_getElem? (i := 134) rfl)))) rfl
theorem ml_Rn_91 : (Cond.methodLink R_Rn 91 y_Rn_doCommand) ∈ tb := tb_mem (List.mem_append_right _ (List.mem_append_right _ (List.mem_append_left _ (List.mem_of_getElem? (i := 136) rfl)))) rfl
theorem im_Rn_doCommand : (Cond.instanceMethod y_Rn_doCommand) ∈ tb := tb_mem (List.mem_append_right _ (List.mem_append_right _ (List.mem_append_left _ (List.mem_of_getElem? (i := 138) rfl)))) rfl
theorem ml_Rn_241 : (Cond.methodLink R_Rn 241 y_Rn_setOrShow) ∈ tb := tb_mem (List.mem_append_right _ (List.mem_append_right _ (List.mem_append_left _ (List.mem_of_getElem? (i := 140) rfl)))) rfl
theorem im_Rn_setOrShow : (Cond.instanceMethod y_Rn_setOrShow) ∈ tb := tb_mem (List.mem_append_right _ (List.mem_append_right _ (List.mem_append_left _ (List.mem_of_getElem? (i := 142) rfl)))) rfl
theorem ml_Rn_277 : (Cond.methodLink R_Rn 277 y_Vl_copy) ∈ tb := tb_mem (List.mem_append_right _ (List.mem_append_right _ (List.mem_append_left _ (List.mem_of_getElem? (i := 144) rfl)))) rfl
theorem im_Vl_copy : (Cond.instanceMethod y_Vl_copy) ∈ tb := tb_mem (List.mem_append_right _ (List.mem_append_right _ (List.mem_append_left _ (List.mem_of_getElem? (i := 145) rfl)))) rfl
theorem se_Vl_copy : (Cond.selects R_Vl y_Vl_copy y_Vl_copy) ∈ tb := tb_mem (List.mem_append_right _ (List.mem_append_right _ (List.mem_append_left _ (List.mem_of_getElem? (i := 146) rfl)))) rfl
theorem ml_Rn_244 : (Cond.methodLink R_Rn 244 y_Rn_grow) ∈ tb := tb_mem (List.mem_append_right _ (List.mem_append_right _ (List.mem_append_left _ (List.mem_of_getElem? (i := 148) rfl)))) rfl
theorem im_Rn_grow : (Cond.instanceMethod y_Rn_grow) ∈ tb := tb_mem (List.mem_append_right _ (List.mem_append_right _ (List.mem_append_left _ (List.mem_of_getElem? (i := 150) rfl)))) rfl
theorem ml_Rn_297 : (Cond.methodLink R_Rn 297 y_Vl_numberOf) ∈ tb := tb_mem (List.mem_append_right _ (List.mem_append_right _ (List.mem_append_left _ (List.mem_of_getElem? (i := 152) rfl)))) rfl
theorem im_Vl_numberOf : (Cond.instanceMethod y_Vl_numberOf) ∈ tb := tb_mem (List.mem_append_right _ (List.mem_append_right _ (List.mem_append_left _ (List.mem_of_getElem? (i := 153) rfl)))) rfl
theorem se_Vl_numberOf : (Cond.selects R_Vl y_Vl_numberOf y_Vl_numberOf) ∈ tb := tb_mem (List.mem_append_right _ (List.mem_append_right _ (List.mem_append_left _ (List.mem_of_getElem? (i := 154) rfl)))) rfl
theorem ml_Vl_58 : (Cond.methodLink R_Vl 58 y_Ma_min) ∈ tb := tb_mem (List.mem_append_right _ (List.mem_append_right _ (List.mem_append_left _ (List.mem_of_getElem? (i := 156) rfl)))) rfl
theorem ml_Rn_250 : (Cond.methodLink R_Rn 250 y_Vl_writeNumber) ∈ tb := tb_mem (List.mem_append_right _ (List.mem_append_right _ (List.mem_append_left _ (List.mem_of_getElem? (i := 157) rfl)))) rfl
theorem im_Vl_writeNumber : (Cond.instanceMethod y_Vl_writeNumber) ∈ tb := tb_mem (List.mem_append_right _ (List.mem_append_right _ (List.mem_append_left _ (List.mem_of_getElem? (i := 158) rfl)))) rfl
theorem se_Vl_writeNumber : (Cond.selects R_Vl y_Vl_writeNumber y_Vl_writeNumber) ∈ tb := tb_mem (List.mem_append_right _ (List.mem_append_right _ (List.mem_append_left _ (List.mem_of_getElem? (i := 159) rfl)))) rfl
theorem ml_Vl_47 : (Cond.methodLink R_Vl 47 y_Vl_empty) ∈ tb := tb_mem (List.mem_append_right _ (List.mem_append_right _ (List.mem_append_left _ (List.mem_of_getElem? (i := 161) rfl)))) rfl
theorem co_Vl_51 : (Cond.constantLong R_Vl 51 (10 : Int64)) ∈ tb := tb_mem (List.mem_append_right _ (List.mem_append_right _ (List.mem_append_left _ (List.mem_of_getElem? (i := 162) rfl)))) rfl
theorem co_Vl_53 : (Cond.constantLong R_Vl 53 (48 : Int64)) ∈ tb := tb_mem (List.mem_append_right _ (List.mem_append_right _ (List.mem_append_left _ (List.mem_of_getElem? (i := 163) rfl)))) rfl
theorem ml_Rn_247 : (Cond.methodLink R_Rn 247 y_Rn_showSum) ∈ tb := tb_mem (List.mem_append_right _ (List.mem_append_right _ (List.mem_append_left _ (List.mem_of_getElem? (i := 164) rfl)))) rfl
theorem im_Rn_showSum : (Cond.instanceMethod y_Rn_showSum) ∈ tb := tb_mem (List.mem_append_right _ (List.mem_append_right _ (List.mem_append_left _ (List.mem_of_getElem? (i := 166) rfl)))) rfl
theorem ml_Rn_264 : (Cond.methodLink R_Rn 264 y_Lv_startOf) ∈ tb := tb_mem (List.mem_append_right _ (List.mem_append_right _ (List.mem_append_left _ (List.mem_of_getElem? (i := 168) rfl)))) rfl
theorem im_Lv_startOf : (Cond.instanceMethod y_Lv_startOf) ∈ tb := tb_mem (List.mem_append_right _ (List.mem_append_right _ (List.mem_append_left _ (List.mem_of_getElem? (i := 169) rfl)))) rfl
theorem se_Lv_startOf : (Cond.selects R_Lv y_Lv_startOf y_Lv_startOf) ∈ tb := tb_mem (List.mem_append_right _ (List.mem_append_right _ (List.mem_append_left _ (List.mem_of_getElem? (i := 170) rfl)))) rfl
theorem ml_Lv_67 : (Cond.methodLink R_Lv 67 y_Lv_isBraced) ∈ tb := tb_mem (List.mem_append_right _ (List.mem_append_right _ (List.mem_append_left _ (List.mem_of_getElem? (i := 172) rfl)))) rfl
theorem ml_Rn_267 : (Cond.methodLink R_Rn 267 y_Lv_endOf) ∈ tb := tb_mem (List.mem_append_right _ (List.mem_append_right _ (List.mem_append_left _ (List.mem_of_getElem? (i := 173) rfl)))) rfl
theorem im_Lv_endOf : (Cond.instanceMethod y_Lv_endOf) ∈ tb := tb_mem (List.mem_append_right _ (List.mem_append_right _ (List.mem_append_left _ (List.mem_of_getElem? (i := 174) rfl)))) rfl
theorem se_Lv_endOf : (Cond.selects R_Lv y_Lv_endOf y_Lv_endOf) ∈ tb := tb_mem (List.mem_append_right _ (List.mem_append_right _ (List.mem_append_left _ (List.mem_of_getElem? (i := 175) rfl)))) rfl
theorem ml_Rn_300 : (Cond.methodLink R_Rn 300 y_Sm_workOut) ∈ tb := tb_mem (List.mem_append_right _ (List.mem_append_right _ (List.mem_append_left _ (List.mem_of_getElem? (i := 177) rfl)))) rfl
theorem im_Sm_workOut : (Cond.instanceMethod y_Sm_workOut) ∈ tb := tb_mem (List.mem_append_right _ (List.mem_append_right _ (List.mem_append_left _ (List.mem_of_getElem? (i := 178) rfl)))) rfl
theorem se_Sm_workOut : (Cond.selects R_Sm y_Sm_workOut y_Sm_workOut) ∈ tb := tb_mem (List.mem_append_right _ (List.mem_append_right _ (List.mem_append_left _ (List.mem_of_getElem? (i := 179) rfl)))) rfl
theorem ml_Sm_26 : (Cond.methodLink R_Sm 26 y_Sm_begin) ∈ tb := tb_mem (List.mem_append_right _ (List.mem_append_right _ (List.mem_append_left _ (List.mem_of_getElem? (i := 181) rfl)))) rfl
theorem im_Sm_begin : (Cond.instanceMethod y_Sm_begin) ∈ tb := tb_mem (List.mem_append_right _ (List.mem_append_right _ (List.mem_append_left _ (List.mem_of_getElem? (i := 183) rfl)))) rfl
theorem ml_Sm_75 : (Cond.methodLink R_Sm 75 y_Ma_max) ∈ tb := tb_mem (List.mem_append_right _ (List.mem_append_right _ (List.mem_append_left _ (List.mem_of_getElem? (i := 185) rfl)))) rfl
theorem ml_Sm_81 : (Cond.methodLink R_Sm 81 y_Ma_min) ∈ tb := tb_mem (List.mem_append_right _ (List.mem_append_right _ (List.mem_append_left _ (List.mem_of_getElem? (i := 186) rfl)))) rfl
theorem ml_Sm_41 : (Cond.methodLink R_Sm 41 y_Sm_takeSign) ∈ tb := tb_mem (List.mem_append_right _ (List.mem_append_right _ (List.mem_append_left _ (List.mem_of_getElem? (i := 187) rfl)))) rfl
theorem im_Sm_takeSign : (Cond.instanceMethod y_Sm_takeSign) ∈ tb := tb_mem (List.mem_append_right _ (List.mem_append_right _ (List.mem_append_left _ (List.mem_of_getElem? (i := 189) rfl)))) rfl
theorem ml_Sm_62 : (Cond.methodLink R_Sm 62 y_Sm_applyDownTo) ∈ tb := tb_mem (List.mem_append_right _ (List.mem_append_right _ (List.mem_append_left _ (List.mem_of_getElem? (i := 191) rfl)))) rfl
theorem im_Sm_applyDownTo : (Cond.instanceMethod y_Sm_applyDownTo) ∈ tb := tb_mem (List.mem_append_right _ (List.mem_append_right _ (List.mem_append_left _ (List.mem_of_getElem? (i := 193) rfl)))) rfl
theorem ml_Sm_121 : (Cond.methodLink R_Sm 121 y_Sm_rankOf) ∈ tb := tb_mem (List.mem_append_right _ (List.mem_append_right _ (List.mem_append_left _ (List.mem_of_getElem? (i := 195) rfl)))) rfl
theorem sm_Sm_rankOf : (Cond.static y_Sm_rankOf) ∈ tb := tb_mem (List.mem_append_right _ (List.mem_append_right _ (List.mem_append_left _ (List.mem_of_getElem? (i := 196) rfl)))) rfl
theorem ml_Sm_125 : (Cond.methodLink R_Sm 125 y_Sm_changed) ∈ tb := tb_mem (List.mem_append_right _ (List.mem_append_right _ (List.mem_append_left _ (List.mem_of_getElem? (i := 198) rfl)))) rfl
theorem sm_Sm_changed : (Cond.static y_Sm_changed) ∈ tb := tb_mem (List.mem_append_right _ (List.mem_append_right _ (List.mem_append_left _ (List.mem_of_getElem? (i := 199) rfl)))) rfl
theorem ml_Sm_129 : (Cond.methodLink R_Sm 129 y_Sm_joined) ∈ tb := tb_mem (List.mem_append_right _ (List.mem_append_right _ (List.mem_append_left _ (List.mem_of_getElem? (i := 201) rfl)))) rfl
theorem im_Sm_joined : (Cond.instanceMethod y_Sm_joined) ∈ tb := tb_mem (List.mem_append_right _ (List.mem_append_right _ (List.mem_append_left _ (List.mem_of_getElem? (i := 203) rfl)))) rfl
theorem ml_Sm_93 : (Cond.methodLink R_Sm 93 y_Sm_pushSign) ∈ tb := tb_mem (List.mem_append_right _ (List.mem_append_right _ (List.mem_append_left _ (List.mem_of_getElem? (i := 205) rfl)))) rfl
theorem im_Sm_pushSign : (Cond.instanceMethod y_Sm_pushSign) ∈ tb := tb_mem (List.mem_append_right _ (List.mem_append_right _ (List.mem_append_left _ (List.mem_of_getElem? (i := 207) rfl)))) rfl
theorem ml_Sm_45 : (Cond.methodLink R_Sm 45 y_Sm_takeVariable) ∈ tb := tb_mem (List.mem_append_right _ (List.mem_append_right _ (List.mem_append_left _ (List.mem_of_getElem? (i := 209) rfl)))) rfl
theorem im_Sm_takeVariable : (Cond.instanceMethod y_Sm_takeVariable) ∈ tb := tb_mem (List.mem_append_right _ (List.mem_append_right _ (List.mem_append_left _ (List.mem_of_getElem? (i := 211) rfl)))) rfl
theorem ml_Sm_103 : (Cond.methodLink R_Sm 103 y_Vs_meant) ∈ tb := tb_mem (List.mem_append_right _ (List.mem_append_right _ (List.mem_append_left _ (List.mem_of_getElem? (i := 214) rfl)))) rfl
theorem ml_Sm_109 : (Cond.methodLink R_Sm 109 y_Vl_isNumber) ∈ tb := tb_mem (List.mem_append_right _ (List.mem_append_right _ (List.mem_append_left _ (List.mem_of_getElem? (i := 215) rfl)))) rfl
theorem ml_Sm_114 : (Cond.methodLink R_Sm 114 y_Vl_sizeOf) ∈ tb := tb_mem (List.mem_append_right _ (List.mem_append_right _ (List.mem_append_left _ (List.mem_of_getElem? (i := 216) rfl)))) rfl
theorem ml_Sm_118 : (Cond.methodLink R_Sm 118 y_Vl_numberOf) ∈ tb := tb_mem (List.mem_append_right _ (List.mem_append_right _ (List.mem_append_left _ (List.mem_of_getElem? (i := 217) rfl)))) rfl
theorem ml_Sm_97 : (Cond.methodLink R_Sm 97 y_Sm_pushOperand) ∈ tb := tb_mem (List.mem_append_right _ (List.mem_append_right _ (List.mem_append_left _ (List.mem_of_getElem? (i := 218) rfl)))) rfl
theorem im_Sm_pushOperand : (Cond.instanceMethod y_Sm_pushOperand) ∈ tb := tb_mem (List.mem_append_right _ (List.mem_append_right _ (List.mem_append_left _ (List.mem_of_getElem? (i := 220) rfl)))) rfl
theorem ml_Sm_53 : (Cond.methodLink R_Sm 53 y_Sm_takeNumber) ∈ tb := tb_mem (List.mem_append_right _ (List.mem_append_right _ (List.mem_append_left _ (List.mem_of_getElem? (i := 223) rfl)))) rfl
theorem im_Sm_takeNumber : (Cond.instanceMethod y_Sm_takeNumber) ∈ tb := tb_mem (List.mem_append_right _ (List.mem_append_right _ (List.mem_append_left _ (List.mem_of_getElem? (i := 225) rfl)))) rfl
theorem ml_Sm_56 : (Cond.methodLink R_Sm 56 y_Sm_takeSignBefore) ∈ tb := tb_mem (List.mem_append_right _ (List.mem_append_right _ (List.mem_append_left _ (List.mem_of_getElem? (i := 227) rfl)))) rfl
theorem im_Sm_takeSignBefore : (Cond.instanceMethod y_Sm_takeSignBefore) ∈ tb := tb_mem (List.mem_append_right _ (List.mem_append_right _ (List.mem_append_left _ (List.mem_of_getElem? (i := 229) rfl)))) rfl
theorem ml_Rn_254 : (Cond.methodLink R_Rn 254 y_Vl_fittingBeginnings) ∈ tb := tb_mem (List.mem_append_right _ (List.mem_append_right _ (List.mem_append_left _ (List.mem_of_getElem? (i := 231) rfl)))) rfl
theorem im_Vl_fittingBeginnings : (Cond.instanceMethod y_Vl_fittingBeginnings) ∈ tb := tb_mem (List.mem_append_right _ (List.mem_append_right _ (List.mem_append_left _ (List.mem_of_getElem? (i := 232) rfl)))) rfl
theorem se_Vl_fittingBeginnings : (Cond.selects R_Vl y_Vl_fittingBeginnings y_Vl_fittingBeginnings) ∈ tb := tb_mem (List.mem_append_right _ (List.mem_append_right _ (List.mem_append_left _ (List.mem_of_getElem? (i := 233) rfl)))) rfl
theorem ml_Vl_63 : (Cond.methodLink R_Vl 63 y_Ma_max) ∈ tb := tb_mem (List.mem_append_right _ (List.mem_append_right _ (List.mem_append_left _ (List.mem_of_getElem? (i := 235) rfl)))) rfl
theorem ml_Vl_66 : (Cond.methodLink R_Vl 66 y_Vl_placesOf) ∈ tb := tb_mem (List.mem_append_right _ (List.mem_append_right _ (List.mem_append_left _ (List.mem_of_getElem? (i := 236) rfl)))) rfl
theorem im_Vl_placesOf : (Cond.instanceMethod y_Vl_placesOf) ∈ tb := tb_mem (List.mem_append_right _ (List.mem_append_right _ (List.mem_append_left _ (List.mem_of_getElem? (i := 238) rfl)))) rfl
theorem ml_Rn_258 : (Cond.methodLink R_Rn 258 y_Rn_choose) ∈ tb := tb_mem (List.mem_append_right _ (List.mem_append_right _ (List.mem_append_right _ (List.mem_append_left _ (List.mem_of_getElem? (i := 0) rfl))))) rfl
theorem im_Rn_choose : (Cond.instanceMethod y_Rn_choose) ∈ tb := tb_mem (List.mem_append_right _ (List.mem_append_right _ (List.mem_append_right _ (List.mem_append_left _ (List.mem_of_getElem? (i := 2) rfl))))) rfl
theorem ml_Rn_307 : (Cond.methodLink R_Rn 307 y_Rn_runWord) ∈ tb := tb_mem (List.mem_append_right _ (List.mem_append_right _ (List.mem_append_right _ (List.mem_append_left _ (List.mem_of_getElem? (i := 4) rfl))))) rfl
theorem im_Rn_runWord : (Cond.instanceMethod y_Rn_runWord) ∈ tb := tb_mem (List.mem_append_right _ (List.mem_append_right _ (List.mem_append_right _ (List.mem_append_left _ (List.mem_of_getElem? (i := 6) rfl))))) rfl
theorem ml_Rn_261 : (Cond.methodLink R_Rn 261 y_Rn_repeat) ∈ tb := tb_mem (List.mem_append_right _ (List.mem_append_right _ (List.mem_append_right _ (List.mem_append_left _ (List.mem_of_getElem? (i := 8) rfl))))) rfl
theorem im_Rn_repeat : (Cond.instanceMethod y_Rn_repeat) ∈ tb := tb_mem (List.mem_append_right _ (List.mem_append_right _ (List.mem_append_right _ (List.mem_append_left _ (List.mem_of_getElem? (i := 10) rfl))))) rfl
theorem ml_Rn_270 : (Cond.methodLink R_Rn 270 y_Pd_define) ∈ tb := tb_mem (List.mem_append_right _ (List.mem_append_right _ (List.mem_append_right _ (List.mem_append_left _ (List.mem_of_getElem? (i := 12) rfl))))) rfl
theorem im_Pd_define : (Cond.instanceMethod y_Pd_define) ∈ tb := tb_mem (List.mem_append_right _ (List.mem_append_right _ (List.mem_append_right _ (List.mem_append_left _ (List.mem_of_getElem? (i := 13) rfl))))) rfl
theorem se_Pd_define : (Cond.selects R_Pd y_Pd_define y_Pd_define) ∈ tb := tb_mem (List.mem_append_right _ (List.mem_append_right _ (List.mem_append_right _ (List.mem_append_left _ (List.mem_of_getElem? (i := 14) rfl))))) rfl
theorem ml_Rn_274 : (Cond.methodLink R_Rn 274 y_Vs_link) ∈ tb := tb_mem (List.mem_append_right _ (List.mem_append_right _ (List.mem_append_right _ (List.mem_append_left _ (List.mem_of_getElem? (i := 16) rfl))))) rfl
theorem im_Vs_link : (Cond.instanceMethod y_Vs_link) ∈ tb := tb_mem (List.mem_append_right _ (List.mem_append_right _ (List.mem_append_right _ (List.mem_append_left _ (List.mem_of_getElem? (i := 17) rfl))))) rfl
theorem se_Vs_link : (Cond.selects R_Vs y_Vs_link y_Vs_link) ∈ tb := tb_mem (List.mem_append_right _ (List.mem_append_right _ (List.mem_append_right _ (List.mem_append_left _ (List.mem_of_getElem? (i := 18) rfl))))) rfl
theorem ml_Rn_281 : (Cond.methodLink R_Rn 281 y_Rn_catchCode) ∈ tb := tb_mem (List.mem_append_right _ (List.mem_append_right _ (List.mem_append_right _ (List.mem_append_left _ (List.mem_of_getElem? (i := 20) rfl))))) rfl
theorem im_Rn_catchCode : (Cond.instanceMethod y_Rn_catchCode) ∈ tb := tb_mem (List.mem_append_right _ (List.mem_append_right _ (List.mem_append_right _ (List.mem_append_left _ (List.mem_of_getElem? (i := 22) rfl))))) rfl
theorem ml_Rn_284 : (Cond.methodLink R_Rn 284 y_Pe_send) ∈ tb := tb_mem (List.mem_append_right _ (List.mem_append_right _ (List.mem_append_right _ (List.mem_append_left _ (List.mem_of_getElem? (i := 24) rfl))))) rfl
theorem im_Pe_send : (Cond.instanceMethod y_Pe_send) ∈ tb := tb_mem (List.mem_append_right _ (List.mem_append_right _ (List.mem_append_right _ (List.mem_append_left _ (List.mem_of_getElem? (i := 25) rfl))))) rfl
theorem se_Pe_send : (Cond.selects R_Pe y_Pe_send y_Pe_send) ∈ tb := tb_mem (List.mem_append_right _ (List.mem_append_right _ (List.mem_append_right _ (List.mem_append_left _ (List.mem_of_getElem? (i := 26) rfl))))) rfl
theorem ml_Pe_56 : (Cond.methodLink R_Pe 56 y_Vl_sizeOf) ∈ tb := tb_mem (List.mem_append_right _ (List.mem_append_right _ (List.mem_append_right _ (List.mem_append_left _ (List.mem_of_getElem? (i := 28) rfl))))) rfl
theorem ml_Pe_60 : (Cond.methodLink R_Pe 60 y_Vl_letterOf) ∈ tb := tb_mem (List.mem_append_right _ (List.mem_append_right _ (List.mem_append_right _ (List.mem_append_left _ (List.mem_of_getElem? (i := 29) rfl))))) rfl
theorem ml_Pe_64 : (Cond.methodLink R_Pe 64 y_Lg_note) ∈ tb := tb_mem (List.mem_append_right _ (List.mem_append_right _ (List.mem_append_right _ (List.mem_append_left _ (List.mem_of_getElem? (i := 30) rfl))))) rfl
theorem im_Lg_note : (Cond.instanceMethod y_Lg_note) ∈ tb := tb_mem (List.mem_append_right _ (List.mem_append_right _ (List.mem_append_right _ (List.mem_append_left _ (List.mem_of_getElem? (i := 31) rfl))))) rfl
theorem se_Lg_note : (Cond.selects R_Lg y_Lg_note y_Lg_note) ∈ tb := tb_mem (List.mem_append_right _ (List.mem_append_right _ (List.mem_append_right _ (List.mem_append_left _ (List.mem_of_getElem? (i := 32) rfl))))) rfl
theorem ml_Lg_19 : (Cond.methodLink R_Lg 19 y_Lg_placeOf) ∈ tb := tb_mem (List.mem_append_right _ (List.mem_append_right _ (List.mem_append_right _ (List.mem_append_left _ (List.mem_of_getElem? (i := 34) rfl))))) rfl
theorem sm_Lg_placeOf : (Cond.static y_Lg_placeOf) ∈ tb := tb_mem (List.mem_append_right _ (List.mem_append_right _ (List.mem_append_right _ (List.mem_append_left _ (List.mem_of_getElem? (i := 35) rfl))))) rfl
theorem ml_Lg_23 : (Cond.methodLink R_Lg 23 y_Ma_floorMod) ∈ tb := tb_mem (List.mem_append_right _ (List.mem_append_right _ (List.mem_append_right _ (List.mem_append_left _ (List.mem_of_getElem? (i := 37) rfl))))) rfl
theorem sm_Ma_floorMod : (Cond.static y_Ma_floorMod) ∈ tb := tb_mem (List.mem_append_right _ (List.mem_append_right _ (List.mem_append_right _ (List.mem_append_left _ (List.mem_of_getElem? (i := 38) rfl))))) rfl
theorem ml_Rn_290 : (Cond.methodLink R_Rn 290 y_Rn_waitForPeer) ∈ tb := tb_mem (List.mem_append_right _ (List.mem_append_right _ (List.mem_append_right _ (List.mem_append_left _ (List.mem_of_getElem? (i := 40) rfl))))) rfl
theorem im_Rn_waitForPeer : (Cond.instanceMethod y_Rn_waitForPeer) ∈ tb := tb_mem (List.mem_append_right _ (List.mem_append_right _ (List.mem_append_right _ (List.mem_append_left _ (List.mem_of_getElem? (i := 42) rfl))))) rfl
theorem ml_Rn_326 : (Cond.methodLink R_Rn 326 y_Rn_takeFitting) ∈ tb := tb_mem (List.mem_append_right _ (List.mem_append_right _ (List.mem_append_right _ (List.mem_append_left _ (List.mem_of_getElem? (i := 44) rfl))))) rfl
theorem im_Rn_takeFitting : (Cond.instanceMethod y_Rn_takeFitting) ∈ tb := tb_mem (List.mem_append_right _ (List.mem_append_right _ (List.mem_append_right _ (List.mem_append_left _ (List.mem_of_getElem? (i := 46) rfl))))) rfl
theorem ml_Rn_335 : (Cond.methodLink R_Rn 335 y_Vl_dropFirst) ∈ tb := tb_mem (List.mem_append_right _ (List.mem_append_right _ (List.mem_append_right _ (List.mem_append_left _ (List.mem_of_getElem? (i := 48) rfl))))) rfl
theorem im_Vl_dropFirst : (Cond.instanceMethod y_Vl_dropFirst) ∈ tb := tb_mem (List.mem_append_right _ (List.mem_append_right _ (List.mem_append_right _ (List.mem_append_left _ (List.mem_of_getElem? (i := 49) rfl))))) rfl
theorem se_Vl_dropFirst : (Cond.selects R_Vl y_Vl_dropFirst y_Vl_dropFirst) ∈ tb := tb_mem (List.mem_append_right _ (List.mem_append_right _ (List.mem_append_right _ (List.mem_append_left _ (List.mem_of_getElem? (i := 50) rfl))))) rfl
theorem ml_Rn_329 : (Cond.methodLink R_Rn 329 y_Pe_tick) ∈ tb := tb_mem (List.mem_append_right _ (List.mem_append_right _ (List.mem_append_right _ (List.mem_append_left _ (List.mem_of_getElem? (i := 52) rfl))))) rfl
theorem im_Pe_tick : (Cond.instanceMethod y_Pe_tick) ∈ tb := tb_mem (List.mem_append_right _ (List.mem_append_right _ (List.mem_append_right _ (List.mem_append_left _ (List.mem_of_getElem? (i := 53) rfl))))) rfl
theorem se_Pe_tick : (Cond.selects R_Pe y_Pe_tick y_Pe_tick) ∈ tb := tb_mem (List.mem_append_right _ (List.mem_append_right _ (List.mem_append_right _ (List.mem_append_left _ (List.mem_of_getElem? (i := 54) rfl))))) rfl
theorem ml_Pe_67 : (Cond.methodLink R_Pe 67 y_Pe_takeInput) ∈ tb := tb_mem (List.mem_append_right _ (List.mem_append_right _ (List.mem_append_right _ (List.mem_append_left _ (List.mem_of_getElem? (i := 56) rfl))))) rfl
theorem im_Pe_takeInput : (Cond.instanceMethod y_Pe_takeInput) ∈ tb := tb_mem (List.mem_append_right _ (List.mem_append_right _ (List.mem_append_right _ (List.mem_append_left _ (List.mem_of_getElem? (i := 58) rfl))))) rfl
theorem ml_Pe_78 : (Cond.methodLink R_Pe 78 ⟨"java/lang/System", "arraycopy", "(Ljava/lang/Object;ILjava/lang/Object;II)V"⟩) ∈ tb := tb_mem (List.mem_append_right _ (List.mem_append_right _ (List.mem_append_right _ (List.mem_append_left _ (List.mem_of_getElem? (i := 60) rfl))))) rfl
theorem ml_Pe_71 : (Cond.methodLink R_Pe 71 y_Pe_ruleFor) ∈ tb := tb_mem (List.mem_append_right _ (List.mem_append_right _ (List.mem_append_right _ (List.mem_append_left _ (List.mem_of_getElem? (i := 61) rfl))))) rfl
theorem im_Pe_ruleFor : (Cond.instanceMethod y_Pe_ruleFor) ∈ tb := tb_mem (List.mem_append_right _ (List.mem_append_right _ (List.mem_append_right _ (List.mem_append_left _ (List.mem_of_getElem? (i := 63) rfl))))) rfl
theorem ml_Pe_74 : (Cond.methodLink R_Pe 74 y_Vl_append) ∈ tb := tb_mem (List.mem_append_right _ (List.mem_append_right _ (List.mem_append_right _ (List.mem_append_left _ (List.mem_of_getElem? (i := 65) rfl))))) rfl
theorem ml_Rn_293 : (Cond.methodLink R_Rn 293 y_Rn_callProcedure) ∈ tb := tb_mem (List.mem_append_right _ (List.mem_append_right _ (List.mem_append_right _ (List.mem_append_left _ (List.mem_of_getElem? (i := 66) rfl))))) rfl
theorem im_Rn_callProcedure : (Cond.instanceMethod y_Rn_callProcedure) ∈ tb := tb_mem (List.mem_append_right _ (List.mem_append_right _ (List.mem_append_right _ (List.mem_append_left _ (List.mem_of_getElem? (i := 68) rfl))))) rfl
theorem ml_Rn_314 : (Cond.methodLink R_Rn 314 y_Vs_open) ∈ tb := tb_mem (List.mem_append_right _ (List.mem_append_right _ (List.mem_append_right _ (List.mem_append_left _ (List.mem_of_getElem? (i := 70) rfl))))) rfl
theorem ml_Rn_323 : (Cond.methodLink R_Rn 323 y_Rn_leave) ∈ tb := tb_mem (List.mem_append_right _ (List.mem_append_right _ (List.mem_append_right _ (List.mem_append_left _ (List.mem_of_getElem? (i := 71) rfl))))) rfl
theorem im_Rn_leave : (Cond.instanceMethod y_Rn_leave) ∈ tb := tb_mem (List.mem_append_right _ (List.mem_append_right _ (List.mem_append_right _ (List.mem_append_left _ (List.mem_of_getElem? (i := 73) rfl))))) rfl
theorem ac_byte : (Cond.arrayClass ClassFile.FieldType.byte) ∈ tb := tb_mem (List.mem_append_right _ (List.mem_append_right _ (List.mem_append_right _ (List.mem_append_left _ (List.mem_of_getElem? (i := 76) rfl))))) rfl
theorem ml_Lw_36 : (Cond.methodLink R_Lw 36 y_PS_length) ∈ tb := tb_mem (List.mem_append_right _ (List.mem_append_right _ (List.mem_append_right _ (List.mem_append_left _ (List.mem_of_getElem? (i := 77) rfl))))) rfl
theorem im_PS_length : (Cond.instanceMethod y_PS_length) ∈ tb := tb_mem (List.mem_append_right _ (List.mem_append_right _ (List.mem_append_right _ (List.mem_append_left _ (List.mem_of_getElem? (i := 78) rfl))))) rfl
theorem se_PS_length : (Cond.selects R_PS y_PS_length y_PS_length) ∈ tb := tb_mem (List.mem_append_right _ (List.mem_append_right _ (List.mem_append_right _ (List.mem_append_left _ (List.mem_of_getElem? (i := 79) rfl))))) rfl
theorem ml_PS_98 : (Cond.methodLink R_PS 98 y_Vl_sizeOf) ∈ tb := tb_mem (List.mem_append_right _ (List.mem_append_right _ (List.mem_append_right _ (List.mem_append_left _ (List.mem_of_getElem? (i := 81) rfl))))) rfl
theorem ml_Lw_41 : (Cond.methodLink R_Lw 41 y_PS_at) ∈ tb := tb_mem (List.mem_append_right _ (List.mem_append_right _ (List.mem_append_right _ (List.mem_append_left _ (List.mem_of_getElem? (i := 82) rfl))))) rfl
theorem im_PS_at : (Cond.instanceMethod y_PS_at) ∈ tb := tb_mem (List.mem_append_right _ (List.mem_append_right _ (List.mem_append_right _ (List.mem_append_left _ (List.mem_of_getElem? (i := 83) rfl))))) rfl
theorem se_PS_at : (Cond.selects R_PS y_PS_at y_PS_at) ∈ tb := tb_mem (List.mem_append_right _ (List.mem_append_right _ (List.mem_append_right _ (List.mem_append_left _ (List.mem_of_getElem? (i := 84) rfl))))) rfl
theorem ml_PS_103 : (Cond.methodLink R_PS 103 y_Vl_letterOf) ∈ tb := tb_mem (List.mem_append_right _ (List.mem_append_right _ (List.mem_append_right _ (List.mem_append_left _ (List.mem_of_getElem? (i := 86) rfl))))) rfl
theorem ml_Lw_45 : (Cond.methodLink R_Lw 45 y_PS_used) ∈ tb := tb_mem (List.mem_append_right _ (List.mem_append_right _ (List.mem_append_right _ (List.mem_append_left _ (List.mem_of_getElem? (i := 87) rfl))))) rfl
theorem im_PS_used : (Cond.instanceMethod y_PS_used) ∈ tb := tb_mem (List.mem_append_right _ (List.mem_append_right _ (List.mem_append_right _ (List.mem_append_left _ (List.mem_of_getElem? (i := 88) rfl))))) rfl
theorem se_PS_used : (Cond.selects R_PS y_PS_used y_PS_used) ∈ tb := tb_mem (List.mem_append_right _ (List.mem_append_right _ (List.mem_append_right _ (List.mem_append_left _ (List.mem_of_getElem? (i := 89) rfl))))) rfl
theorem ml_Lw_49 : (Cond.methodLink R_Lw 49 y_PS_size) ∈ tb := tb_mem (List.mem_append_right _ (List.mem_append_right _ (List.mem_append_right _ (List.mem_append_left _ (List.mem_of_getElem? (i := 91) rfl))))) rfl
theorem im_PS_size : (Cond.instanceMethod y_PS_size) ∈ tb := tb_mem (List.mem_append_right _ (List.mem_append_right _ (List.mem_append_right _ (List.mem_append_left _ (List.mem_of_getElem? (i := 92) rfl))))) rfl
theorem se_PS_size : (Cond.selects R_PS y_PS_size y_PS_size) ∈ tb := tb_mem (List.mem_append_right _ (List.mem_append_right _ (List.mem_append_right _ (List.mem_append_left _ (List.mem_of_getElem? (i := 93) rfl))))) rfl
theorem ml_PS_107 : (Cond.methodLink R_PS 107 y_Vs_meant) ∈ tb := tb_mem (List.mem_append_right _ (List.mem_append_right _ (List.mem_append_right _ (List.mem_append_left _ (List.mem_of_getElem? (i := 95) rfl))))) rfl
theorem ml_Lw_53 : (Cond.methodLink R_Lw 53 y_PS_letter) ∈ tb := tb_mem (List.mem_append_right _ (List.mem_append_right _ (List.mem_append_right _ (List.mem_append_left _ (List.mem_of_getElem? (i := 96) rfl))))) rfl
theorem im_PS_letter : (Cond.instanceMethod y_PS_letter) ∈ tb := tb_mem (List.mem_append_right _ (List.mem_append_right _ (List.mem_append_right _ (List.mem_append_left _ (List.mem_of_getElem? (i := 97) rfl))))) rfl
theorem se_PS_letter : (Cond.selects R_PS y_PS_letter y_PS_letter) ∈ tb := tb_mem (List.mem_append_right _ (List.mem_append_right _ (List.mem_append_right _ (List.mem_append_left _ (List.mem_of_getElem? (i := 98) rfl))))) rfl
theorem ml_Lw_58 : (Cond.methodLink R_Lw 58 y_PS_defined) ∈ tb := tb_mem (List.mem_append_right _ (List.mem_append_right _ (List.mem_append_right _ (List.mem_append_left _ (List.mem_of_getElem? (i := 100) rfl))))) rfl
theorem im_PS_defined : (Cond.instanceMethod y_PS_defined) ∈ tb := tb_mem (List.mem_append_right _ (List.mem_append_right _ (List.mem_append_right _ (List.mem_append_left _ (List.mem_of_getElem? (i := 101) rfl))))) rfl
theorem se_PS_defined : (Cond.selects R_PS y_PS_defined y_PS_defined) ∈ tb := tb_mem (List.mem_append_right _ (List.mem_append_right _ (List.mem_append_right _ (List.mem_append_left _ (List.mem_of_getElem? (i := 102) rfl))))) rfl
theorem ml_PS_111 : (Cond.methodLink R_PS 111 y_Pd_has) ∈ tb := tb_mem (List.mem_append_right _ (List.mem_append_right _ (List.mem_append_right _ (List.mem_append_left _ (List.mem_of_getElem? (i := 104) rfl))))) rfl
theorem ml_Lw_63 : (Cond.methodLink R_Lw 63 y_PS_peer) ∈ tb := tb_mem (List.mem_append_right _ (List.mem_append_right _ (List.mem_append_right _ (List.mem_append_left _ (List.mem_of_getElem? (i := 105) rfl))))) rfl
theorem im_PS_peer : (Cond.instanceMethod y_PS_peer) ∈ tb := tb_mem (List.mem_append_right _ (List.mem_append_right _ (List.mem_append_right _ (List.mem_append_left _ (List.mem_of_getElem? (i := 106) rfl))))) rfl
theorem se_PS_peer : (Cond.selects R_PS y_PS_peer y_PS_peer) ∈ tb := tb_mem (List.mem_append_right _ (List.mem_append_right _ (List.mem_append_right _ (List.mem_append_left _ (List.mem_of_getElem? (i := 107) rfl))))) rfl
theorem ml_Lw_67 : (Cond.methodLink R_Lw 67 y_PS_pending) ∈ tb := tb_mem (List.mem_append_right _ (List.mem_append_right _ (List.mem_append_right _ (List.mem_append_left _ (List.mem_of_getElem? (i := 109) rfl))))) rfl
theorem im_PS_pending : (Cond.instanceMethod y_PS_pending) ∈ tb := tb_mem (List.mem_append_right _ (List.mem_append_right _ (List.mem_append_right _ (List.mem_append_left _ (List.mem_of_getElem? (i := 110) rfl))))) rfl
theorem se_PS_pending : (Cond.selects R_PS y_PS_pending y_PS_pending) ∈ tb := tb_mem (List.mem_append_right _ (List.mem_append_right _ (List.mem_append_right _ (List.mem_append_left _ (List.mem_of_getElem? (i := 111) rfl))))) rfl
theorem ml_Lw_71 : (Cond.methodLink R_Lw 71 y_PS_buffered) ∈ tb := tb_mem (List.mem_append_right _ (List.mem_append_right _ (List.mem_append_right _ (List.mem_append_left _ (List.mem_of_getElem? (i := 113) rfl))))) rfl
theorem im_PS_buffered : (Cond.instanceMethod y_PS_buffered) ∈ tb := tb_mem (List.mem_append_right _ (List.mem_append_right _ (List.mem_append_right _ (List.mem_append_left _ (List.mem_of_getElem? (i := 114) rfl))))) rfl
theorem se_PS_buffered : (Cond.selects R_PS y_PS_buffered y_PS_buffered) ∈ tb := tb_mem (List.mem_append_right _ (List.mem_append_right _ (List.mem_append_right _ (List.mem_append_left _ (List.mem_of_getElem? (i := 115) rfl))))) rfl
theorem ml_Lw_75 : (Cond.methodLink R_Lw 75 y_PS_talk) ∈ tb := tb_mem (List.mem_append_right _ (List.mem_append_right _ (List.mem_append_right _ (List.mem_append_left _ (List.mem_of_getElem? (i := 117) rfl))))) rfl
theorem im_PS_talk : (Cond.instanceMethod y_PS_talk) ∈ tb := tb_mem (List.mem_append_right _ (List.mem_append_right _ (List.mem_append_right _ (List.mem_append_left _ (List.mem_of_getElem? (i := 118) rfl))))) rfl
theorem se_PS_talk : (Cond.selects R_PS y_PS_talk y_PS_talk) ∈ tb := tb_mem (List.mem_append_right _ (List.mem_append_right _ (List.mem_append_right _ (List.mem_append_left _ (List.mem_of_getElem? (i := 119) rfl))))) rfl
theorem ml_Lw_79 : (Cond.methodLink R_Lw 79 y_PS_talked) ∈ tb := tb_mem (List.mem_append_right _ (List.mem_append_right _ (List.mem_append_right _ (List.mem_append_left _ (List.mem_of_getElem? (i := 121) rfl))))) rfl
theorem im_PS_talked : (Cond.instanceMethod y_PS_talked) ∈ tb := tb_mem (List.mem_append_right _ (List.mem_append_right _ (List.mem_append_right _ (List.mem_append_left _ (List.mem_of_getElem? (i := 122) rfl))))) rfl
theorem se_PS_talked : (Cond.selects R_PS y_PS_talked y_PS_talked) ∈ tb := tb_mem (List.mem_append_right _ (List.mem_append_right _ (List.mem_append_right _ (List.mem_append_left _ (List.mem_of_getElem? (i := 123) rfl))))) rfl
theorem ml_PS_130 : (Cond.methodLink R_PS 130 y_Lg_beforeLatest) ∈ tb := tb_mem (List.mem_append_right _ (List.mem_append_right _ (List.mem_append_right _ (List.mem_append_left _ (List.mem_of_getElem? (i := 125) rfl))))) rfl
theorem im_Lg_beforeLatest : (Cond.instanceMethod y_Lg_beforeLatest) ∈ tb := tb_mem (List.mem_append_right _ (List.mem_append_right _ (List.mem_append_right _ (List.mem_append_left _ (List.mem_of_getElem? (i := 126) rfl))))) rfl
theorem se_Lg_beforeLatest : (Cond.selects R_Lg y_Lg_beforeLatest y_Lg_beforeLatest) ∈ tb := tb_mem (List.mem_append_right _ (List.mem_append_right _ (List.mem_append_right _ (List.mem_append_left _ (List.mem_of_getElem? (i := 127) rfl))))) rfl
theorem cl_Lw_10 : (Cond.classLink R_Lw 10 "PeerScriptsModel") ∈ tb := tb_mem (List.mem_append_right _ (List.mem_append_right _ (List.mem_append_right _ (List.mem_append_left _ (List.mem_of_getElem? (i := 129) rfl))))) rfl
theorem it_Md : (Cond.instantiable R_Md 50) ∈ tb := tb_mem (List.mem_append_right _ (List.mem_append_right _ (List.mem_append_right _ (List.mem_append_left _ (List.mem_of_getElem? (i := 130) rfl))))) rfl
theorem ml_Lw_12 : (Cond.methodLink R_Lw 12 y_Md_init) ∈ tb := tb_mem (List.mem_append_right _ (List.mem_append_right _ (List.mem_append_right _ (List.mem_append_left _ (List.mem_of_getElem? (i := 131) rfl))))) rfl
theorem im_Md_init : (Cond.instanceMethod y_Md_init) ∈ tb := tb_mem (List.mem_append_right _ (List.mem_append_right _ (List.mem_append_right _ (List.mem_append_left _ (List.mem_of_getElem? (i := 132) rfl))))) rfl
theorem ml_Md_1 : (Cond.methodLink R_Md 1 y_Ob_init) ∈ tb := tb_mem (List.mem_append_right _ (List.mem_append_right _ (List.mem_append_right _ (List.mem_append_left _ (List.mem_of_getElem? (i := 134) rfl))))) rfl
theorem fl_Md_7 : (Cond.fieldLink R_Md 7 "PeerScriptsModel" "text" "[C") ∈ tb := tb_mem (List.mem_append_right _ (List.mem_append_right _ (List.mem_append_right _ (List.mem_append_left _ (List.mem_of_getElem? (i := 135) rfl))))) rfl
theorem fl_Md_112 : (Cond.fieldLink R_Md 112 "PeerScriptsModel" "size" "I") ∈ tb := tb_mem (List.mem_append_right _ (List.mem_append_right _ (List.mem_append_right _ (List.mem_append_left _ (List.mem_of_getElem? (i := 136) rfl))))) rfl
theorem fl_Md_115 : (Cond.fieldLink R_Md 115 "PeerScriptsModel" "ran" "Z") ∈ tb := tb_mem (List.mem_append_right _ (List.mem_append_right _ (List.mem_append_right _ (List.mem_append_left _ (List.mem_of_getElem? (i := 137) rfl))))) rfl
theorem fl_Md_13 : (Cond.fieldLink R_Md 13 "PeerScriptsModel" "has" "[I") ∈ tb := tb_mem (List.mem_append_right _ (List.mem_append_right _ (List.mem_append_right _ (List.mem_append_left _ (List.mem_of_getElem? (i := 138) rfl))))) rfl
theorem fl_Md_17 : (Cond.fieldLink R_Md 17 "PeerScriptsModel" "held" "[C") ∈ tb := tb_mem (List.mem_append_right _ (List.mem_append_right _ (List.mem_append_right _ (List.mem_append_left _ (List.mem_of_getElem? (i := 139) rfl))))) rfl
theorem fl_Md_20 : (Cond.fieldLink R_Md 20 "PeerScriptsModel" "linked" "[Z") ∈ tb := tb_mem (List.mem_append_right _ (List.mem_append_right _ (List.mem_append_right _ (List.mem_append_left _ (List.mem_of_getElem? (i := 140) rfl))))) rfl
theorem fl_Md_24 : (Cond.fieldLink R_Md 24 "PeerScriptsModel" "defined" "[Z") ∈ tb := tb_mem (List.mem_append_right _ (List.mem_append_right _ (List.mem_append_right _ (List.mem_append_left _ (List.mem_of_getElem? (i := 141) rfl))))) rfl
theorem fl_Md_27 : (Cond.fieldLink R_Md 27 "PeerScriptsModel" "from" "[I") ∈ tb := tb_mem (List.mem_append_right _ (List.mem_append_right _ (List.mem_append_right _ (List.mem_append_left _ (List.mem_of_getElem? (i := 142) rfl))))) rfl
theorem fl_Md_30 : (Cond.fieldLink R_Md 30 "PeerScriptsModel" "to" "[I") ∈ tb := tb_mem (List.mem_append_right _ (List.mem_append_right _ (List.mem_append_right _ (List.mem_append_left _ (List.mem_of_getElem? (i := 143) rfl))))) rfl
theorem fl_Md_33 : (Cond.fieldLink R_Md 33 "PeerScriptsModel" "parameter" "[I") ∈ tb := tb_mem (List.mem_append_right _ (List.mem_append_right _ (List.mem_append_right _ (List.mem_append_left _ (List.mem_of_getElem? (i := 144) rfl))))) rfl
theorem fl_Md_36 : (Cond.fieldLink R_Md 36 "PeerScriptsModel" "level" "I") ∈ tb := tb_mem (List.mem_append_right _ (List.mem_append_right _ (List.mem_append_right _ (List.mem_append_left _ (List.mem_of_getElem? (i := 145) rfl))))) rfl
theorem fl_Md_40 : (Cond.fieldLink R_Md 40 "PeerScriptsModel" "at" "[I") ∈ tb := tb_mem (List.mem_append_right _ (List.mem_append_right _ (List.mem_append_right _ (List.mem_append_left _ (List.mem_of_getElem? (i := 146) rfl))))) rfl
theorem fl_Md_43 : (Cond.fieldLink R_Md 43 "PeerScriptsModel" "end" "[I") ∈ tb := tb_mem (List.mem_append_right _ (List.mem_append_right _ (List.mem_append_right _ (List.mem_append_left _ (List.mem_of_getElem? (i := 147) rfl))))) rfl
theorem fl_Md_46 : (Cond.fieldLink R_Md 46 "PeerScriptsModel" "why" "[I") ∈ tb := tb_mem (List.mem_append_right _ (List.mem_append_right _ (List.mem_append_right _ (List.mem_append_left _ (List.mem_of_getElem? (i := 148) rfl))))) rfl
theorem fl_Md_49 : (Cond.fieldLink R_Md 49 "PeerScriptsModel" "frame" "[I") ∈ tb := tb_mem (List.mem_append_right _ (List.mem_append_right _ (List.mem_append_right _ (List.mem_append_left _ (List.mem_of_getElem? (i := 149) rfl))))) rfl
theorem fl_Md_52 : (Cond.fieldLink R_Md 52 "PeerScriptsModel" "mode" "[I") ∈ tb := tb_mem (List.mem_append_right _ (List.mem_append_right _ (List.mem_append_right _ (List.mem_append_left _ (List.mem_of_getElem? (i := 150) rfl))))) rfl
theorem fl_Md_55 : (Cond.fieldLink R_Md 55 "PeerScriptsModel" "count" "[I") ∈ tb := tb_mem (List.mem_append_right _ (List.mem_append_right _ (List.mem_append_right _ (List.mem_append_left _ (List.mem_of_getElem? (i := 151) rfl))))) rfl
theorem fl_Md_58 : (Cond.fieldLink R_Md 58 "PeerScriptsModel" "lastSize" "[I") ∈ tb := tb_mem (List.mem_append_right _ (List.mem_append_right _ (List.mem_append_right _ (List.mem_append_left _ (List.mem_of_getElem? (i := 152) rfl))))) rfl
theorem fl_Md_61 : (Cond.fieldLink R_Md 61 "PeerScriptsModel" "last" "[C") ∈ tb := tb_mem (List.mem_append_right _ (List.mem_append_right _ (List.mem_append_right _ (List.mem_append_left _ (List.mem_of_getElem? (i := 153) rfl))))) rfl
theorem fl_Md_64 : (Cond.fieldLink R_Md 64 "PeerScriptsModel" "braced" "[Z") ∈ tb := tb_mem (List.mem_append_right _ (List.mem_append_right _ (List.mem_append_right _ (List.mem_append_left _ (List.mem_of_getElem? (i := 154) rfl))))) rfl
theorem fl_Md_67 : (Cond.fieldLink R_Md 67 "PeerScriptsModel" "start" "[I") ∈ tb := tb_mem (List.mem_append_right _ (List.mem_append_right _ (List.mem_append_right _ (List.mem_append_left _ (List.mem_of_getElem? (i := 155) rfl))))) rfl
theorem fl_Md_70 : (Cond.fieldLink R_Md 70 "PeerScriptsModel" "length" "[I") ∈ tb := tb_mem (List.mem_append_right _ (List.mem_append_right _ (List.mem_append_right _ (List.mem_append_left _ (List.mem_of_getElem? (i := 156) rfl))))) rfl
theorem fl_Md_73 : (Cond.fieldLink R_Md 73 "PeerScriptsModel" "chars" "[C") ∈ tb := tb_mem (List.mem_append_right _ (List.mem_append_right _ (List.mem_append_right _ (List.mem_append_left _ (List.mem_of_getElem? (i := 157) rfl))))) rfl
theorem fl_Md_152 : (Cond.fieldLink R_Md 152 "PeerScriptsModel" "signal" "I") ∈ tb := tb_mem (List.mem_append_right _ (List.mem_append_right _ (List.mem_append_right _ (List.mem_append_left _ (List.mem_of_getElem? (i := 158) rfl))))) rfl
theorem fl_Md_149 : (Cond.fieldLink R_Md 149 "PeerScriptsModel" "code" "I") ∈ tb := tb_mem (List.mem_append_right _ (List.mem_append_right _ (List.mem_append_right _ (List.mem_append_left _ (List.mem_of_getElem? (i := 159) rfl))))) rfl
theorem fl_Md_135 : (Cond.fieldLink R_Md 135 "PeerScriptsModel" "resultSize" "I") ∈ tb := tb_mem (List.mem_append_right _ (List.mem_append_right _ (List.mem_append_right _ (List.mem_append_left _ (List.mem_of_getElem? (i := 160) rfl))))) rfl
theorem fl_Md_76 : (Cond.fieldLink R_Md 76 "PeerScriptsModel" "result" "[C") ∈ tb := tb_mem (List.mem_append_right _ (List.mem_append_right _ (List.mem_append_right _ (List.mem_append_left _ (List.mem_of_getElem? (i := 161) rfl))))) rfl
theorem fl_Md_229 : (Cond.fieldLink R_Md 229 "PeerScriptsModel" "fuel" "I") ∈ tb := tb_mem (List.mem_append_right _ (List.mem_append_right _ (List.mem_append_right _ (List.mem_append_left _ (List.mem_of_getElem? (i := 162) rfl))))) rfl
theorem fl_Md_232 : (Cond.fieldLink R_Md 232 "PeerScriptsModel" "used" "I") ∈ tb := tb_mem (List.mem_append_right _ (List.mem_append_right _ (List.mem_append_right _ (List.mem_append_left _ (List.mem_of_getElem? (i := 163) rfl))))) rfl
theorem fl_Md_79 : (Cond.fieldLink R_Md 79 "PeerScriptsModel" "signs" "[I") ∈ tb := tb_mem (List.mem_append_right _ (List.mem_append_right _ (List.mem_append_right _ (List.mem_append_left _ (List.mem_of_getElem? (i := 164) rfl))))) rfl
theorem fl_Md_82 : (Cond.fieldLink R_Md 82 "PeerScriptsModel" "values" "[I") ∈ tb := tb_mem (List.mem_append_right _ (List.mem_append_right _ (List.mem_append_right _ (List.mem_append_left _ (List.mem_of_getElem? (i := 165) rfl))))) rfl
theorem fl_Md_338 : (Cond.fieldLink R_Md 338 "PeerScriptsModel" "signCount" "I") ∈ tb := tb_mem (List.mem_append_right _ (List.mem_append_right _ (List.mem_append_right _ (List.mem_append_left _ (List.mem_of_getElem? (i := 166) rfl))))) rfl
theorem fl_Md_341 : (Cond.fieldLink R_Md 341 "PeerScriptsModel" "valueCount" "I") ∈ tb := tb_mem (List.mem_append_right _ (List.mem_append_right _ (List.mem_append_right _ (List.mem_append_left _ (List.mem_of_getElem? (i := 167) rfl))))) rfl
theorem fl_Md_331 : (Cond.fieldLink R_Md 331 "PeerScriptsModel" "zero" "Z") ∈ tb := tb_mem (List.mem_append_right _ (List.mem_append_right _ (List.mem_append_right _ (List.mem_append_left _ (List.mem_of_getElem? (i := 168) rfl))))) rfl
theorem fl_Md_328 : (Cond.fieldLink R_Md 328 "PeerScriptsModel" "trouble" "I") ∈ tb := tb_mem (List.mem_append_right _ (List.mem_append_right _ (List.mem_append_right _ (List.mem_append_left _ (List.mem_of_getElem? (i := 169) rfl))))) rfl
theorem fl_Md_316 : (Cond.fieldLink R_Md 316 "PeerScriptsModel" "spot" "I") ∈ tb := tb_mem (List.mem_append_right _ (List.mem_append_right _ (List.mem_append_right _ (List.mem_append_left _ (List.mem_of_getElem? (i := 170) rfl))))) rfl
theorem fl_Md_85 : (Cond.fieldLink R_Md 85 "PeerScriptsModel" "subject" "[C") ∈ tb := tb_mem (List.mem_append_right _ (List.mem_append_right _ (List.mem_append_right _ (List.mem_append_left _ (List.mem_of_getElem? (i := 171) rfl))))) rfl
theorem fl_Md_88 : (Cond.fieldLink R_Md 88 "PeerScriptsModel" "fit" "[Z") ∈ tb := tb_mem (List.mem_append_right _ (List.mem_append_right _ (List.mem_append_right _ (List.mem_append_left _ (List.mem_of_getElem? (i := 172) rfl))))) rfl
theorem fl_Md_126 : (Cond.fieldLink R_Md 126 "PeerScriptsModel" "state" "I") ∈ tb := tb_mem (List.mem_append_right _ (List.mem_append_right _ (List.mem_append_right _ (List.mem_append_left _ (List.mem_of_getElem? (i := 173) rfl))))) rfl
theorem fl_Md_123 : (Cond.fieldLink R_Md 123 "PeerScriptsModel" "rules" "I") ∈ tb := tb_mem (List.mem_append_right _ (List.mem_append_right _ (List.mem_append_right _ (List.mem_append_left _ (List.mem_of_getElem? (i := 174) rfl))))) rfl
theorem fl_Md_91 : (Cond.fieldLink R_Md 91 "PeerScriptsModel" "rState" "[I") ∈ tb := tb_mem (List.mem_append_right _ (List.mem_append_right _ (List.mem_append_right _ (List.mem_append_left _ (List.mem_of_getElem? (i := 175) rfl))))) rfl
theorem fl_Md_94 : (Cond.fieldLink R_Md 94 "PeerScriptsModel" "rOn" "[I") ∈ tb := tb_mem (List.mem_append_right _ (List.mem_append_right _ (List.mem_append_right _ (List.mem_append_left _ (List.mem_of_getElem? (i := 176) rfl))))) rfl
theorem fl_Md_97 : (Cond.fieldLink R_Md 97 "PeerScriptsModel" "rSays" "[I") ∈ tb := tb_mem (List.mem_append_right _ (List.mem_append_right _ (List.mem_append_right _ (List.mem_append_left _ (List.mem_of_getElem? (i := 177) rfl))))) rfl
theorem fl_Md_100 : (Cond.fieldLink R_Md 100 "PeerScriptsModel" "rNext" "[I") ∈ tb := tb_mem (List.mem_append_right _ (List.mem_append_right _ (List.mem_append_right _ (List.mem_append_left _ (List.mem_of_getElem? (i := 178) rfl))))) rfl
theorem fl_Md_129 : (Cond.fieldLink R_Md 129 "PeerScriptsModel" "inputSize" "I") ∈ tb := tb_mem (List.mem_append_right _ (List.mem_append_right _ (List.mem_append_right _ (List.mem_append_left _ (List.mem_of_getElem? (i := 179) rfl))))) rfl
theorem fl_Md_103 : (Cond.fieldLink R_Md 103 "PeerScriptsModel" "input" "[C") ∈ tb := tb_mem (List.mem_append_right _ (List.mem_append_right _ (List.mem_append_right _ (List.mem_append_left _ (List.mem_of_getElem? (i := 180) rfl))))) rfl
theorem fl_Md_132 : (Cond.fieldLink R_Md 132 "PeerScriptsModel" "bufferSize" "I") ∈ tb := tb_mem (List.mem_append_right _ (List.mem_append_right _ (List.mem_append_right _ (List.mem_append_left _ (List.mem_of_getElem? (i := 181) rfl))))) rfl
theorem fl_Md_106 : (Cond.fieldLink R_Md 106 "PeerScriptsModel" "buffer" "[C") ∈ tb := tb_mem (List.mem_append_right _ (List.mem_append_right _ (List.mem_append_right _ (List.mem_append_left _ (List.mem_of_getElem? (i := 182) rfl))))) rfl
theorem fl_Md_370 : (Cond.fieldLink R_Md 370 "PeerScriptsModel" "talked" "I") ∈ tb := tb_mem (List.mem_append_right _ (List.mem_append_right _ (List.mem_append_right _ (List.mem_append_left _ (List.mem_of_getElem? (i := 183) rfl))))) rfl
theorem fl_Md_109 : (Cond.fieldLink R_Md 109 "PeerScriptsModel" "talk" "[I") ∈ tb := tb_mem (List.mem_append_right _ (List.mem_append_right _ (List.mem_append_right _ (List.mem_append_left _ (List.mem_of_getElem? (i := 184) rfl))))) rfl
theorem sc_Md : (Cond.superclass R_Md "java/lang/Object") ∈ tb := tb_mem (List.mem_append_right _ (List.mem_append_right _ (List.mem_append_right _ (List.mem_append_right _ (List.mem_append_left _ (List.mem_of_getElem? (i := 45) rfl)))))) rfl
theorem ml_Lw_17 : (Cond.methodLink R_Lw 17 y_Md_put) ∈ tb := tb_mem (List.mem_append_right _ (List.mem_append_right _ (List.mem_append_right _ (List.mem_append_right _ (List.mem_append_left _ (List.mem_of_getElem? (i := 46) rfl)))))) rfl
theorem im_Md_put : (Cond.instanceMethod y_Md_put) ∈ tb := tb_mem (List.mem_append_right _ (List.mem_append_right _ (List.mem_append_right _ (List.mem_append_right _ (List.mem_append_left _ (List.mem_of_getElem? (i := 47) rfl)))))) rfl
theorem se_Md_put : (Cond.selects R_Md y_Md_put y_Md_put) ∈ tb := tb_mem (List.mem_append_right _ (List.mem_append_right _ (List.mem_append_right _ (List.mem_append_right _ (List.mem_append_left _ (List.mem_of_getElem? (i := 48) rfl)))))) rfl
theorem ml_Lw_21 : (Cond.methodLink R_Lw 21 y_Md_wipe) ∈ tb := tb_mem (List.mem_append_right _ (List.mem_append_right _ (List.mem_append_right _ (List.mem_append_right _ (List.mem_append_left _ (List.mem_of_getElem? (i := 50) rfl)))))) rfl
theorem im_Md_wipe : (Cond.instanceMethod y_Md_wipe) ∈ tb := tb_mem (List.mem_append_right _ (List.mem_append_right _ (List.mem_append_right _ (List.mem_append_right _ (List.mem_append_left _ (List.mem_of_getElem? (i := 51) rfl)))))) rfl
theorem se_Md_wipe : (Cond.selects R_Md y_Md_wipe y_Md_wipe) ∈ tb := tb_mem (List.mem_append_right _ (List.mem_append_right _ (List.mem_append_right _ (List.mem_append_right _ (List.mem_append_left _ (List.mem_of_getElem? (i := 52) rfl)))))) rfl
theorem ml_Lw_26 : (Cond.methodLink R_Lw 26 y_Md_rule) ∈ tb := tb_mem (List.mem_append_right _ (List.mem_append_right _ (List.mem_append_right _ (List.mem_append_right _ (List.mem_append_left _ (List.mem_of_getElem? (i := 54) rfl)))))) rfl
theorem im_Md_rule : (Cond.instanceMethod y_Md_rule) ∈ tb := tb_mem (List.mem_append_right _ (List.mem_append_right _ (List.mem_append_right _ (List.mem_append_right _ (List.mem_append_left _ (List.mem_of_getElem? (i := 55) rfl)))))) rfl
theorem se_Md_rule : (Cond.selects R_Md y_Md_rule y_Md_rule) ∈ tb := tb_mem (List.mem_append_right _ (List.mem_append_right _ (List.mem_append_right _ (List.mem_append_right _ (List.mem_append_left _ (List.mem_of_getElem? (i := 56) rfl)))))) rfl
theorem ml_Md_119 : (Cond.methodLink R_Md 119 y_Md_outside) ∈ tb := tb_mem (List.mem_append_right _ (List.mem_append_right _ (List.mem_append_right _ (List.mem_append_right _ (List.mem_append_left _ (List.mem_of_getElem? (i := 58) rfl)))))) rfl
theorem sm_Md_outside : (Cond.static y_Md_outside) ∈ tb := tb_mem (List.mem_append_right _ (List.mem_append_right _ (List.mem_append_right _ (List.mem_append_right _ (List.mem_append_left _ (List.mem_of_getElem? (i := 59) rfl)))))) rfl
theorem ml_Lw_30 : (Cond.methodLink R_Lw 30 y_Md_reset) ∈ tb := tb_mem (List.mem_append_right _ (List.mem_append_right _ (List.mem_append_right _ (List.mem_append_right _ (List.mem_append_left _ (List.mem_of_getElem? (i := 61) rfl)))))) rfl
theorem im_Md_reset : (Cond.instanceMethod y_Md_reset) ∈ tb := tb_mem (List.mem_append_right _ (List.mem_append_right _ (List.mem_append_right _ (List.mem_append_right _ (List.mem_append_left _ (List.mem_of_getElem? (i := 62) rfl)))))) rfl
theorem se_Md_reset : (Cond.selects R_Md y_Md_reset y_Md_reset) ∈ tb := tb_mem (List.mem_append_right _ (List.mem_append_right _ (List.mem_append_right _ (List.mem_append_right _ (List.mem_append_left _ (List.mem_of_getElem? (i := 63) rfl)))))) rfl
theorem ml_Lw_35 : (Cond.methodLink R_Lw 35 y_Md_run) ∈ tb := tb_mem (List.mem_append_right _ (List.mem_append_right _ (List.mem_append_right _ (List.mem_append_right _ (List.mem_append_left _ (List.mem_of_getElem? (i := 65) rfl)))))) rfl
theorem im_Md_run : (Cond.instanceMethod y_Md_run) ∈ tb := tb_mem (List.mem_append_right _ (List.mem_append_right _ (List.mem_append_right _ (List.mem_append_right _ (List.mem_append_left _ (List.mem_of_getElem? (i := 66) rfl)))))) rfl
theorem se_Md_run : (Cond.selects R_Md y_Md_run y_Md_run) ∈ tb := tb_mem (List.mem_append_right _ (List.mem_append_right _ (List.mem_append_right _ (List.mem_append_right _ (List.mem_append_left _ (List.mem_of_getElem? (i := 67) rfl)))))) rfl
theorem ml_Md_173 : (Cond.methodLink R_Md 173 y_Md_enter) ∈ tb := tb_mem (List.mem_append_right _ (List.mem_append_right _ (List.mem_append_right _ (List.mem_append_right _ (List.mem_append_left _ (List.mem_of_getElem? (i := 69) rfl)))))) rfl
theorem im_Md_enter : (Cond.instanceMethod y_Md_enter) ∈ tb := tb_mem (List.mem_append_right _ (List.mem_append_right _ (List.mem_append_right _ (List.mem_append_right _ (List.mem_append_left _ (List.mem_of_getElem? (i := 71) rfl)))))) rfl
theorem ml_Md_166 : (Cond.methodLink R_Md 166 y_Md_error) ∈ tb := tb_mem (List.mem_append_right _ (List.mem_append_right _ (List.mem_append_right _ (List.mem_append_right _ (List.mem_append_left _ (List.mem_of_getElem? (i := 73) rfl)))))) rfl
theorem im_Md_error : (Cond.instanceMethod y_Md_error) ∈ tb := tb_mem (List.mem_append_right _ (List.mem_append_right _ (List.mem_append_right _ (List.mem_append_right _ (List.mem_append_left _ (List.mem_of_getElem? (i := 75) rfl)))))) rfl
theorem ml_Md_138 : (Cond.methodLink R_Md 138 y_Md_nothing) ∈ tb := tb_mem (List.mem_append_right _ (List.mem_append_right _ (List.mem_append_right _ (List.mem_append_right _ (List.mem_append_left _ (List.mem_of_getElem? (i := 77) rfl)))))) rfl
theorem im_Md_nothing : (Cond.instanceMethod y_Md_nothing) ∈ tb := tb_mem (List.mem_append_right _ (List.mem_append_right _ (List.mem_append_right _ (List.mem_append_right _ (List.mem_append_left _ (List.mem_of_getElem? (i := 79) rfl)))))) rfl
theorem ml_Md_143 : (Cond.methodLink R_Md 143 y_Md_say) ∈ tb := tb_mem (List.mem_append_right _ (List.mem_append_right _ (List.mem_append_right _ (List.mem_append_right _ (List.mem_append_left _ (List.mem_of_getElem? (i := 81) rfl)))))) rfl
theorem im_Md_say : (Cond.instanceMethod y_Md_say) ∈ tb := tb_mem (List.mem_append_right _ (List.mem_append_right _ (List.mem_append_right _ (List.mem_append_right _ (List.mem_append_left _ (List.mem_of_getElem? (i := 83) rfl)))))) rfl
theorem ml_Md_170 : (Cond.methodLink R_Md 170 y_Md_caught) ∈ tb := tb_mem (List.mem_append_right _ (List.mem_append_right _ (List.mem_append_right _ (List.mem_append_right _ (List.mem_append_left _ (List.mem_of_getElem? (i := 85) rfl)))))) rfl
theorem im_Md_caught : (Cond.instanceMethod y_Md_caught) ∈ tb := tb_mem (List.mem_append_right _ (List.mem_append_right _ (List.mem_append_right _ (List.mem_append_right _ (List.mem_append_left _ (List.mem_of_getElem? (i := 87) rfl)))))) rfl
theorem ml_Md_219 : (Cond.methodLink R_Md 219 y_Md_name) ∈ tb := tb_mem (List.mem_append_right _ (List.mem_append_right _ (List.mem_append_right _ (List.mem_append_right _ (List.mem_append_left _ (List.mem_of_getElem? (i := 89) rfl)))))) rfl
theorem im_Md_name : (Cond.instanceMethod y_Md_name) ∈ tb := tb_mem (List.mem_append_right _ (List.mem_append_right _ (List.mem_append_right _ (List.mem_append_right _ (List.mem_append_left _ (List.mem_of_getElem? (i := 91) rfl)))))) rfl
theorem ml_Md_159 : (Cond.methodLink R_Md 159 y_Md_sizeOf) ∈ tb := tb_mem (List.mem_append_right _ (List.mem_append_right _ (List.mem_append_right _ (List.mem_append_right _ (List.mem_append_left _ (List.mem_of_getElem? (i := 93) rfl)))))) rfl
theorem im_Md_sizeOf : (Cond.instanceMethod y_Md_sizeOf) ∈ tb := tb_mem (List.mem_append_right _ (List.mem_append_right _ (List.mem_append_right _ (List.mem_append_right _ (List.mem_append_left _ (List.mem_of_getElem? (i := 95) rfl)))))) rfl
theorem ml_Md_155 : (Cond.methodLink R_Md 155 y_Md_word) ∈ tb := tb_mem (List.mem_append_right _ (List.mem_append_right _ (List.mem_append_right _ (List.mem_append_right _ (List.mem_append_left _ (List.mem_of_getElem? (i := 97) rfl)))))) rfl
theorem im_Md_word : (Cond.instanceMethod y_Md_word) ∈ tb := tb_mem (List.mem_append_right _ (List.mem_append_right _ (List.mem_append_right _ (List.mem_append_right _ (List.mem_append_left _ (List.mem_of_getElem? (i := 99) rfl)))))) rfl
theorem ml_Md_162 : (Cond.methodLink R_Md 162 y_Md_charOf) ∈ tb := tb_mem (List.mem_append_right _ (List.mem_append_right _ (List.mem_append_right _ (List.mem_append_right _ (List.mem_append_left _ (List.mem_of_getElem? (i := 101) rfl)))))) rfl
theorem im_Md_charOf : (Cond.instanceMethod y_Md_charOf) ∈ tb := tb_mem (List.mem_append_right _ (List.mem_append_right _ (List.mem_append_right _ (List.mem_append_right _ (List.mem_append_left _ (List.mem_of_getElem? (i := 103) rfl)))))) rfl
theorem ml_Md_213 : (Cond.methodLink R_Md 213 y_Md_variable) ∈ tb := tb_mem (List.mem_append_right _ (List.mem_append_right _ (List.mem_append_right _ (List.mem_append_right _ (List.mem_append_left _ (List.mem_of_getElem? (i := 105) rfl)))))) rfl
theorem im_Md_variable : (Cond.instanceMethod y_Md_variable) ∈ tb := tb_mem (List.mem_append_right _ (List.mem_append_right _ (List.mem_append_right _ (List.mem_append_right _ (List.mem_append_left _ (List.mem_of_getElem? (i := 107) rfl)))))) rfl
theorem ml_Md_223 : (Cond.methodLink R_Md 223 y_Md_store) ∈ tb := tb_mem (List.mem_append_right _ (List.mem_append_right _ (List.mem_append_right _ (List.mem_append_right _ (List.mem_append_left _ (List.mem_of_getElem? (i := 109) rfl)))))) rfl
theorem im_Md_store : (Cond.instanceMethod y_Md_store) ∈ tb := tb_mem (List.mem_append_right _ (List.mem_append_right _ (List.mem_append_right _ (List.mem_append_right _ (List.mem_append_left _ (List.mem_of_getElem? (i := 111) rfl)))))) rfl
theorem ml_Md_226 : (Cond.methodLink R_Md 226 y_Md_number) ∈ tb := tb_mem (List.mem_append_right _ (List.mem_append_right _ (List.mem_append_right _ (List.mem_append_right _ (List.mem_append_left _ (List.mem_of_getElem? (i := 113) rfl)))))) rfl
theorem im_Md_number : (Cond.instanceMethod y_Md_number) ∈ tb := tb_mem (List.mem_append_right _ (List.mem_append_right _ (List.mem_append_right _ (List.mem_append_right _ (List.mem_append_left _ (List.mem_of_getElem? (i := 115) rfl)))))) rfl
theorem co_Md_141 : (Cond.constantLong R_Md 141 (10 : Int64)) ∈ tb := tb_mem (List.mem_append_right _ (List.mem_append_right _ (List.mem_append_right _ (List.mem_append_right _ (List.mem_append_left _ (List.mem_of_getElem? (i := 117) rfl)))))) rfl
theorem co_Md_147 : (Cond.constantLong R_Md 147 (48 : Int64)) ∈ tb := tb_mem (List.mem_append_right _ (List.mem_append_right _ (List.mem_append_right _ (List.mem_append_right _ (List.mem_append_left _ (List.mem_of_getElem? (i := 118) rfl)))))) rfl
theorem co_Md_383 : (Cond.constant R_Md 383 (10000000 : Int32)) ∈ tb := tb_mem (List.mem_append_right _ (List.mem_append_right _ (List.mem_append_right _ (List.mem_append_right _ (List.mem_append_left _ (List.mem_of_getElem? (i := 119) rfl)))))) rfl
theorem ml_Md_384 : (Cond.methodLink R_Md 384 y_Md_read) ∈ tb := tb_mem (List.mem_append_right _ (List.mem_append_right _ (List.mem_append_right _ (List.mem_append_right _ (List.mem_append_left _ (List.mem_of_getElem? (i := 120) rfl)))))) rfl
theorem im_Md_read : (Cond.instanceMethod y_Md_read) ∈ tb := tb_mem (List.mem_append_right _ (List.mem_append_right _ (List.mem_append_right _ (List.mem_append_right _ (List.mem_append_left _ (List.mem_of_getElem? (i := 122) rfl)))))) rfl
theorem ml_Md_184 : (Cond.methodLink R_Md 184 y_Md_between) ∈ tb := tb_mem (List.mem_append_right _ (List.mem_append_right _ (List.mem_append_right _ (List.mem_append_right _ (List.mem_append_left _ (List.mem_of_getElem? (i := 124) rfl)))))) rfl
theorem im_Md_between : (Cond.instanceMethod y_Md_between) ∈ tb := tb_mem (List.mem_append_right _ (List.mem_append_right _ (List.mem_append_right _ (List.mem_append_right _ (List.mem_append_left _ (List.mem_of_getElem? (i := 126) rfl)))))) rfl
theorem ml_Md_180 : (Cond.methodLink R_Md 180 y_Md_here) ∈ tb := tb_mem (List.mem_append_right _ (List.mem_append_right _ (List.mem_append_right _ (List.mem_append_right _ (List.mem_append_left _ (List.mem_of_getElem? (i := 128) rfl)))))) rfl
theorem im_Md_here : (Cond.instanceMethod y_Md_here) ∈ tb := tb_mem (List.mem_append_right _ (List.mem_append_right _ (List.mem_append_right _ (List.mem_append_right _ (List.mem_append_left _ (List.mem_of_getElem? (i := 130) rfl)))))) rfl
theorem ml_Md_176 : (Cond.methodLink R_Md 176 y_Md_over) ∈ tb := tb_mem (List.mem_append_right _ (List.mem_append_right _ (List.mem_append_right _ (List.mem_append_right _ (List.mem_append_left _ (List.mem_of_getElem? (i := 132) rfl)))))) rfl
theorem im_Md_over : (Cond.instanceMethod y_Md_over) ∈ tb := tb_mem (List.mem_append_right _ (List.mem_append_right _ (List.mem_append_right _ (List.mem_append_right _ (List.mem_append_left _ (List.mem_of_getElem? (i := 134) rfl)))))) rfl
theorem ml_Md_190 : (Cond.methodLink R_Md 190 y_Md_closes) ∈ tb := tb_mem (List.mem_append_right _ (List.mem_append_right _ (List.mem_append_right _ (List.mem_append_right _ (List.mem_append_left _ (List.mem_of_getElem? (i := 136) rfl)))))) rfl
theorem im_Md_closes : (Cond.instanceMethod y_Md_closes) ∈ tb := tb_mem (List.mem_append_right _ (List.mem_append_right _ (List.mem_append_right _ (List.mem_append_right _ (List.mem_append_left _ (List.mem_of_getElem? (i := 138) rfl)))))) rfl
theorem ml_Md_193 : (Cond.methodLink R_Md 193 y_Md_begin) ∈ tb := tb_mem (List.mem_append_right _ (List.mem_append_right _ (List.mem_append_right _ (List.mem_append_right _ (List.mem_append_left _ (List.mem_of_getElem? (i := 140) rfl)))))) rfl
theorem im_Md_begin : (Cond.instanceMethod y_Md_begin) ∈ tb := tb_mem (List.mem_append_right _ (List.mem_append_right _ (List.mem_append_right _ (List.mem_append_right _ (List.mem_append_left _ (List.mem_of_getElem? (i := 142) rfl)))))) rfl
theorem ml_Md_199 : (Cond.methodLink R_Md 199 y_Md_wordEnds) ∈ tb := tb_mem (List.mem_append_right _ (List.mem_append_right _ (List.mem_append_right _ (List.mem_append_right _ (List.mem_append_left _ (List.mem_of_getElem? (i := 144) rfl)))))) rfl
theorem im_Md_wordEnds : (Cond.instanceMethod y_Md_wordEnds) ∈ tb := tb_mem (List.mem_append_right _ (List.mem_append_right _ (List.mem_append_right _ (List.mem_append_right _ (List.mem_append_left _ (List.mem_of_getElem? (i := 146) rfl)))))) rfl
theorem ml_Md_196 : (Cond.methodLink R_Md 196 y_Md_command) ∈ tb := tb_mem (List.mem_append_right _ (List.mem_append_right _ (List.mem_append_right _ (List.mem_append_right _ (List.mem_append_left _ (List.mem_of_getElem? (i := 148) rfl)))))) rfl
theorem im_Md_command : (Cond.instanceMethod y_Md_command) ∈ tb := tb_mem (List.mem_append_right _ (List.mem_append_right _ (List.mem_append_right _ (List.mem_append_right _ (List.mem_append_left _ (List.mem_of_getElem? (i := 150) rfl)))))) rfl
theorem ml_Md_246 : (Cond.methodLink R_Md 246 y_Md_spend) ∈ tb := tb_mem (List.mem_append_right _ (List.mem_append_right _ (List.mem_append_right _ (List.mem_append_right _ (List.mem_append_left _ (List.mem_of_getElem? (i := 152) rfl)))))) rfl
theorem im_Md_spend : (Cond.instanceMethod y_Md_spend) ∈ tb := tb_mem (List.mem_append_right _ (List.mem_append_right _ (List.mem_append_right _ (List.mem_append_right _ (List.mem_append_left _ (List.mem_of_getElem? (i := 154) rfl)))))) rfl
theorem ml_Md_235 : (Cond.methodLink R_Md 235 y_Md_done) ∈ tb := tb_mem (List.mem_append_right _ (List.mem_append_right _ (List.mem_append_right _ (List.mem_append_right _ (List.mem_append_left _ (List.mem_of_getElem? (i := 156) rfl)))))) rfl
theorem im_Md_done : (Cond.instanceMethod y_Md_done) ∈ tb := tb_mem (List.mem_append_right _ (List.mem_append_right _ (List.mem_append_right _ (List.mem_append_right _ (List.mem_append_left _ (List.mem_of_getElem? (i := 158) rfl)))))) rfl
theorem ml_Md_249 : (Cond.methodLink R_Md 249 y_Md_words) ∈ tb := tb_mem (List.mem_append_right _ (List.mem_append_right _ (List.mem_append_right _ (List.mem_append_right _ (List.mem_append_left _ (List.mem_of_getElem? (i := 160) rfl)))))) rfl
theorem im_Md_words : (Cond.instanceMethod y_Md_words) ∈ tb := tb_mem (List.mem_append_right _ (List.mem_append_right _ (List.mem_append_right _ (List.mem_append_right _ (List.mem_append_left _ (List.mem_of_getElem? (i := 162) rfl)))))) rfl
theorem ml_Md_253 : (Cond.methodLink R_Md 253 y_Md_forms) ∈ tb := tb_mem (List.mem_append_right _ (List.mem_append_right _ (List.mem_append_right _ (List.mem_append_right _ (List.mem_append_left _ (List.mem_of_getElem? (i := 164) rfl)))))) rfl
theorem im_Md_forms : (Cond.instanceMethod y_Md_forms) ∈ tb := tb_mem (List.mem_append_right _ (List.mem_append_right _ (List.mem_append_right _ (List.mem_append_right _ (List.mem_append_left _ (List.mem_of_getElem? (i := 166) rfl)))))) rfl
theorem ml_Md_238 : (Cond.methodLink R_Md 238 y_Md_fitting) ∈ tb := tb_mem (List.mem_append_right _ (List.mem_append_right _ (List.mem_append_right _ (List.mem_append_right _ (List.mem_append_left _ (List.mem_of_getElem? (i := 168) rfl)))))) rfl
theorem im_Md_fitting : (Cond.instanceMethod y_Md_fitting) ∈ tb := tb_mem (List.mem_append_right _ (List.mem_append_right _ (List.mem_append_right _ (List.mem_append_right _ (List.mem_append_left _ (List.mem_of_getElem? (i := 170) rfl)))))) rfl
theorem ml_Md_242 : (Cond.methodLink R_Md 242 y_Md_isNumber) ∈ tb := tb_mem (List.mem_append_right _ (List.mem_append_right _ (List.mem_append_right _ (List.mem_append_right _ (List.mem_append_left _ (List.mem_of_getElem? (i := 172) rfl)))))) rfl
theorem im_Md_isNumber : (Cond.instanceMethod y_Md_isNumber) ∈ tb := tb_mem (List.mem_append_right _ (List.mem_append_right _ (List.mem_append_right _ (List.mem_append_right _ (List.mem_append_left _ (List.mem_of_getElem? (i := 174) rfl)))))) rfl
theorem ml_Md_319 : (Cond.methodLink R_Md 319 y_Md_digits) ∈ tb := tb_mem (List.mem_append_right _ (List.mem_append_right _ (List.mem_append_right _ (List.mem_append_right _ (List.mem_append_left _ (List.mem_of_getElem? (i := 176) rfl)))))) rfl
theorem im_Md_digits : (Cond.instanceMethod y_Md_digits) ∈ tb := tb_mem (List.mem_append_right _ (List.mem_append_right _ (List.mem_append_right _ (List.mem_append_right _ (List.mem_append_left _ (List.mem_of_getElem? (i := 178) rfl)))))) rfl
theorem ml_Md_312 : (Cond.methodLink R_Md 312 y_Md_digitAt) ∈ tb := tb_mem (List.mem_append_right _ (List.mem_append_right _ (List.mem_append_right _ (List.mem_append_right _ (List.mem_append_left _ (List.mem_of_getElem? (i := 180) rfl)))))) rfl
theorem im_Md_digitAt : (Cond.instanceMethod y_Md_digitAt) ∈ tb := tb_mem (List.mem_append_right _ (List.mem_append_right _ (List.mem_append_right _ (List.mem_append_right _ (List.mem_append_left _ (List.mem_of_getElem? (i := 182) rfl)))))) rfl
theorem ml_Md_257 : (Cond.methodLink R_Md 257 y_Md_set) ∈ tb := tb_mem (List.mem_append_right _ (List.mem_append_right _ (List.mem_append_right _ (List.mem_append_right _ (List.mem_append_left _ (List.mem_of_getElem? (i := 184) rfl)))))) rfl
theorem im_Md_set : (Cond.instanceMethod y_Md_set) ∈ tb := tb_mem (List.mem_append_right _ (List.mem_append_right _ (List.mem_append_right _ (List.mem_append_right _ (List.mem_append_left _ (List.mem_of_getElem? (i := 186) rfl)))))) rfl
theorem ml_Md_305 : (Cond.methodLink R_Md 305 y_Md_assign) ∈ tb := tb_mem (List.mem_append_right _ (List.mem_append_right _ (List.mem_append_right _ (List.mem_append_right _ (List.mem_append_left _ (List.mem_of_getElem? (i := 188) rfl)))))) rfl
theorem im_Md_assign : (Cond.instanceMethod y_Md_assign) ∈ tb := tb_mem (List.mem_append_right _ (List.mem_append_right _ (List.mem_append_right _ (List.mem_append_right _ (List.mem_append_left _ (List.mem_of_getElem? (i := 190) rfl)))))) rfl
theorem ml_Md_309 : (Cond.methodLink R_Md 309 y_Md_recall) ∈ tb := tb_mem (List.mem_append_right _ (List.mem_append_right _ (List.mem_append_right _ (List.mem_append_right _ (List.mem_append_left _ (List.mem_of_getElem? (i := 192) rfl)))))) rfl
theorem im_Md_recall : (Cond.instanceMethod y_Md_recall) ∈ tb := tb_mem (List.mem_append_right _ (List.mem_append_right _ (List.mem_append_right _ (List.mem_append_right _ (List.mem_append_left _ (List.mem_of_getElem? (i := 194) rfl)))))) rfl
theorem ml_Md_260 : (Cond.methodLink R_Md 260 y_Md_grow) ∈ tb := tb_mem (List.mem_append_right _ (List.mem_append_right _ (List.mem_append_right _ (List.mem_append_right _ (List.mem_append_left _ (List.mem_of_getElem? (i := 196) rfl)))))) rfl
theorem im_Md_grow : (Cond.instanceMethod y_Md_grow) ∈ tb := tb_mem (List.mem_append_right _ (List.mem_append_right _ (List.mem_append_right _ (List.mem_append_right _ (List.mem_append_left _ (List.mem_of_getElem? (i := 198) rfl)))))) rfl
theorem ml_Md_263 : (Cond.methodLink R_Md 263 y_Md_evaluate) ∈ tb := tb_mem (List.mem_append_right _ (List.mem_append_right _ (List.mem_append_right _ (List.mem_append_right _ (List.mem_append_left _ (List.mem_of_getElem? (i := 200) rfl)))))) rfl
theorem im_Md_evaluate : (Cond.instanceMethod y_Md_evaluate) ∈ tb := tb_mem (List.mem_append_right _ (List.mem_append_right _ (List.mem_append_right _ (List.mem_append_right _ (List.mem_append_left _ (List.mem_of_getElem? (i := 202) rfl)))))) rfl
theorem ml_Md_322 : (Cond.methodLink R_Md 322 y_Md_value) ∈ tb := tb_mem (List.mem_append_right _ (List.mem_append_right _ (List.mem_append_right _ (List.mem_append_right _ (List.mem_append_left _ (List.mem_of_getElem? (i := 204) rfl)))))) rfl
theorem im_Md_value : (Cond.instanceMethod y_Md_value) ∈ tb := tb_mem (List.mem_append_right _ (List.mem_append_right _ (List.mem_append_right _ (List.mem_append_right _ (List.mem_append_left _ (List.mem_of_getElem? (i := 206) rfl)))))) rfl
theorem ml_Md_360 : (Cond.methodLink R_Md 360 y_Md_sign) ∈ tb := tb_mem (List.mem_append_right _ (List.mem_append_right _ (List.mem_append_right _ (List.mem_append_right _ (List.mem_append_left _ (List.mem_of_getElem? (i := 208) rfl)))))) rfl
theorem im_Md_sign : (Cond.instanceMethod y_Md_sign) ∈ tb := tb_mem (List.mem_append_right _ (List.mem_append_right _ (List.mem_append_right _ (List.mem_append_right _ (List.mem_append_left _ (List.mem_of_getElem? (i := 210) rfl)))))) rfl
theorem ml_Md_354 : (Cond.methodLink R_Md 354 y_Md_ill) ∈ tb := tb_mem (List.mem_append_right _ (List.mem_append_right _ (List.mem_append_right _ (List.mem_append_right _ (List.mem_append_left _ (List.mem_of_getElem? (i := 212) rfl)))))) rfl
theorem im_Md_ill : (Cond.instanceMethod y_Md_ill) ∈ tb := tb_mem (List.mem_append_right _ (List.mem_append_right _ (List.mem_append_right _ (List.mem_append_right _ (List.mem_append_left _ (List.mem_of_getElem? (i := 214) rfl)))))) rfl
theorem ml_Md_363 : (Cond.methodLink R_Md 363 y_Md_operand) ∈ tb := tb_mem (List.mem_append_right _ (List.mem_append_right _ (List.mem_append_right _ (List.mem_append_right _ (List.mem_append_left _ (List.mem_of_getElem? (i := 216) rfl)))))) rfl
theorem im_Md_operand : (Cond.instanceMethod y_Md_operand) ∈ tb := tb_mem (List.mem_append_right _ (List.mem_append_right _ (List.mem_append_right _ (List.mem_append_right _ (List.mem_append_left _ (List.mem_of_getElem? (i := 218) rfl)))))) rfl
theorem ml_Md_357 : (Cond.methodLink R_Md 357 y_Md_ofVariable) ∈ tb := tb_mem (List.mem_append_right _ (List.mem_append_right _ (List.mem_append_right _ (List.mem_append_right _ (List.mem_append_left _ (List.mem_of_getElem? (i := 220) rfl)))))) rfl
theorem im_Md_ofVariable : (Cond.instanceMethod y_Md_ofVariable) ∈ tb := tb_mem (List.mem_append_right _ (List.mem_append_right _ (List.mem_append_right _ (List.mem_append_right _ (List.mem_append_left _ (List.mem_of_getElem? (i := 222) rfl)))))) rfl
theorem ml_Md_367 : (Cond.methodLink R_Md 367 y_Md_applyFrom) ∈ tb := tb_mem (List.mem_append_right _ (List.mem_append_right _ (List.mem_append_right _ (List.mem_append_right _ (List.mem_append_left _ (List.mem_of_getElem? (i := 224) rfl)))))) rfl
theorem im_Md_applyFrom : (Cond.instanceMethod y_Md_applyFrom) ∈ tb := tb_mem (List.mem_append_right _ (List.mem_append_right _ (List.mem_append_right _ (List.mem_append_right _ (List.mem_append_left _ (List.mem_of_getElem? (i := 226) rfl)))))) rfl
theorem ml_Md_348 : (Cond.methodLink R_Md 348 y_Md_rankOf) ∈ tb := tb_mem (List.mem_append_right _ (List.mem_append_right _ (List.mem_append_right _ (List.mem_append_right _ (List.mem_append_left _ (List.mem_of_getElem? (i := 228) rfl)))))) rfl
theorem sm_Md_rankOf : (Cond.static y_Md_rankOf) ∈ tb := tb_mem (List.mem_append_right _ (List.mem_append_right _ (List.mem_append_right _ (List.mem_append_right _ (List.mem_append_left _ (List.mem_of_getElem? (i := 229) rfl)))))) rfl
theorem ml_Md_351 : (Cond.methodLink R_Md 351 y_Md_apply) ∈ tb := tb_mem (List.mem_append_right _ (List.mem_append_right _ (List.mem_append_right _ (List.mem_append_right _ (List.mem_append_left _ (List.mem_of_getElem? (i := 231) rfl)))))) rfl
theorem im_Md_apply : (Cond.instanceMethod y_Md_apply) ∈ tb := tb_mem (List.mem_append_right _ (List.mem_append_right _ (List.mem_append_right _ (List.mem_append_right _ (List.mem_append_left _ (List.mem_of_getElem? (i := 233) rfl)))))) rfl
theorem ml_Md_344 : (Cond.methodLink R_Md 344 y_Md_joined) ∈ tb := tb_mem (List.mem_append_right _ (List.mem_append_right _ (List.mem_append_right _ (List.mem_append_right _ (List.mem_append_left _ (List.mem_of_getElem? (i := 235) rfl)))))) rfl
theorem im_Md_joined : (Cond.instanceMethod y_Md_joined) ∈ tb := tb_mem (List.mem_append_right _ (List.mem_append_right _ (List.mem_append_right _ (List.mem_append_right _ (List.mem_append_left _ (List.mem_of_getElem? (i := 237) rfl)))))) rfl
theorem ml_Md_334 : (Cond.methodLink R_Md 334 y_Md_quotient) ∈ tb := tb_mem (List.mem_append_right _ (List.mem_append_right _ (List.mem_append_right _ (List.mem_append_right _ (List.mem_append_left _ (List.mem_of_getElem? (i := 239) rfl)))))) rfl
theorem im_Md_quotient : (Cond.instanceMethod y_Md_quotient) ∈ tb := tb_mem (List.mem_append_right _ (List.mem_append_right _ (List.mem_append_right _ (List.mem_append_right _ (List.mem_append_right _ (List.mem_of_getElem? (i := 1) rfl)))))) rfl
theorem ml_Md_266 : (Cond.methodLink R_Md 266 y_Md_measure) ∈ tb := tb_mem (List.mem_append_right _ (List.mem_append_right _ (List.mem_append_right _ (List.mem_append_right _ (List.mem_append_right _ (List.mem_of_getElem? (i := 3) rfl)))))) rfl
theorem im_Md_measure : (Cond.instanceMethod y_Md_measure) ∈ tb := tb_mem (List.mem_append_right _ (List.mem_append_right _ (List.mem_append_right _ (List.mem_append_right _ (List.mem_append_right _ (List.mem_of_getElem? (i := 5) rfl)))))) rfl
theorem ml_Md_269 : (Cond.methodLink R_Md 269 y_Md_match) ∈ tb := tb_mem (List.mem_append_right _ (List.mem_append_right _ (List.mem_append_right _ (List.mem_append_right _ (List.mem_append_right _ (List.mem_of_getElem? (i := 7) rfl)))))) rfl
theorem im_Md_match : (Cond.instanceMethod y_Md_match) ∈ tb := tb_mem (List.mem_append_right _ (List.mem_append_right _ (List.mem_append_right _ (List.mem_append_right _ (List.mem_append_right _ (List.mem_of_getElem? (i := 9) rfl)))))) rfl
theorem ml_Md_325 : (Cond.methodLink R_Md 325 y_Md_fits) ∈ tb := tb_mem (List.mem_append_right _ (List.mem_append_right _ (List.mem_append_right _ (List.mem_append_right _ (List.mem_append_right _ (List.mem_of_getElem? (i := 11) rfl)))))) rfl
theorem im_Md_fits : (Cond.instanceMethod y_Md_fits) ∈ tb := tb_mem (List.mem_append_right _ (List.mem_append_right _ (List.mem_append_right _ (List.mem_append_right _ (List.mem_append_right _ (List.mem_of_getElem? (i := 13) rfl)))))) rfl
theorem ml_Md_272 : (Cond.methodLink R_Md 272 y_Md_choose) ∈ tb := tb_mem (List.mem_append_right _ (List.mem_append_right _ (List.mem_append_right _ (List.mem_append_right _ (List.mem_append_right _ (List.mem_of_getElem? (i := 15) rfl)))))) rfl
theorem im_Md_choose : (Cond.instanceMethod y_Md_choose) ∈ tb := tb_mem (List.mem_append_right _ (List.mem_append_right _ (List.mem_append_right _ (List.mem_append_right _ (List.mem_append_right _ (List.mem_of_getElem? (i := 17) rfl)))))) rfl
theorem ml_Md_284 : (Cond.methodLink R_Md 284 y_Md_enterWord) ∈ tb := tb_mem (List.mem_append_right _ (List.mem_append_right _ (List.mem_append_right _ (List.mem_append_right _ (List.mem_append_right _ (List.mem_of_getElem? (i := 19) rfl)))))) rfl
theorem im_Md_enterWord : (Cond.instanceMethod y_Md_enterWord) ∈ tb := tb_mem (List.mem_append_right _ (List.mem_append_right _ (List.mem_append_right _ (List.mem_append_right _ (List.mem_append_right _ (List.mem_of_getElem? (i := 21) rfl)))))) rfl
theorem ml_Md_216 : (Cond.methodLink R_Md 216 y_Md_again) ∈ tb := tb_mem (List.mem_append_right _ (List.mem_append_right _ (List.mem_append_right _ (List.mem_append_right _ (List.mem_append_right _ (List.mem_of_getElem? (i := 23) rfl)))))) rfl
theorem im_Md_again : (Cond.instanceMethod y_Md_again) ∈ tb := tb_mem (List.mem_append_right _ (List.mem_append_right _ (List.mem_append_right _ (List.mem_append_right _ (List.mem_append_right _ (List.mem_of_getElem? (i := 25) rfl)))))) rfl
theorem ml_Md_275 : (Cond.methodLink R_Md 275 y_Md_define) ∈ tb := tb_mem (List.mem_append_right _ (List.mem_append_right _ (List.mem_append_right _ (List.mem_append_right _ (List.mem_append_right _ (List.mem_of_getElem? (i := 27) rfl)))))) rfl
theorem im_Md_define : (Cond.instanceMethod y_Md_define) ∈ tb := tb_mem (List.mem_append_right _ (List.mem_append_right _ (List.mem_append_right _ (List.mem_append_right _ (List.mem_append_right _ (List.mem_of_getElem? (i := 29) rfl)))))) rfl
theorem ml_Md_278 : (Cond.methodLink R_Md 278 y_Md_link) ∈ tb := tb_mem (List.mem_append_right _ (List.mem_append_right _ (List.mem_append_right _ (List.mem_append_right _ (List.mem_append_right _ (List.mem_of_getElem? (i := 31) rfl)))))) rfl
theorem im_Md_link : (Cond.instanceMethod y_Md_link) ∈ tb := tb_mem (List.mem_append_right _ (List.mem_append_right _ (List.mem_append_right _ (List.mem_append_right _ (List.mem_append_right _ (List.mem_of_getElem? (i := 33) rfl)))))) rfl
theorem ml_Md_281 : (Cond.methodLink R_Md 281 y_Md_answer) ∈ tb := tb_mem (List.mem_append_right _ (List.mem_append_right _ (List.mem_append_right _ (List.mem_append_right _ (List.mem_append_right _ (List.mem_of_getElem? (i := 35) rfl)))))) rfl
theorem im_Md_answer : (Cond.instanceMethod y_Md_answer) ∈ tb := tb_mem (List.mem_append_right _ (List.mem_append_right _ (List.mem_append_right _ (List.mem_append_right _ (List.mem_append_right _ (List.mem_of_getElem? (i := 37) rfl)))))) rfl
theorem ml_Md_302 : (Cond.methodLink R_Md 302 y_Md_take) ∈ tb := tb_mem (List.mem_append_right _ (List.mem_append_right _ (List.mem_append_right _ (List.mem_append_right _ (List.mem_append_right _ (List.mem_of_getElem? (i := 39) rfl)))))) rfl
theorem im_Md_take : (Cond.instanceMethod y_Md_take) ∈ tb := tb_mem (List.mem_append_right _ (List.mem_append_right _ (List.mem_append_right _ (List.mem_append_right _ (List.mem_append_right _ (List.mem_of_getElem? (i := 41) rfl)))))) rfl
theorem ml_Md_287 : (Cond.methodLink R_Md 287 y_Md_send) ∈ tb := tb_mem (List.mem_append_right _ (List.mem_append_right _ (List.mem_append_right _ (List.mem_append_right _ (List.mem_append_right _ (List.mem_of_getElem? (i := 43) rfl)))))) rfl
theorem im_Md_send : (Cond.instanceMethod y_Md_send) ∈ tb := tb_mem (List.mem_append_right _ (List.mem_append_right _ (List.mem_append_right _ (List.mem_append_right _ (List.mem_append_right _ (List.mem_of_getElem? (i := 45) rfl)))))) rfl
theorem ml_Md_373 : (Cond.methodLink R_Md 373 y_Md_note) ∈ tb := tb_mem (List.mem_append_right _ (List.mem_append_right _ (List.mem_append_right _ (List.mem_append_right _ (List.mem_append_right _ (List.mem_of_getElem? (i := 47) rfl)))))) rfl
theorem im_Md_note : (Cond.instanceMethod y_Md_note) ∈ tb := tb_mem (List.mem_append_right _ (List.mem_append_right _ (List.mem_append_right _ (List.mem_append_right _ (List.mem_append_right _ (List.mem_of_getElem? (i := 49) rfl)))))) rfl
theorem ml_Md_290 : (Cond.methodLink R_Md 290 y_Md_waits) ∈ tb := tb_mem (List.mem_append_right _ (List.mem_append_right _ (List.mem_append_right _ (List.mem_append_right _ (List.mem_append_right _ (List.mem_of_getElem? (i := 51) rfl)))))) rfl
theorem im_Md_waits : (Cond.instanceMethod y_Md_waits) ∈ tb := tb_mem (List.mem_append_right _ (List.mem_append_right _ (List.mem_append_right _ (List.mem_append_right _ (List.mem_append_right _ (List.mem_of_getElem? (i := 53) rfl)))))) rfl
theorem ml_Md_293 : (Cond.methodLink R_Md 293 y_Md_listen) ∈ tb := tb_mem (List.mem_append_right _ (List.mem_append_right _ (List.mem_append_right _ (List.mem_append_right _ (List.mem_append_right _ (List.mem_of_getElem? (i := 55) rfl)))))) rfl
theorem im_Md_listen : (Cond.instanceMethod y_Md_listen) ∈ tb := tb_mem (List.mem_append_right _ (List.mem_append_right _ (List.mem_append_right _ (List.mem_append_right _ (List.mem_append_right _ (List.mem_of_getElem? (i := 57) rfl)))))) rfl
theorem ml_Md_376 : (Cond.methodLink R_Md 376 y_Md_fires) ∈ tb := tb_mem (List.mem_append_right _ (List.mem_append_right _ (List.mem_append_right _ (List.mem_append_right _ (List.mem_append_right _ (List.mem_of_getElem? (i := 59) rfl)))))) rfl
theorem im_Md_fires : (Cond.instanceMethod y_Md_fires) ∈ tb := tb_mem (List.mem_append_right _ (List.mem_append_right _ (List.mem_append_right _ (List.mem_append_right _ (List.mem_append_right _ (List.mem_of_getElem? (i := 61) rfl)))))) rfl
theorem ml_Md_380 : (Cond.methodLink R_Md 380 y_Md_tick) ∈ tb := tb_mem (List.mem_append_right _ (List.mem_append_right _ (List.mem_append_right _ (List.mem_append_right _ (List.mem_append_right _ (List.mem_of_getElem? (i := 63) rfl)))))) rfl
theorem im_Md_tick : (Cond.instanceMethod y_Md_tick) ∈ tb := tb_mem (List.mem_append_right _ (List.mem_append_right _ (List.mem_append_right _ (List.mem_append_right _ (List.mem_append_right _ (List.mem_of_getElem? (i := 65) rfl)))))) rfl
theorem ml_Md_296 : (Cond.methodLink R_Md 296 y_Md_other) ∈ tb := tb_mem (List.mem_append_right _ (List.mem_append_right _ (List.mem_append_right _ (List.mem_append_right _ (List.mem_append_right _ (List.mem_of_getElem? (i := 67) rfl)))))) rfl
theorem im_Md_other : (Cond.instanceMethod y_Md_other) ∈ tb := tb_mem (List.mem_append_right _ (List.mem_append_right _ (List.mem_append_right _ (List.mem_append_right _ (List.mem_append_right _ (List.mem_of_getElem? (i := 69) rfl)))))) rfl
theorem ml_Md_299 : (Cond.methodLink R_Md 299 y_Md_call) ∈ tb := tb_mem (List.mem_append_right _ (List.mem_append_right _ (List.mem_append_right _ (List.mem_append_right _ (List.mem_append_right _ (List.mem_of_getElem? (i := 71) rfl)))))) rfl
theorem im_Md_call : (Cond.instanceMethod y_Md_call) ∈ tb := tb_mem (List.mem_append_right _ (List.mem_append_right _ (List.mem_append_right _ (List.mem_append_right _ (List.mem_append_right _ (List.mem_of_getElem? (i := 73) rfl)))))) rfl
theorem ml_Md_187 : (Cond.methodLink R_Md 187 y_Md_inWord) ∈ tb := tb_mem (List.mem_append_right _ (List.mem_append_right _ (List.mem_append_right _ (List.mem_append_right _ (List.mem_append_right _ (List.mem_of_getElem? (i := 75) rfl)))))) rfl
theorem im_Md_inWord : (Cond.instanceMethod y_Md_inWord) ∈ tb := tb_mem (List.mem_append_right _ (List.mem_append_right _ (List.mem_append_right _ (List.mem_append_right _ (List.mem_append_right _ (List.mem_of_getElem? (i := 77) rfl)))))) rfl
theorem ml_Md_203 : (Cond.methodLink R_Md 203 y_Md_piece) ∈ tb := tb_mem (List.mem_append_right _ (List.mem_append_right _ (List.mem_append_right _ (List.mem_append_right _ (List.mem_append_right _ (List.mem_of_getElem? (i := 79) rfl)))))) rfl
theorem im_Md_piece : (Cond.instanceMethod y_Md_piece) ∈ tb := tb_mem (List.mem_append_right _ (List.mem_append_right _ (List.mem_append_right _ (List.mem_append_right _ (List.mem_append_right _ (List.mem_of_getElem? (i := 81) rfl)))))) rfl
theorem ml_Md_206 : (Cond.methodLink R_Md 206 y_Md_behind) ∈ tb := tb_mem (List.mem_append_right _ (List.mem_append_right _ (List.mem_append_right _ (List.mem_append_right _ (List.mem_append_right _ (List.mem_of_getElem? (i := 83) rfl)))))) rfl
theorem im_Md_behind : (Cond.instanceMethod y_Md_behind) ∈ tb := tb_mem (List.mem_append_right _ (List.mem_append_right _ (List.mem_append_right _ (List.mem_append_right _ (List.mem_append_right _ (List.mem_of_getElem? (i := 85) rfl)))))) rfl
theorem ml_Md_209 : (Cond.methodLink R_Md 209 y_Md_add) ∈ tb := tb_mem (List.mem_append_right _ (List.mem_append_right _ (List.mem_append_right _ (List.mem_append_right _ (List.mem_append_right _ (List.mem_of_getElem? (i := 87) rfl)))))) rfl
theorem im_Md_add : (Cond.instanceMethod y_Md_add) ∈ tb := tb_mem (List.mem_append_right _ (List.mem_append_right _ (List.mem_append_right _ (List.mem_append_right _ (List.mem_append_right _ (List.mem_of_getElem? (i := 89) rfl)))))) rfl
theorem ml_Md_387 : (Cond.methodLink R_Md 387 y_Md_commandEnded) ∈ tb := tb_mem (List.mem_append_right _ (List.mem_append_right _ (List.mem_append_right _ (List.mem_append_right _ (List.mem_append_right _ (List.mem_of_getElem? (i := 91) rfl)))))) rfl
theorem im_Md_commandEnded : (Cond.instanceMethod y_Md_commandEnded) ∈ tb := tb_mem (List.mem_append_right _ (List.mem_append_right _ (List.mem_append_right _ (List.mem_append_right _ (List.mem_append_right _ (List.mem_of_getElem? (i := 93) rfl)))))) rfl
theorem ml_Md_390 : (Cond.methodLink R_Md 390 y_Md_scriptEnded) ∈ tb := tb_mem (List.mem_append_right _ (List.mem_append_right _ (List.mem_append_right _ (List.mem_append_right _ (List.mem_append_right _ (List.mem_of_getElem? (i := 95) rfl)))))) rfl
theorem im_Md_scriptEnded : (Cond.instanceMethod y_Md_scriptEnded) ∈ tb := tb_mem (List.mem_append_right _ (List.mem_append_right _ (List.mem_append_right _ (List.mem_append_right _ (List.mem_append_right _ (List.mem_of_getElem? (i := 97) rfl)))))) rfl
theorem ml_Lw_40 : (Cond.methodLink R_Lw 40 y_Md_length) ∈ tb := tb_mem (List.mem_append_right _ (List.mem_append_right _ (List.mem_append_right _ (List.mem_append_right _ (List.mem_append_right _ (List.mem_of_getElem? (i := 99) rfl)))))) rfl
theorem im_Md_length : (Cond.instanceMethod y_Md_length) ∈ tb := tb_mem (List.mem_append_right _ (List.mem_append_right _ (List.mem_append_right _ (List.mem_append_right _ (List.mem_append_right _ (List.mem_of_getElem? (i := 100) rfl)))))) rfl
theorem se_Md_length : (Cond.selects R_Md y_Md_length y_Md_length) ∈ tb := tb_mem (List.mem_append_right _ (List.mem_append_right _ (List.mem_append_right _ (List.mem_append_right _ (List.mem_append_right _ (List.mem_of_getElem? (i := 101) rfl)))))) rfl
theorem ml_Lw_44 : (Cond.methodLink R_Lw 44 y_Md_at) ∈ tb := tb_mem (List.mem_append_right _ (List.mem_append_right _ (List.mem_append_right _ (List.mem_append_right _ (List.mem_append_right _ (List.mem_of_getElem? (i := 103) rfl)))))) rfl
theorem im_Md_at : (Cond.instanceMethod y_Md_at) ∈ tb := tb_mem (List.mem_append_right _ (List.mem_append_right _ (List.mem_append_right _ (List.mem_append_right _ (List.mem_append_right _ (List.mem_of_getElem? (i := 104) rfl)))))) rfl
theorem se_Md_at : (Cond.selects R_Md y_Md_at y_Md_at) ∈ tb := tb_mem (List.mem_append_right _ (List.mem_append_right _ (List.mem_append_right _ (List.mem_append_right _ (List.mem_append_right _ (List.mem_of_getElem? (i := 105) rfl)))))) rfl
theorem ml_Lw_48 : (Cond.methodLink R_Lw 48 y_Md_used) ∈ tb := tb_mem (List.mem_append_right _ (List.mem_append_right _ (List.mem_append_right _ (List.mem_append_right _ (List.mem_append_right _ (List.mem_of_getElem? (i := 107) rfl)))))) rfl
theorem im_Md_used : (Cond.instanceMethod y_Md_used) ∈ tb := tb_mem (List.mem_append_right _ (List.mem_append_right _ (List.mem_append_right _ (List.mem_append_right _ (List.mem_append_right _ (List.mem_of_getElem? (i := 108) rfl)))))) rfl
theorem se_Md_used : (Cond.selects R_Md y_Md_used y_Md_used) ∈ tb := tb_mem (List.mem_append_right _ (List.mem_append_right _ (List.mem_append_right _ (List.mem_append_right _ (List.mem_append_right _ (List.mem_of_getElem? (i := 109) rfl)))))) rfl
theorem ml_Lw_52 : (Cond.methodLink R_Lw 52 y_Md_size) ∈ tb := tb_mem (List.mem_append_right _ (List.mem_append_right _ (List.mem_append_right _ (List.mem_append_right _ (List.mem_append_right _ (List.mem_of_getElem? (i := 111) rfl)))))) rfl
theorem im_Md_size : (Cond.instanceMethod y_Md_size) ∈ tb := tb_mem (List.mem_append_right _ (List.mem_append_right _ (List.mem_append_right _ (List.mem_append_right _ (List.mem_append_right _ (List.mem_of_getElem? (i := 112) rfl)))))) rfl
theorem se_Md_size : (Cond.selects R_Md y_Md_size y_Md_size) ∈ tb := tb_mem (List.mem_append_right _ (List.mem_append_right _ (List.mem_append_right _ (List.mem_append_right _ (List.mem_append_right _ (List.mem_of_getElem? (i := 113) rfl)))))) rfl
theorem ml_Lw_57 : (Cond.methodLink R_Lw 57 y_Md_letter) ∈ tb := tb_mem (List.mem_append_right _ (List.mem_append_right _ (List.mem_append_right _ (List.mem_append_right _ (List.mem_append_right _ (List.mem_of_getElem? (i := 115) rfl)))))) rfl
theorem im_Md_letter : (Cond.instanceMethod y_Md_letter) ∈ tb := tb_mem (List.mem_append_right _ (List.mem_append_right _ (List.mem_append_right _ (List.mem_append_right _ (List.mem_append_right _ (List.mem_of_getElem? (i := 116) rfl)))))) rfl
theorem se_Md_letter : (Cond.selects R_Md y_Md_letter y_Md_letter) ∈ tb := tb_mem (List.mem_append_right _ (List.mem_append_right _ (List.mem_append_right _ (List.mem_append_right _ (List.mem_append_right _ (List.mem_of_getElem? (i := 117) rfl)))))) rfl
theorem ml_Md_393 : (Cond.methodLink R_Md 393 y_Md_size) ∈ tb := tb_mem (List.mem_append_right _ (List.mem_append_right _ (List.mem_append_right _ (List.mem_append_right _ (List.mem_append_right _ (List.mem_of_getElem? (i := 119) rfl)))))) rfl
theorem ml_Lw_62 : (Cond.methodLink R_Lw 62 y_Md_defined) ∈ tb := tb_mem (List.mem_append_right _ (List.mem_append_right _ (List.mem_append_right _ (List.mem_append_right _ (List.mem_append_right _ (List.mem_of_getElem? (i := 120) rfl)))))) rfl
theorem im_Md_defined : (Cond.instanceMethod y_Md_defined) ∈ tb := tb_mem (List.mem_append_right _ (List.mem_append_right _ (List.mem_append_right _ (List.mem_append_right _ (List.mem_append_right _ (List.mem_of_getElem? (i := 121) rfl)))))) rfl
theorem se_Md_defined : (Cond.selects R_Md y_Md_defined y_Md_defined) ∈ tb := tb_mem (List.mem_append_right _ (List.mem_append_right _ (List.mem_append_right _ (List.mem_append_right _ (List.mem_append_right _ (List.mem_of_getElem? (i := 122) rfl)))))) rfl
theorem ml_Lw_66 : (Cond.methodLink R_Lw 66 y_Md_peer) ∈ tb := tb_mem (List.mem_append_right _ (List.mem_append_right _ (List.mem_append_right _ (List.mem_append_right _ (List.mem_append_right _ (List.mem_of_getElem? (i := 124) rfl)))))) rfl
theorem im_Md_peer : (Cond.instanceMethod y_Md_peer) ∈ tb := tb_mem (List.mem_append_right _ (List.mem_append_right _ (List.mem_append_right _ (List.mem_append_right _ (List.mem_append_right _ (List.mem_of_getElem? (i := 125) rfl)))))) rfl
theorem se_Md_peer : (Cond.selects R_Md y_Md_peer y_Md_peer) ∈ tb := tb_mem (List.mem_append_right _ (List.mem_append_right _ (List.mem_append_right _ (List.mem_append_right _ (List.mem_append_right _ (List.mem_of_getElem? (i := 126) rfl)))))) rfl
theorem ml_Lw_70 : (Cond.methodLink R_Lw 70 y_Md_pending) ∈ tb := tb_mem (List.mem_append_right _ (List.mem_append_right _ (List.mem_append_right _ (List.mem_append_right _ (List.mem_append_right _ (List.mem_of_getElem? (i := 128) rfl)))))) rfl
theorem im_Md_pending : (Cond.instanceMethod y_Md_pending) ∈ tb := tb_mem (List.mem_append_right _ (List.mem_append_right _ (List.mem_append_right _ (List.mem_append_right _ (List.mem_append_right _ (List.mem_of_getElem? (i := 129) rfl)))))) rfl
theorem se_Md_pending : (Cond.selects R_Md y_Md_pending y_Md_pending) ∈ tb := tb_mem (List.mem_append_right _ (List.mem_append_right _ (List.mem_append_right _ (List.mem_append_right _ (List.mem_append_right _ (List.mem_of_getElem? (i := 130) rfl)))))) rfl
theorem ml_Lw_74 : (Cond.methodLink R_Lw 74 y_Md_buffered) ∈ tb := tb_mem (List.mem_append_right _ (List.mem_append_right _ (List.mem_append_right _ (List.mem_append_right _ (List.mem_append_right _ (List.mem_of_getElem? (i := 132) rfl)))))) rfl
theorem im_Md_buffered : (Cond.instanceMethod y_Md_buffered) ∈ tb := tb_mem (List.mem_append_right _ (List.mem_append_right _ (List.mem_append_right _ (List.mem_append_right _ (List.mem_append_right _ (List.mem_of_getElem? (i := 133) rfl)))))) rfl
theorem se_Md_buffered : (Cond.selects R_Md y_Md_buffered y_Md_buffered) ∈ tb := tb_mem (List.mem_append_right _ (List.mem_append_right _ (List.mem_append_right _ (List.mem_append_right _ (List.mem_append_right _ (List.mem_of_getElem? (i := 134) rfl)))))) rfl
theorem ml_Lw_78 : (Cond.methodLink R_Lw 78 y_Md_talk) ∈ tb := tb_mem (List.mem_append_right _ (List.mem_append_right _ (List.mem_append_right _ (List.mem_append_right _ (List.mem_append_right _ (List.mem_of_getElem? (i := 136) rfl)))))) rfl
theorem im_Md_talk : (Cond.instanceMethod y_Md_talk) ∈ tb := tb_mem (List.mem_append_right _ (List.mem_append_right _ (List.mem_append_right _ (List.mem_append_right _ (List.mem_append_right _ (List.mem_of_getElem? (i := 137) rfl)))))) rfl
theorem se_Md_talk : (Cond.selects R_Md y_Md_talk y_Md_talk) ∈ tb := tb_mem (List.mem_append_right _ (List.mem_append_right _ (List.mem_append_right _ (List.mem_append_right _ (List.mem_append_right _ (List.mem_of_getElem? (i := 138) rfl)))))) rfl
theorem ml_Lw_82 : (Cond.methodLink R_Lw 82 y_Md_talked) ∈ tb := tb_mem (List.mem_append_right _ (List.mem_append_right _ (List.mem_append_right _ (List.mem_append_right _ (List.mem_append_right _ (List.mem_of_getElem? (i := 140) rfl)))))) rfl
theorem im_Md_talked : (Cond.instanceMethod y_Md_talked) ∈ tb := tb_mem (List.mem_append_right _ (List.mem_append_right _ (List.mem_append_right _ (List.mem_append_right _ (List.mem_append_right _ (List.mem_of_getElem? (i := 141) rfl)))))) rfl
theorem se_Md_talked : (Cond.selects R_Md y_Md_talked y_Md_talked) ∈ tb := tb_mem (List.mem_append_right _ (List.mem_append_right _ (List.mem_append_right _ (List.mem_append_right _ (List.mem_append_right _ (List.mem_of_getElem? (i := 142) rfl)))))) rfl
theorem fl_St_15 : (Cond.fieldLink R_St 15 "java/lang/String" "coder" "B") ∈ tb := tb_mem (List.mem_append_right _ (List.mem_append_right _ (List.mem_append_right _ (List.mem_append_right _ (List.mem_append_right _ (List.mem_of_getElem? (i := 144) rfl)))))) rfl
theorem fl_St_9 : (Cond.fieldLink R_St 9 "java/lang/String" "value" "[B") ∈ tb := tb_mem (List.mem_append_right _ (List.mem_append_right _ (List.mem_append_right _ (List.mem_append_right _ (List.mem_append_right _ (List.mem_of_getElem? (i := 145) rfl)))))) rfl
theorem se_Rn_runScript : (Cond.selects R_Rn y_Rn_runScript y_Rn_runScript) ∈ tb := tb_sel 0 (by decide +kernel) (by decide +kernel)
theorem se_Rn_fail : (Cond.selects R_Rn y_Rn_fail y_Rn_fail) ∈ tb := tb_sel 1 (by decide +kernel) (by decide +kernel)
theorem se_Rn_readCommand : (Cond.selects R_Rn y_Rn_readCommand y_Rn_readCommand) ∈ tb := tb_sel 2 (by decide +kernel) (by decide +kernel)
theorem se_Rn_readWord : (Cond.selects R_Rn y_Rn_readWord y_Rn_readWord) ∈ tb := tb_sel 3 (by decide +kernel) (by decide +kernel)
theorem se_Rn_readBraced : (Cond.selects R_Rn y_Rn_readBraced y_Rn_readBraced) ∈ tb := tb_sel 4 (by decide +kernel) (by decide +kernel)
theorem se_Vl_holds : (Cond.selects R_Vl y_Vl_holds y_Vl_holds) ∈ tb := tb_sel 5 (by decide +kernel) (by decide +kernel)
theorem se_Rn_checkBehind : (Cond.selects R_Rn y_Rn_checkBehind y_Rn_checkBehind) ∈ tb := tb_sel 6 (by decide +kernel) (by decide +kernel)
theorem se_Rn_readPieces : (Cond.selects R_Rn y_Rn_readPieces y_Rn_readPieces) ∈ tb := tb_sel 7 (by decide +kernel) (by decide +kernel)
theorem se_Rn_readPiece : (Cond.selects R_Rn y_Rn_readPiece y_Rn_readPiece) ∈ tb := tb_sel 8 (by decide +kernel) (by decide +kernel)
theorem se_Rn_checkCommand : (Cond.selects R_Rn y_Rn_checkCommand y_Rn_checkCommand) ∈ tb := tb_sel 9 (by decide +kernel) (by decide +kernel)
theorem se_Rn_takeFuel : (Cond.selects R_Rn y_Rn_takeFuel y_Rn_takeFuel) ∈ tb := tb_sel 10 (by decide +kernel) (by decide +kernel)
theorem se_Rn_endOut : (Cond.selects R_Rn y_Rn_endOut y_Rn_endOut) ∈ tb := tb_sel 11 (by decide +kernel) (by decide +kernel)
theorem se_Rn_isCommand : (Cond.selects R_Rn y_Rn_isCommand y_Rn_isCommand) ∈ tb := tb_sel 12 (by decide +kernel) (by decide +kernel)
theorem se_Rn_doCommand : (Cond.selects R_Rn y_Rn_doCommand y_Rn_doCommand) ∈ tb := tb_sel 13 (by decide +kernel) (by decide +kernel)
theorem se_Rn_setOrShow : (Cond.selects R_Rn y_Rn_setOrShow y_Rn_setOrShow) ∈ tb := tb_sel 14 (by decide +kernel) (by decide +kernel)
theorem se_Rn_grow : (Cond.selects R_Rn y_Rn_grow y_Rn_grow) ∈ tb := tb_sel 15 (by decide +kernel) (by decide +kernel)
theorem se_Rn_showSum : (Cond.selects R_Rn y_Rn_showSum y_Rn_showSum) ∈ tb := tb_sel 16 (by decide +kernel) (by decide +kernel)
theorem se_Sm_begin : (Cond.selects R_Sm y_Sm_begin y_Sm_begin) ∈ tb := tb_sel 17 (by decide +kernel) (by decide +kernel)
theorem se_Sm_takeSign : (Cond.selects R_Sm y_Sm_takeSign y_Sm_takeSign) ∈ tb := tb_sel 18 (by decide +kernel) (by decide +kernel)
theorem se_Sm_applyDownTo : (Cond.selects R_Sm y_Sm_applyDownTo y_Sm_applyDownTo) ∈ tb := tb_sel 19 (by decide +kernel) (by decide +kernel)
theorem se_Sm_joined : (Cond.selects R_Sm y_Sm_joined y_Sm_joined) ∈ tb := tb_sel 20 (by decide +kernel) (by decide +kernel)
theorem se_Sm_pushSign : (Cond.selects R_Sm y_Sm_pushSign y_Sm_pushSign) ∈ tb := tb_sel 21 (by decide +kernel) (by decide +kernel)
theorem se_Sm_takeVariable : (Cond.selects R_Sm y_Sm_takeVariable y_Sm_takeVariable) ∈ tb := tb_sel 22 (by decide +kernel) (by decide +kernel)
theorem se_Sm_pushOperand : (Cond.selects R_Sm y_Sm_pushOperand y_Sm_pushOperand) ∈ tb := tb_sel 23 (by decide +kernel) (by decide +kernel)
theorem se_Sm_takeNumber : (Cond.selects R_Sm y_Sm_takeNumber y_Sm_takeNumber) ∈ tb := tb_sel 24 (by decide +kernel) (by decide +kernel)
theorem se_Sm_takeSignBefore : (Cond.selects R_Sm y_Sm_takeSignBefore y_Sm_takeSignBefore) ∈ tb := tb_sel 25 (by decide +kernel) (by decide +kernel)
theorem se_Vl_placesOf : (Cond.selects R_Vl y_Vl_placesOf y_Vl_placesOf) ∈ tb := tb_sel 26 (by decide +kernel) (by decide +kernel)
theorem se_Rn_choose : (Cond.selects R_Rn y_Rn_choose y_Rn_choose) ∈ tb := tb_sel 27 (by decide +kernel) (by decide +kernel)
theorem se_Rn_runWord : (Cond.selects R_Rn y_Rn_runWord y_Rn_runWord) ∈ tb := tb_sel 28 (by decide +kernel) (by decide +kernel)
theorem se_Rn_repeat : (Cond.selects R_Rn y_Rn_repeat y_Rn_repeat) ∈ tb := tb_sel 29 (by decide +kernel) (by decide +kernel)
theorem se_Rn_catchCode : (Cond.selects R_Rn y_Rn_catchCode y_Rn_catchCode) ∈ tb := tb_sel 30 (by decide +kernel) (by decide +kernel)
theorem se_Rn_waitForPeer : (Cond.selects R_Rn y_Rn_waitForPeer y_Rn_waitForPeer) ∈ tb := tb_sel 31 (by decide +kernel) (by decide +kernel)
theorem se_Rn_takeFitting : (Cond.selects R_Rn y_Rn_takeFitting y_Rn_takeFitting) ∈ tb := tb_sel 32 (by decide +kernel) (by decide +kernel)
theorem se_Pe_takeInput : (Cond.selects R_Pe y_Pe_takeInput y_Pe_takeInput) ∈ tb := tb_sel 33 (by decide +kernel) (by decide +kernel)
theorem se_Pe_ruleFor : (Cond.selects R_Pe y_Pe_ruleFor y_Pe_ruleFor) ∈ tb := tb_sel 34 (by decide +kernel) (by decide +kernel)
theorem se_Rn_callProcedure : (Cond.selects R_Rn y_Rn_callProcedure y_Rn_callProcedure) ∈ tb := tb_sel 35 (by decide +kernel) (by decide +kernel)
theorem se_Rn_leave : (Cond.selects R_Rn y_Rn_leave y_Rn_leave) ∈ tb := tb_sel 36 (by decide +kernel) (by decide +kernel)
theorem se_Md_enter : (Cond.selects R_Md y_Md_enter y_Md_enter) ∈ tb := tb_sel 37 (by decide +kernel) (by decide +kernel)
theorem se_Md_error : (Cond.selects R_Md y_Md_error y_Md_error) ∈ tb := tb_sel 38 (by decide +kernel) (by decide +kernel)
theorem se_Md_nothing : (Cond.selects R_Md y_Md_nothing y_Md_nothing) ∈ tb := tb_sel 39 (by decide +kernel) (by decide +kernel)
theorem se_Md_say : (Cond.selects R_Md y_Md_say y_Md_say) ∈ tb := tb_sel 40 (by decide +kernel) (by decide +kernel)
theorem se_Md_caught : (Cond.selects R_Md y_Md_caught y_Md_caught) ∈ tb := tb_sel 41 (by decide +kernel) (by decide +kernel)
theorem se_Md_name : (Cond.selects R_Md y_Md_name y_Md_name) ∈ tb := tb_sel 42 (by decide +kernel) (by decide +kernel)
theorem se_Md_sizeOf : (Cond.selects R_Md y_Md_sizeOf y_Md_sizeOf) ∈ tb := tb_sel 43 (by decide +kernel) (by decide +kernel)
theorem se_Md_word : (Cond.selects R_Md y_Md_word y_Md_word) ∈ tb := tb_sel 44 (by decide +kernel) (by decide +kernel)
theorem se_Md_charOf : (Cond.selects R_Md y_Md_charOf y_Md_charOf) ∈ tb := tb_sel 45 (by decide +kernel) (by decide +kernel)
theorem se_Md_variable : (Cond.selects R_Md y_Md_variable y_Md_variable) ∈ tb := tb_sel 46 (by decide +kernel) (by decide +kernel)
theorem se_Md_store : (Cond.selects R_Md y_Md_store y_Md_store) ∈ tb := tb_sel 47 (by decide +kernel) (by decide +kernel)
theorem se_Md_number : (Cond.selects R_Md y_Md_number y_Md_number) ∈ tb := tb_sel 48 (by decide +kernel) (by decide +kernel)
theorem se_Md_read : (Cond.selects R_Md y_Md_read y_Md_read) ∈ tb := tb_sel 49 (by decide +kernel) (by decide +kernel)
theorem se_Md_between : (Cond.selects R_Md y_Md_between y_Md_between) ∈ tb := tb_sel 50 (by decide +kernel) (by decide +kernel)
theorem se_Md_here : (Cond.selects R_Md y_Md_here y_Md_here) ∈ tb := tb_sel 51 (by decide +kernel) (by decide +kernel)
theorem se_Md_over : (Cond.selects R_Md y_Md_over y_Md_over) ∈ tb := tb_sel 52 (by decide +kernel) (by decide +kernel)
theorem se_Md_closes : (Cond.selects R_Md y_Md_closes y_Md_closes) ∈ tb := tb_sel 53 (by decide +kernel) (by decide +kernel)
theorem se_Md_begin : (Cond.selects R_Md y_Md_begin y_Md_begin) ∈ tb := tb_sel 54 (by decide +kernel) (by decide +kernel)
theorem se_Md_wordEnds : (Cond.selects R_Md y_Md_wordEnds y_Md_wordEnds) ∈ tb := tb_sel 55 (by decide +kernel) (by decide +kernel)
theorem se_Md_command : (Cond.selects R_Md y_Md_command y_Md_command) ∈ tb := tb_sel 56 (by decide +kernel) (by decide +kernel)
theorem se_Md_spend : (Cond.selects R_Md y_Md_spend y_Md_spend) ∈ tb := tb_sel 57 (by decide +kernel) (by decide +kernel)
theorem se_Md_done : (Cond.selects R_Md y_Md_done y_Md_done) ∈ tb := tb_sel 58 (by decide +kernel) (by decide +kernel)
theorem se_Md_words : (Cond.selects R_Md y_Md_words y_Md_words) ∈ tb := tb_sel 59 (by decide +kernel) (by decide +kernel)
theorem se_Md_forms : (Cond.selects R_Md y_Md_forms y_Md_forms) ∈ tb := tb_sel 60 (by decide +kernel) (by decide +kernel)
theorem se_Md_fitting : (Cond.selects R_Md y_Md_fitting y_Md_fitting) ∈ tb := tb_sel 61 (by decide +kernel) (by decide +kernel)
theorem se_Md_isNumber : (Cond.selects R_Md y_Md_isNumber y_Md_isNumber) ∈ tb := tb_sel 62 (by decide +kernel) (by decide +kernel)
theorem se_Md_digits : (Cond.selects R_Md y_Md_digits y_Md_digits) ∈ tb := tb_sel 63 (by decide +kernel) (by decide +kernel)
theorem se_Md_digitAt : (Cond.selects R_Md y_Md_digitAt y_Md_digitAt) ∈ tb := tb_sel 64 (by decide +kernel) (by decide +kernel)
theorem se_Md_set : (Cond.selects R_Md y_Md_set y_Md_set) ∈ tb := tb_sel 65 (by decide +kernel) (by decide +kernel)
theorem se_Md_assign : (Cond.selects R_Md y_Md_assign y_Md_assign) ∈ tb := tb_sel 66 (by decide +kernel) (by decide +kernel)
theorem se_Md_recall : (Cond.selects R_Md y_Md_recall y_Md_recall) ∈ tb := tb_sel 67 (by decide +kernel) (by decide +kernel)
theorem se_Md_grow : (Cond.selects R_Md y_Md_grow y_Md_grow) ∈ tb := tb_sel 68 (by decide +kernel) (by decide +kernel)
theorem se_Md_evaluate : (Cond.selects R_Md y_Md_evaluate y_Md_evaluate) ∈ tb := tb_sel 69 (by decide +kernel) (by decide +kernel)
theorem se_Md_value : (Cond.selects R_Md y_Md_value y_Md_value) ∈ tb := tb_sel 70 (by decide +kernel) (by decide +kernel)
theorem se_Md_sign : (Cond.selects R_Md y_Md_sign y_Md_sign) ∈ tb := tb_sel 71 (by decide +kernel) (by decide +kernel)
theorem se_Md_ill : (Cond.selects R_Md y_Md_ill y_Md_ill) ∈ tb := tb_sel 72 (by decide +kernel) (by decide +kernel)
theorem se_Md_operand : (Cond.selects R_Md y_Md_operand y_Md_operand) ∈ tb := tb_sel 73 (by decide +kernel) (by decide +kernel)
theorem se_Md_ofVariable : (Cond.selects R_Md y_Md_ofVariable y_Md_ofVariable) ∈ tb := tb_sel 74 (by decide +kernel) (by decide +kernel)
theorem se_Md_applyFrom : (Cond.selects R_Md y_Md_applyFrom y_Md_applyFrom) ∈ tb := tb_sel 75 (by decide +kernel) (by decide +kernel)
theorem se_Md_apply : (Cond.selects R_Md y_Md_apply y_Md_apply) ∈ tb := tb_sel 76 (by decide +kernel) (by decide +kernel)
theorem se_Md_joined : (Cond.selects R_Md y_Md_joined y_Md_joined) ∈ tb := tb_sel 77 (by decide +kernel) (by decide +kernel)
theorem se_Md_quotient : (Cond.selects R_Md y_Md_quotient y_Md_quotient) ∈ tb := tb_sel 78 (by decide +kernel) (by decide +kernel)
theorem se_Md_measure : (Cond.selects R_Md y_Md_measure y_Md_measure) ∈ tb := tb_sel 79 (by decide +kernel) (by decide +kernel)
theorem se_Md_match : (Cond.selects R_Md y_Md_match y_Md_match) ∈ tb := tb_sel 80 (by decide +kernel) (by decide +kernel)
theorem se_Md_fits : (Cond.selects R_Md y_Md_fits y_Md_fits) ∈ tb := tb_sel 81 (by decide +kernel) (by decide +kernel)
theorem se_Md_choose : (Cond.selects R_Md y_Md_choose y_Md_choose) ∈ tb := tb_sel 82 (by decide +kernel) (by decide +kernel)
theorem se_Md_enterWord : (Cond.selects R_Md y_Md_enterWord y_Md_enterWord) ∈ tb := tb_sel 83 (by decide +kernel) (by decide +kernel)
theorem se_Md_again : (Cond.selects R_Md y_Md_again y_Md_again) ∈ tb := tb_sel 84 (by decide +kernel) (by decide +kernel)
theorem se_Md_define : (Cond.selects R_Md y_Md_define y_Md_define) ∈ tb := tb_sel 85 (by decide +kernel) (by decide +kernel)
theorem se_Md_link : (Cond.selects R_Md y_Md_link y_Md_link) ∈ tb := tb_sel 86 (by decide +kernel) (by decide +kernel)
theorem se_Md_answer : (Cond.selects R_Md y_Md_answer y_Md_answer) ∈ tb := tb_sel 87 (by decide +kernel) (by decide +kernel)
theorem se_Md_take : (Cond.selects R_Md y_Md_take y_Md_take) ∈ tb := tb_sel 88 (by decide +kernel) (by decide +kernel)
theorem se_Md_send : (Cond.selects R_Md y_Md_send y_Md_send) ∈ tb := tb_sel 89 (by decide +kernel) (by decide +kernel)
theorem se_Md_note : (Cond.selects R_Md y_Md_note y_Md_note) ∈ tb := tb_sel 90 (by decide +kernel) (by decide +kernel)
theorem se_Md_waits : (Cond.selects R_Md y_Md_waits y_Md_waits) ∈ tb := tb_sel 91 (by decide +kernel) (by decide +kernel)
theorem se_Md_listen : (Cond.selects R_Md y_Md_listen y_Md_listen) ∈ tb := tb_sel 92 (by decide +kernel) (by decide +kernel)
theorem se_Md_fires : (Cond.selects R_Md y_Md_fires y_Md_fires) ∈ tb := tb_sel 93 (by decide +kernel) (by decide +kernel)
theorem se_Md_tick : (Cond.selects R_Md y_Md_tick y_Md_tick) ∈ tb := tb_sel 94 (by decide +kernel) (by decide +kernel)
theorem se_Md_other : (Cond.selects R_Md y_Md_other y_Md_other) ∈ tb := tb_sel 95 (by decide +kernel) (by decide +kernel)
theorem se_Md_call : (Cond.selects R_Md y_Md_call y_Md_call) ∈ tb := tb_sel 96 (by decide +kernel) (by decide +kernel)
theorem se_Md_inWord : (Cond.selects R_Md y_Md_inWord y_Md_inWord) ∈ tb := tb_sel 97 (by decide +kernel) (by decide +kernel)
theorem se_Md_piece : (Cond.selects R_Md y_Md_piece y_Md_piece) ∈ tb := tb_sel 98 (by decide +kernel) (by decide +kernel)
theorem se_Md_behind : (Cond.selects R_Md y_Md_behind y_Md_behind) ∈ tb := tb_sel 99 (by decide +kernel) (by decide +kernel)
theorem se_Md_add : (Cond.selects R_Md y_Md_add y_Md_add) ∈ tb := tb_sel 100 (by decide +kernel) (by decide +kernel)
theorem se_Md_commandEnded : (Cond.selects R_Md y_Md_commandEnded y_Md_commandEnded) ∈ tb := tb_sel 101 (by decide +kernel) (by decide +kernel)
theorem se_Md_scriptEnded : (Cond.selects R_Md y_Md_scriptEnded y_Md_scriptEnded) ∈ tb := tb_sel 102 (by decide +kernel) (by decide +kernel)
/-- the words across the nest: they hold at every state of the run, but are said of a state, not of the tables alone -/
def nw : List Cond := [Cond.methodLinkNest R_PS 9 y_Tx_init "PeerScripts", Cond.fieldLinkNest R_Rn 50 "PeerScripts$Text" "letters" "[C" "PeerScripts", Cond.fieldLinkNest R_PS 44 "PeerScripts$Text" "letters" "[C" "PeerScripts", Cond.fieldLinkNest R_PS 40 "PeerScripts$Text" "count" "I" "PeerScripts", Cond.fieldLinkNest R_PS 36 "PeerScripts$Text" "wasRun" "Z" "PeerScripts", Cond.methodLinkNest R_PS 18 y_Pe_init "PeerScripts", Cond.methodLinkNest R_Pe 38 y_Lg_init "PeerScripts", Cond.fieldLinkNest R_PS 127 "PeerScripts$Log" "count" "I" "PeerScripts", Cond.fieldLinkNest R_PS 114 "PeerScripts$Peer" "state" "I" "PeerScripts", Cond.fieldLinkNest R_PS 117 "PeerScripts$Peer" "inputCount" "I" "PeerScripts", Cond.fieldLinkNest R_PS 120 "PeerScripts$Peer" "buffer" "LPeerScripts$Values;" "PeerScripts", Cond.fieldLinkNest R_Rn 332 "PeerScripts$Peer" "buffer" "LPeerScripts$Values;" "PeerScripts", Cond.fieldLinkNest R_PS 123 "PeerScripts$Peer" "log" "LPeerScripts$Log;" "PeerScripts", Cond.fieldLinkNest R_Rn 317 "PeerScripts$Procedures" "starts" "[I" "PeerScripts", Cond.fieldLinkNest R_Rn 320 "PeerScripts$Procedures" "ends" "[I" "PeerScripts", Cond.fieldLinkNest R_Rn 310 "PeerScripts$Procedures" "parameters" "[I" "PeerScripts", Cond.fieldLinkNest R_Rn 304 "PeerScripts$Sums" "value" "I" "PeerScripts", Cond.methodLinkNest R_Rn 63 y_Lv_init "PeerScripts", Cond.fieldLinkNest R_Rn 145 "PeerScripts$Level" "words" "LPeerScripts$Values;" "PeerScripts", Cond.fieldLinkNest R_Rn 83 "PeerScripts$Level" "count" "I" "PeerScripts", Cond.fieldLinkNest R_Rn 101 "PeerScripts$Level" "at" "I" "PeerScripts", Cond.fieldLinkNest R_Rn 104 "PeerScripts$Level" "end" "I" "PeerScripts", Cond.fieldLinkNest R_Rn 138 "PeerScripts$Level" "frame" "I" "PeerScripts", Cond.fieldLinkNest R_Rn 115 "PeerScripts$Level" "inBrackets" "Z" "PeerScripts", Cond.fieldLinkNest R_Rn 75 "PeerScripts$Level" "over" "Z" "PeerScripts", Cond.fieldLinkNest R_PS 48 "PeerScripts$Runner" "variables" "LPeerScripts$Variables;" "PeerScripts", Cond.fieldLinkNest R_PS 58 "PeerScripts$Runner" "procedures" "LPeerScripts$Procedures;" "PeerScripts", Cond.fieldLinkNest R_PS 94 "PeerScripts$Runner" "result" "LPeerScripts$Values;" "PeerScripts", Cond.fieldLinkNest R_PS 80 "PeerScripts$Runner" "fuelGiven" "I" "PeerScripts", Cond.fieldLinkNest R_PS 83 "PeerScripts$Runner" "fuelLeft" "I" "PeerScripts", Cond.methodLinkNest R_PS 86 y_Rn_runScript "PeerScripts", Cond.methodLinkNest R_Rn 152 y_PS_isVariable "PeerScripts", Cond.methodLinkNest R_Rn 197 y_PS_isProcedure "PeerScripts", Cond.methodLinkNest R_Vl 55 y_PS_isDigit "PeerScripts", Cond.methodLinkNest R_Sm 100 y_PS_isVariable "PeerScripts", Cond.methodLinkNest R_Sm 49 y_PS_isDigit "PeerScripts", Cond.methodLinkNest R_PS 90 y_Rn_leave "PeerScripts"]
theorem nm_PS_9 : (Cond.methodLinkNest R_PS 9 y_Tx_init "PeerScripts") ∈ nw := List.mem_of_getElem? (i := 0) rfl
theorem nf_Rn_50 : (Cond.fieldLinkNest R_Rn 50 "PeerScripts$Text" "letters" "[C" "PeerScripts") ∈ nw := List.mem_of_getElem? (i := 1) rfl
theorem nf_PS_44 : (Cond.fieldLinkNest R_PS 44 "PeerScripts$Text" "letters" "[C" "PeerScripts") ∈ nw := List.mem_of_getElem? (i := 2) rfl
theorem nf_PS_40 : (Cond.fieldLinkNest R_PS 40 "PeerScripts$Text" "count" "I" "PeerScripts") ∈ nw := List.mem_of_getElem? (i := 3) rfl
theorem nf_PS_36 : (Cond.fieldLinkNest R_PS 36 "PeerScripts$Text" "wasRun" "Z" "PeerScripts") ∈ nw := List.mem_of_getElem? (i := 4) rfl
theorem nm_PS_18 : (Cond.methodLinkNest R_PS 18 y_Pe_init "PeerScripts") ∈ nw := List.mem_of_getElem? (i := 5) rfl
theorem nm_Pe_38 : (Cond.methodLinkNest R_Pe 38 y_Lg_init "PeerScripts") ∈ nw := List.mem_of_getElem? (i := 6) rfl
theorem nf_PS_127 : (Cond.fieldLinkNest R_PS 127 "PeerScripts$Log" "count" "I" "PeerScripts") ∈ nw := List.mem_of_getElem? (i := 7) rfl
theorem nf_PS_114 : (Cond.fieldLinkNest R_PS 114 "PeerScripts$Peer" "state" "I" "PeerScripts") ∈ nw := List.mem_of_getElem? (i := 8) rfl
theorem nf_PS_117 : (Cond.fieldLinkNest R_PS 117 "PeerScripts$Peer" "inputCount" "I" "PeerScripts") ∈ nw := List.mem_of_getElem? (i := 9) rfl
theorem nf_PS_120 : (Cond.fieldLinkNest R_PS 120 "PeerScripts$Peer" "buffer" "LPeerScripts$Values;" "PeerScripts") ∈ nw := List.mem_of_getElem? (i := 10) rfl
theorem nf_Rn_332 : (Cond.fieldLinkNest R_Rn 332 "PeerScripts$Peer" "buffer" "LPeerScripts$Values;" "PeerScripts") ∈ nw := List.mem_of_getElem? (i := 11) rfl
theorem nf_PS_123 : (Cond.fieldLinkNest R_PS 123 "PeerScripts$Peer" "log" "LPeerScripts$Log;" "PeerScripts") ∈ nw := List.mem_of_getElem? (i := 12) rfl
theorem nf_Rn_317 : (Cond.fieldLinkNest R_Rn 317 "PeerScripts$Procedures" "starts" "[I" "PeerScripts") ∈ nw := List.mem_of_getElem? (i := 13) rfl
theorem nf_Rn_320 : (Cond.fieldLinkNest R_Rn 320 "PeerScripts$Procedures" "ends" "[I" "PeerScripts") ∈ nw := List.mem_of_getElem? (i := 14) rfl
theorem nf_Rn_310 : (Cond.fieldLinkNest R_Rn 310 "PeerScripts$Procedures" "parameters" "[I" "PeerScripts") ∈ nw := List.mem_of_getElem? (i := 15) rfl
theorem nf_Rn_304 : (Cond.fieldLinkNest R_Rn 304 "PeerScripts$Sums" "value" "I" "PeerScripts") ∈ nw := List.mem_of_getElem? (i := 16) rfl
theorem nm_Rn_63 : (Cond.methodLinkNest R_Rn 63 y_Lv_init "PeerScripts") ∈ nw := List.mem_of_getElem? (i := 17) rfl
theorem nf_Rn_145 : (Cond.fieldLinkNest R_Rn 145 "PeerScripts$Level" "words" "LPeerScripts$Values;" "PeerScripts") ∈ nw := List.mem_of_getElem? (i := 18) rfl
theorem nf_Rn_83 : (Cond.fieldLinkNest R_Rn 83 "PeerScripts$Level" "count" "I" "PeerScripts") ∈ nw := List.mem_of_getElem? (i := 19) rfl
theorem nf_Rn_101 : (Cond.fieldLinkNest R_Rn 101 "PeerScripts$Level" "at" "I" "PeerScripts") ∈ nw := List.mem_of_getElem? (i := 20) rfl
theorem nf_Rn_104 : (Cond.fieldLinkNest R_Rn 104 "PeerScripts$Level" "end" "I" "PeerScripts") ∈ nw := List.mem_of_getElem? (i := 21) rfl
theorem nf_Rn_138 : (Cond.fieldLinkNest R_Rn 138 "PeerScripts$Level" "frame" "I" "PeerScripts") ∈ nw := List.mem_of_getElem? (i := 22) rfl
theorem nf_Rn_115 : (Cond.fieldLinkNest R_Rn 115 "PeerScripts$Level" "inBrackets" "Z" "PeerScripts") ∈ nw := List.mem_of_getElem? (i := 23) rfl
theorem nf_Rn_75 : (Cond.fieldLinkNest R_Rn 75 "PeerScripts$Level" "over" "Z" "PeerScripts") ∈ nw := List.mem_of_getElem? (i := 24) rfl
theorem nf_PS_48 : (Cond.fieldLinkNest R_PS 48 "PeerScripts$Runner" "variables" "LPeerScripts$Variables;" "PeerScripts") ∈ nw := List.mem_of_getElem? (i := 25) rfl
theorem nf_PS_58 : (Cond.fieldLinkNest R_PS 58 "PeerScripts$Runner" "procedures" "LPeerScripts$Procedures;" "PeerScripts") ∈ nw := List.mem_of_getElem? (i := 26) rfl
theorem nf_PS_94 : (Cond.fieldLinkNest R_PS 94 "PeerScripts$Runner" "result" "LPeerScripts$Values;" "PeerScripts") ∈ nw := List.mem_of_getElem? (i := 27) rfl
theorem nf_PS_80 : (Cond.fieldLinkNest R_PS 80 "PeerScripts$Runner" "fuelGiven" "I" "PeerScripts") ∈ nw := List.mem_of_getElem? (i := 28) rfl
theorem nf_PS_83 : (Cond.fieldLinkNest R_PS 83 "PeerScripts$Runner" "fuelLeft" "I" "PeerScripts") ∈ nw := List.mem_of_getElem? (i := 29) rfl
theorem nm_PS_86 : (Cond.methodLinkNest R_PS 86 y_Rn_runScript "PeerScripts") ∈ nw := List.mem_of_getElem? (i := 30) rfl
theorem nm_Rn_152 : (Cond.methodLinkNest R_Rn 152 y_PS_isVariable "PeerScripts") ∈ nw := List.mem_of_getElem? (i := 31) rfl
theorem nm_Rn_197 : (Cond.methodLinkNest R_Rn 197 y_PS_isProcedure "PeerScripts") ∈ nw := List.mem_of_getElem? (i := 32) rfl
theorem nm_Vl_55 : (Cond.methodLinkNest R_Vl 55 y_PS_isDigit "PeerScripts") ∈ nw := List.mem_of_getElem? (i := 33) rfl
theorem nm_Sm_100 : (Cond.methodLinkNest R_Sm 100 y_PS_isVariable "PeerScripts") ∈ nw := List.mem_of_getElem? (i := 34) rfl
theorem nm_Sm_49 : (Cond.methodLinkNest R_Sm 49 y_PS_isDigit "PeerScripts") ∈ nw := List.mem_of_getElem? (i := 35) rfl
theorem nm_PS_90 : (Cond.methodLinkNest R_PS 90 y_Rn_leave "PeerScripts") ∈ nw := List.mem_of_getElem? (i := 36) rfl
theorem nw_on : ∀ w ∈ nw, w.onTables = true := by decide +kernel
theorem nw_tbl : ∀ w ∈ nw, w ∈ lw_tbl := by decide +kernel
theorem nw_kind : ∀ w ∈ nw, (∃ a i b n d h, w = .fieldLinkNest a i b n d h) ∨ (∃ a i x h, w = .methodLinkNest a i x h) := by
  intro w hw
  simp only [nw, List.mem_cons, List.not_mem_nil, or_false] at hw
  rcases hw with rfl | rfl | rfl | rfl | rfl | rfl | rfl | rfl | rfl | rfl | rfl | rfl | rfl | rfl | rfl | rfl | rfl | rfl | rfl | rfl | rfl | rfl | rfl | rfl | rfl | rfl | rfl | rfl | rfl | rfl | rfl | rfl | rfl | rfl | rfl | rfl | rfl
  all_goals first | exact Or.inl ⟨_, _, _, _, _, _, rfl⟩ | exact Or.inr ⟨_, _, _, _, rfl⟩
