/-! methods: code, name, words; written by wip/gen/names.py -/
abbrev b_PS_init : ByteArray := prog_1_method_1_code
def y_PS_init : MethodName := ⟨R_PS, "<init>", "()V"⟩
abbrev k_PS_init : Cond := .code y_PS_init b_PS_init 1 none
theorem kt_PS_init : k_PS_init ∈ tb := tb_mem (List.mem_append_left _ (List.mem_of_getElem? (i := 24) rfl)) rfl
abbrev w_PS_init : List Cond := k_PS_init :: tb
abbrev b_PS_at : ByteArray := prog_1_method_8_code
def y_PS_at : MethodName := ⟨R_PS, "at", "(I)I"⟩
abbrev k_PS_at : Cond := .code y_PS_at b_PS_at 2 (some .int)
theorem kt_PS_at : k_PS_at ∈ tb := tb_mem (List.mem_append_right _ (List.mem_append_right _ (List.mem_append_right _ (List.mem_append_left _ (List.mem_of_getElem? (i := 85) rfl))))) rfl
abbrev w_PS_at : List Cond := k_PS_at :: tb
abbrev b_PS_buffered : ByteArray := prog_1_method_15_code
def y_PS_buffered : MethodName := ⟨R_PS, "buffered", "()I"⟩
abbrev k_PS_buffered : Cond := .code y_PS_buffered b_PS_buffered 1 (some .int)
theorem kt_PS_buffered : k_PS_buffered ∈ tb := tb_mem (List.mem_append_right _ (List.mem_append_right _ (List.mem_append_right _ (List.mem_append_left _ (List.mem_of_getElem? (i := 116) rfl))))) rfl
abbrev w_PS_buffered : List Cond := k_PS_buffered :: tb
abbrev b_PS_defined : ByteArray := prog_1_method_12_code
def y_PS_defined : MethodName := ⟨R_PS, "defined", "(I)Z"⟩
abbrev k_PS_defined : Cond := .code y_PS_defined b_PS_defined 2 (some .boolean)
theorem kt_PS_defined : k_PS_defined ∈ tb := tb_mem (List.mem_append_right _ (List.mem_append_right _ (List.mem_append_right _ (List.mem_append_left _ (List.mem_of_getElem? (i := 103) rfl))))) rfl
abbrev w_PS_defined : List Cond := k_PS_defined :: tb
abbrev b_PS_isDigit : ByteArray := prog_1_method_21_code
def y_PS_isDigit : MethodName := ⟨R_PS, "isDigit", "(I)Z"⟩
abbrev k_PS_isDigit : Cond := .code y_PS_isDigit b_PS_isDigit 1 (some .boolean)
theorem kt_PS_isDigit : k_PS_isDigit ∈ tb := tb_mem (List.mem_append_right _ (List.mem_append_right _ (List.mem_append_left _ (List.mem_of_getElem? (i := 135) rfl)))) rfl
abbrev w_PS_isDigit : List Cond := k_PS_isDigit :: tb
abbrev b_PS_isPrintable : ByteArray := prog_1_method_18_code
def y_PS_isPrintable : MethodName := ⟨R_PS, "isPrintable", "(I)Z"⟩
abbrev k_PS_isPrintable : Cond := .code y_PS_isPrintable b_PS_isPrintable 1 (some .boolean)
theorem kt_PS_isPrintable : k_PS_isPrintable ∈ tb := tb_mem (List.mem_append_right _ (List.mem_append_left _ (List.mem_of_getElem? (i := 74) rfl))) rfl
abbrev w_PS_isPrintable : List Cond := k_PS_isPrintable :: tb
abbrev b_PS_isPrintableOrZero : ByteArray := prog_1_method_19_code
def y_PS_isPrintableOrZero : MethodName := ⟨R_PS, "isPrintableOrZero", "(I)Z"⟩
abbrev k_PS_isPrintableOrZero : Cond := .code y_PS_isPrintableOrZero b_PS_isPrintableOrZero 1 (some .boolean)
theorem kt_PS_isPrintableOrZero : k_PS_isPrintableOrZero ∈ tb := tb_mem (List.mem_append_right _ (List.mem_append_left _ (List.mem_of_getElem? (i := 96) rfl))) rfl
abbrev w_PS_isPrintableOrZero : List Cond := k_PS_isPrintableOrZero :: tb
abbrev b_PS_isProcedure : ByteArray := prog_1_method_23_code
def y_PS_isProcedure : MethodName := ⟨R_PS, "isProcedure", "(I)Z"⟩
abbrev k_PS_isProcedure : Cond := .code y_PS_isProcedure b_PS_isProcedure 1 (some .boolean)
theorem kt_PS_isProcedure : k_PS_isProcedure ∈ tb := tb_mem (List.mem_append_right _ (List.mem_append_left _ (List.mem_of_getElem? (i := 235) rfl))) rfl
abbrev w_PS_isProcedure : List Cond := k_PS_isProcedure :: tb
abbrev b_PS_isState : ByteArray := prog_1_method_20_code
def y_PS_isState : MethodName := ⟨R_PS, "isState", "(I)Z"⟩
abbrev k_PS_isState : Cond := .code y_PS_isState b_PS_isState 1 (some .boolean)
theorem kt_PS_isState : k_PS_isState ∈ tb := tb_mem (List.mem_append_right _ (List.mem_append_left _ (List.mem_of_getElem? (i := 93) rfl))) rfl
abbrev w_PS_isState : List Cond := k_PS_isState :: tb
abbrev b_PS_isVariable : ByteArray := prog_1_method_22_code
def y_PS_isVariable : MethodName := ⟨R_PS, "isVariable", "(I)Z"⟩
abbrev k_PS_isVariable : Cond := .code y_PS_isVariable b_PS_isVariable 1 (some .boolean)
theorem kt_PS_isVariable : k_PS_isVariable ∈ tb := tb_mem (List.mem_append_right _ (List.mem_append_left _ (List.mem_of_getElem? (i := 204) rfl))) rfl
abbrev w_PS_isVariable : List Cond := k_PS_isVariable :: tb
abbrev b_PS_length : ByteArray := prog_1_method_7_code
def y_PS_length : MethodName := ⟨R_PS, "length", "()I"⟩
abbrev k_PS_length : Cond := .code y_PS_length b_PS_length 1 (some .int)
theorem kt_PS_length : k_PS_length ∈ tb := tb_mem (List.mem_append_right _ (List.mem_append_right _ (List.mem_append_right _ (List.mem_append_left _ (List.mem_of_getElem? (i := 80) rfl))))) rfl
abbrev w_PS_length : List Cond := k_PS_length :: tb
abbrev b_PS_letter : ByteArray := prog_1_method_11_code
def y_PS_letter : MethodName := ⟨R_PS, "letter", "(II)I"⟩
abbrev k_PS_letter : Cond := .code y_PS_letter b_PS_letter 3 (some .int)
theorem kt_PS_letter : k_PS_letter ∈ tb := tb_mem (List.mem_append_right _ (List.mem_append_right _ (List.mem_append_right _ (List.mem_append_left _ (List.mem_of_getElem? (i := 99) rfl))))) rfl
abbrev w_PS_letter : List Cond := k_PS_letter :: tb
abbrev b_PS_peer : ByteArray := prog_1_method_13_code
def y_PS_peer : MethodName := ⟨R_PS, "peer", "()I"⟩
abbrev k_PS_peer : Cond := .code y_PS_peer b_PS_peer 1 (some .int)
theorem kt_PS_peer : k_PS_peer ∈ tb := tb_mem (List.mem_append_right _ (List.mem_append_right _ (List.mem_append_right _ (List.mem_append_left _ (List.mem_of_getElem? (i := 108) rfl))))) rfl
abbrev w_PS_peer : List Cond := k_PS_peer :: tb
abbrev b_PS_pending : ByteArray := prog_1_method_14_code
def y_PS_pending : MethodName := ⟨R_PS, "pending", "()I"⟩
abbrev k_PS_pending : Cond := .code y_PS_pending b_PS_pending 1 (some .int)
theorem kt_PS_pending : k_PS_pending ∈ tb := tb_mem (List.mem_append_right _ (List.mem_append_right _ (List.mem_append_right _ (List.mem_append_left _ (List.mem_of_getElem? (i := 112) rfl))))) rfl
abbrev w_PS_pending : List Cond := k_PS_pending :: tb
abbrev b_PS_put : ByteArray := prog_1_method_2_code
def y_PS_put : MethodName := ⟨R_PS, "put", "(C)Z"⟩
abbrev k_PS_put : Cond := .code y_PS_put b_PS_put 3 (some .boolean)
theorem kt_PS_put : k_PS_put ∈ tb := tb_mem (List.mem_append_right _ (List.mem_append_left _ (List.mem_of_getElem? (i := 71) rfl))) rfl
abbrev w_PS_put : List Cond := k_PS_put :: tb
abbrev b_PS_reset : ByteArray := prog_1_method_5_code
def y_PS_reset : MethodName := ⟨R_PS, "reset", "()V"⟩
abbrev k_PS_reset : Cond := .code y_PS_reset b_PS_reset 1 none
theorem kt_PS_reset : k_PS_reset ∈ tb := tb_mem (List.mem_append_right _ (List.mem_append_left _ (List.mem_of_getElem? (i := 104) rfl))) rfl
abbrev w_PS_reset : List Cond := k_PS_reset :: tb
abbrev b_PS_rule : ByteArray := prog_1_method_4_code
def y_PS_rule : MethodName := ⟨R_PS, "rule", "(IIII)Z"⟩
abbrev k_PS_rule : Cond := .code y_PS_rule b_PS_rule 6 (some .boolean)
theorem kt_PS_rule : k_PS_rule ∈ tb := tb_mem (List.mem_append_right _ (List.mem_append_left _ (List.mem_of_getElem? (i := 90) rfl))) rfl
abbrev w_PS_rule : List Cond := k_PS_rule :: tb
abbrev b_PS_run : ByteArray := prog_1_method_6_code
def y_PS_run : MethodName := ⟨R_PS, "run", "(I)I"⟩
abbrev k_PS_run : Cond := .code y_PS_run b_PS_run 2 (some .int)
theorem kt_PS_run : k_PS_run ∈ tb := tb_mem (List.mem_append_right _ (List.mem_append_left _ (List.mem_of_getElem? (i := 116) rfl))) rfl
abbrev w_PS_run : List Cond := k_PS_run :: tb
abbrev b_PS_size : ByteArray := prog_1_method_10_code
def y_PS_size : MethodName := ⟨R_PS, "size", "(I)I"⟩
abbrev k_PS_size : Cond := .code y_PS_size b_PS_size 2 (some .int)
theorem kt_PS_size : k_PS_size ∈ tb := tb_mem (List.mem_append_right _ (List.mem_append_right _ (List.mem_append_right _ (List.mem_append_left _ (List.mem_of_getElem? (i := 94) rfl))))) rfl
abbrev w_PS_size : List Cond := k_PS_size :: tb
abbrev b_PS_talk : ByteArray := prog_1_method_16_code
def y_PS_talk : MethodName := ⟨R_PS, "talk", "()I"⟩
abbrev k_PS_talk : Cond := .code y_PS_talk b_PS_talk 1 (some .int)
theorem kt_PS_talk : k_PS_talk ∈ tb := tb_mem (List.mem_append_right _ (List.mem_append_right _ (List.mem_append_right _ (List.mem_append_left _ (List.mem_of_getElem? (i := 120) rfl))))) rfl
abbrev w_PS_talk : List Cond := k_PS_talk :: tb
abbrev b_PS_talked : ByteArray := prog_1_method_17_code
def y_PS_talked : MethodName := ⟨R_PS, "talked", "(I)I"⟩
abbrev k_PS_talked : Cond := .code y_PS_talked b_PS_talked 2 (some .int)
theorem kt_PS_talked : k_PS_talked ∈ tb := tb_mem (List.mem_append_right _ (List.mem_append_right _ (List.mem_append_right _ (List.mem_append_left _ (List.mem_of_getElem? (i := 124) rfl))))) rfl
abbrev w_PS_talked : List Cond := k_PS_talked :: tb
abbrev b_PS_used : ByteArray := prog_1_method_9_code
def y_PS_used : MethodName := ⟨R_PS, "used", "()I"⟩
abbrev k_PS_used : Cond := .code y_PS_used b_PS_used 1 (some .int)
theorem kt_PS_used : k_PS_used ∈ tb := tb_mem (List.mem_append_right _ (List.mem_append_right _ (List.mem_append_right _ (List.mem_append_left _ (List.mem_of_getElem? (i := 90) rfl))))) rfl
abbrev w_PS_used : List Cond := k_PS_used :: tb
abbrev b_PS_wipe : ByteArray := prog_1_method_3_code
def y_PS_wipe : MethodName := ⟨R_PS, "wipe", "()V"⟩
abbrev k_PS_wipe : Cond := .code y_PS_wipe b_PS_wipe 1 none
theorem kt_PS_wipe : k_PS_wipe ∈ tb := tb_mem (List.mem_append_right _ (List.mem_append_left _ (List.mem_of_getElem? (i := 78) rfl))) rfl
abbrev w_PS_wipe : List Cond := k_PS_wipe :: tb
abbrev b_Lv_init : ByteArray := prog_2_method_1_code
def y_Lv_init : MethodName := ⟨R_Lv, "<init>", "()V"⟩
abbrev k_Lv_init : Cond := .code y_Lv_init b_Lv_init 1 none
theorem kt_Lv_init : k_Lv_init ∈ tb := tb_mem (List.mem_append_left _ (List.mem_of_getElem? (i := 224) rfl)) rfl
abbrev w_Lv_init : List Cond := k_Lv_init :: tb
abbrev b_Lv_begin : ByteArray := prog_2_method_2_code
def y_Lv_begin : MethodName := ⟨R_Lv, "begin", "(IIIZ)V"⟩
abbrev k_Lv_begin : Cond := .code y_Lv_begin b_Lv_begin 5 none
theorem kt_Lv_begin : k_Lv_begin ∈ tb := tb_mem (List.mem_append_right _ (List.mem_append_left _ (List.mem_of_getElem? (i := 133) rfl))) rfl
abbrev w_Lv_begin : List Cond := k_Lv_begin :: tb
abbrev b_Lv_beginWord : ByteArray := prog_2_method_3_code
def y_Lv_beginWord : MethodName := ⟨R_Lv, "beginWord", "()V"⟩
abbrev k_Lv_beginWord : Cond := .code y_Lv_beginWord b_Lv_beginWord 1 none
theorem kt_Lv_beginWord : k_Lv_beginWord ∈ tb := tb_mem (List.mem_append_right _ (List.mem_append_left _ (List.mem_of_getElem? (i := 155) rfl))) rfl
abbrev w_Lv_beginWord : List Cond := k_Lv_beginWord :: tb
abbrev b_Lv_endBraced : ByteArray := prog_2_method_4_code
def y_Lv_endBraced : MethodName := ⟨R_Lv, "endBraced", "([CII)V"⟩
abbrev k_Lv_endBraced : Cond := .code y_Lv_endBraced b_Lv_endBraced 4 none
theorem kt_Lv_endBraced : k_Lv_endBraced ∈ tb := tb_mem (List.mem_append_right _ (List.mem_append_left _ (List.mem_of_getElem? (i := 164) rfl))) rfl
abbrev w_Lv_endBraced : List Cond := k_Lv_endBraced :: tb
abbrev b_Lv_endOf : ByteArray := prog_2_method_8_code
def y_Lv_endOf : MethodName := ⟨R_Lv, "endOf", "(I)I"⟩
abbrev k_Lv_endOf : Cond := .code y_Lv_endOf b_Lv_endOf 2 (some .int)
theorem kt_Lv_endOf : k_Lv_endOf ∈ tb := tb_mem (List.mem_append_right _ (List.mem_append_right _ (List.mem_append_left _ (List.mem_of_getElem? (i := 176) rfl)))) rfl
abbrev w_Lv_endOf : List Cond := k_Lv_endOf :: tb
abbrev b_Lv_endsCommand : ByteArray := prog_2_method_5_code
def y_Lv_endsCommand : MethodName := ⟨R_Lv, "endsCommand", "(C)Z"⟩
abbrev k_Lv_endsCommand : Cond := .code y_Lv_endsCommand b_Lv_endsCommand 2 (some .boolean)
theorem kt_Lv_endsCommand : k_Lv_endsCommand ∈ tb := tb_mem (List.mem_append_right _ (List.mem_append_left _ (List.mem_of_getElem? (i := 147) rfl))) rfl
abbrev w_Lv_endsCommand : List Cond := k_Lv_endsCommand :: tb
abbrev b_Lv_isBraced : ByteArray := prog_2_method_6_code
def y_Lv_isBraced : MethodName := ⟨R_Lv, "isBraced", "(I)Z"⟩
abbrev k_Lv_isBraced : Cond := .code y_Lv_isBraced b_Lv_isBraced 2 (some .boolean)
theorem kt_Lv_isBraced : k_Lv_isBraced ∈ tb := tb_mem (List.mem_append_right _ (List.mem_append_right _ (List.mem_append_left _ (List.mem_of_getElem? (i := 125) rfl)))) rfl
abbrev w_Lv_isBraced : List Cond := k_Lv_isBraced :: tb
abbrev b_Lv_startOf : ByteArray := prog_2_method_7_code
def y_Lv_startOf : MethodName := ⟨R_Lv, "startOf", "(I)I"⟩
abbrev k_Lv_startOf : Cond := .code y_Lv_startOf b_Lv_startOf 2 (some .int)
theorem kt_Lv_startOf : k_Lv_startOf ∈ tb := tb_mem (List.mem_append_right _ (List.mem_append_right _ (List.mem_append_left _ (List.mem_of_getElem? (i := 171) rfl)))) rfl
abbrev w_Lv_startOf : List Cond := k_Lv_startOf :: tb
abbrev b_Lg_init : ByteArray := prog_3_method_1_code
def y_Lg_init : MethodName := ⟨R_Lg, "<init>", "()V"⟩
abbrev k_Lg_init : Cond := .code y_Lg_init b_Lg_init 1 none
theorem kt_Lg_init : k_Lg_init ∈ tb := tb_mem (List.mem_append_left _ (List.mem_of_getElem? (i := 71) rfl)) rfl
abbrev w_Lg_init : List Cond := k_Lg_init :: tb
abbrev b_Lg_beforeLatest : ByteArray := prog_3_method_3_code
def y_Lg_beforeLatest : MethodName := ⟨R_Lg, "beforeLatest", "(I)I"⟩
abbrev k_Lg_beforeLatest : Cond := .code y_Lg_beforeLatest b_Lg_beforeLatest 2 (some .int)
theorem kt_Lg_beforeLatest : k_Lg_beforeLatest ∈ tb := tb_mem (List.mem_append_right _ (List.mem_append_right _ (List.mem_append_right _ (List.mem_append_left _ (List.mem_of_getElem? (i := 128) rfl))))) rfl
abbrev w_Lg_beforeLatest : List Cond := k_Lg_beforeLatest :: tb
abbrev b_Lg_note : ByteArray := prog_3_method_2_code
def y_Lg_note : MethodName := ⟨R_Lg, "note", "(I)V"⟩
abbrev k_Lg_note : Cond := .code y_Lg_note b_Lg_note 2 none
theorem kt_Lg_note : k_Lg_note ∈ tb := tb_mem (List.mem_append_right _ (List.mem_append_right _ (List.mem_append_right _ (List.mem_append_left _ (List.mem_of_getElem? (i := 33) rfl))))) rfl
abbrev w_Lg_note : List Cond := k_Lg_note :: tb
abbrev b_Lg_placeOf : ByteArray := prog_3_method_4_code
def y_Lg_placeOf : MethodName := ⟨R_Lg, "placeOf", "(I)I"⟩
abbrev k_Lg_placeOf : Cond := .code y_Lg_placeOf b_Lg_placeOf 1 (some .int)
theorem kt_Lg_placeOf : k_Lg_placeOf ∈ tb := tb_mem (List.mem_append_right _ (List.mem_append_right _ (List.mem_append_right _ (List.mem_append_left _ (List.mem_of_getElem? (i := 36) rfl))))) rfl
abbrev w_Lg_placeOf : List Cond := k_Lg_placeOf :: tb
abbrev b_Pe_init : ByteArray := prog_4_method_1_code
def y_Pe_init : MethodName := ⟨R_Pe, "<init>", "()V"⟩
abbrev k_Pe_init : Cond := .code y_Pe_init b_Pe_init 1 none
theorem kt_Pe_init : k_Pe_init ∈ tb := tb_mem (List.mem_append_left _ (List.mem_of_getElem? (i := 51) rfl)) rfl
abbrev w_Pe_init : List Cond := k_Pe_init :: tb
abbrev b_Pe_addRule : ByteArray := prog_4_method_2_code
def y_Pe_addRule : MethodName := ⟨R_Pe, "addRule", "(IIII)Z"⟩
abbrev k_Pe_addRule : Cond := .code y_Pe_addRule b_Pe_addRule 5 (some .boolean)
theorem kt_Pe_addRule : k_Pe_addRule ∈ tb := tb_mem (List.mem_append_right _ (List.mem_append_left _ (List.mem_of_getElem? (i := 100) rfl))) rfl
abbrev w_Pe_addRule : List Cond := k_Pe_addRule :: tb
abbrev b_Pe_ruleFor : ByteArray := prog_4_method_7_code
def y_Pe_ruleFor : MethodName := ⟨R_Pe, "ruleFor", "(I)I"⟩
abbrev k_Pe_ruleFor : Cond := .code y_Pe_ruleFor b_Pe_ruleFor 3 (some .int)
theorem kt_Pe_ruleFor : k_Pe_ruleFor ∈ tb := tb_mem (List.mem_append_right _ (List.mem_append_right _ (List.mem_append_right _ (List.mem_append_left _ (List.mem_of_getElem? (i := 64) rfl))))) rfl
abbrev w_Pe_ruleFor : List Cond := k_Pe_ruleFor :: tb
abbrev b_Pe_send : ByteArray := prog_4_method_4_code
def y_Pe_send : MethodName := ⟨R_Pe, "send", "(LPeerScripts$Values;I)Z"⟩
abbrev k_Pe_send : Cond := .code y_Pe_send b_Pe_send 6 (some .boolean)
theorem kt_Pe_send : k_Pe_send ∈ tb := tb_mem (List.mem_append_right _ (List.mem_append_right _ (List.mem_append_right _ (List.mem_append_left _ (List.mem_of_getElem? (i := 27) rfl))))) rfl
abbrev w_Pe_send : List Cond := k_Pe_send :: tb
abbrev b_Pe_startAnew : ByteArray := prog_4_method_3_code
def y_Pe_startAnew : MethodName := ⟨R_Pe, "startAnew", "()V"⟩
abbrev k_Pe_startAnew : Cond := .code y_Pe_startAnew b_Pe_startAnew 1 none
theorem kt_Pe_startAnew : k_Pe_startAnew ∈ tb := tb_mem (List.mem_append_right _ (List.mem_append_left _ (List.mem_of_getElem? (i := 108) rfl))) rfl
abbrev w_Pe_startAnew : List Cond := k_Pe_startAnew :: tb
abbrev b_Pe_takeInput : ByteArray := prog_4_method_6_code
def y_Pe_takeInput : MethodName := ⟨R_Pe, "takeInput", "()I"⟩
abbrev k_Pe_takeInput : Cond := .code y_Pe_takeInput b_Pe_takeInput 2 (some .int)
theorem kt_Pe_takeInput : k_Pe_takeInput ∈ tb := tb_mem (List.mem_append_right _ (List.mem_append_right _ (List.mem_append_right _ (List.mem_append_left _ (List.mem_of_getElem? (i := 59) rfl))))) rfl
abbrev w_Pe_takeInput : List Cond := k_Pe_takeInput :: tb
abbrev b_Pe_tick : ByteArray := prog_4_method_5_code
def y_Pe_tick : MethodName := ⟨R_Pe, "tick", "()V"⟩
abbrev k_Pe_tick : Cond := .code y_Pe_tick b_Pe_tick 2 none
theorem kt_Pe_tick : k_Pe_tick ∈ tb := tb_mem (List.mem_append_right _ (List.mem_append_right _ (List.mem_append_right _ (List.mem_append_left _ (List.mem_of_getElem? (i := 55) rfl))))) rfl
abbrev w_Pe_tick : List Cond := k_Pe_tick :: tb
abbrev b_Pd_init : ByteArray := prog_5_method_1_code
def y_Pd_init : MethodName := ⟨R_Pd, "<init>", "()V"⟩
abbrev k_Pd_init : Cond := .code y_Pd_init b_Pd_init 1 none
theorem kt_Pd_init : k_Pd_init ∈ tb := tb_mem (List.mem_append_left _ (List.mem_of_getElem? (i := 151) rfl)) rfl
abbrev w_Pd_init : List Cond := k_Pd_init :: tb
abbrev b_Pd_define : ByteArray := prog_5_method_4_code
def y_Pd_define : MethodName := ⟨R_Pd, "define", "(IIII)V"⟩
abbrev k_Pd_define : Cond := .code y_Pd_define b_Pd_define 5 none
theorem kt_Pd_define : k_Pd_define ∈ tb := tb_mem (List.mem_append_right _ (List.mem_append_right _ (List.mem_append_right _ (List.mem_append_left _ (List.mem_of_getElem? (i := 15) rfl))))) rfl
abbrev w_Pd_define : List Cond := k_Pd_define :: tb
abbrev b_Pd_forgetAll : ByteArray := prog_5_method_2_code
def y_Pd_forgetAll : MethodName := ⟨R_Pd, "forgetAll", "()V"⟩
abbrev k_Pd_forgetAll : Cond := .code y_Pd_forgetAll b_Pd_forgetAll 1 none
theorem kt_Pd_forgetAll : k_Pd_forgetAll ∈ tb := tb_mem (List.mem_append_right _ (List.mem_append_left _ (List.mem_of_getElem? (i := 86) rfl))) rfl
abbrev w_Pd_forgetAll : List Cond := k_Pd_forgetAll :: tb
abbrev b_Pd_has : ByteArray := prog_5_method_3_code
def y_Pd_has : MethodName := ⟨R_Pd, "has", "(I)Z"⟩
abbrev k_Pd_has : Cond := .code y_Pd_has b_Pd_has 2 (some .boolean)
theorem kt_Pd_has : k_Pd_has ∈ tb := tb_mem (List.mem_append_right _ (List.mem_append_left _ (List.mem_of_getElem? (i := 239) rfl))) rfl
abbrev w_Pd_has : List Cond := k_Pd_has :: tb
abbrev b_Rn_init : ByteArray := prog_6_method_1_code
def y_Rn_init : MethodName := ⟨R_Rn, "<init>", "(LPeerScripts$Text;LPeerScripts$Peer;)V"⟩
abbrev k_Rn_init : Cond := .code y_Rn_init b_Rn_init 4 none
theorem kt_Rn_init : k_Rn_init ∈ tb := tb_mem (List.mem_append_left _ (List.mem_of_getElem? (i := 121) rfl)) rfl
abbrev w_Rn_init : List Cond := k_Rn_init :: tb
abbrev b_Rn_callProcedure : ByteArray := prog_6_method_25_code
def y_Rn_callProcedure : MethodName := ⟨R_Rn, "callProcedure", "(LPeerScripts$Level;II)I"⟩
abbrev k_Rn_callProcedure : Cond := .code y_Rn_callProcedure b_Rn_callProcedure 6 (some .int)
theorem kt_Rn_callProcedure : k_Rn_callProcedure ∈ tb := tb_mem (List.mem_append_right _ (List.mem_append_right _ (List.mem_append_right _ (List.mem_append_left _ (List.mem_of_getElem? (i := 69) rfl))))) rfl
abbrev w_Rn_callProcedure : List Cond := k_Rn_callProcedure :: tb
abbrev b_Rn_catchCode : ByteArray := prog_6_method_24_code
def y_Rn_catchCode : MethodName := ⟨R_Rn, "catchCode", "(LPeerScripts$Level;I)I"⟩
abbrev k_Rn_catchCode : Cond := .code y_Rn_catchCode b_Rn_catchCode 5 (some .int)
theorem kt_Rn_catchCode : k_Rn_catchCode ∈ tb := tb_mem (List.mem_append_right _ (List.mem_append_right _ (List.mem_append_right _ (List.mem_append_left _ (List.mem_of_getElem? (i := 23) rfl))))) rfl
abbrev w_Rn_catchCode : List Cond := k_Rn_catchCode :: tb
abbrev b_Rn_checkBehind : ByteArray := prog_6_method_10_code
def y_Rn_checkBehind : MethodName := ⟨R_Rn, "checkBehind", "(LPeerScripts$Level;)I"⟩
abbrev k_Rn_checkBehind : Cond := .code y_Rn_checkBehind b_Rn_checkBehind 3 (some .int)
theorem kt_Rn_checkBehind : k_Rn_checkBehind ∈ tb := tb_mem (List.mem_append_right _ (List.mem_append_left _ (List.mem_of_getElem? (i := 179) rfl))) rfl
abbrev w_Rn_checkBehind : List Cond := k_Rn_checkBehind :: tb
abbrev b_Rn_checkCommand : ByteArray := prog_6_method_13_code
def y_Rn_checkCommand : MethodName := ⟨R_Rn, "checkCommand", "(LPeerScripts$Level;)I"⟩
abbrev k_Rn_checkCommand : Cond := .code y_Rn_checkCommand b_Rn_checkCommand 6 (some .int)
theorem kt_Rn_checkCommand : k_Rn_checkCommand ∈ tb := tb_mem (List.mem_append_right _ (List.mem_append_left _ (List.mem_of_getElem? (i := 216) rfl))) rfl
abbrev w_Rn_checkCommand : List Cond := k_Rn_checkCommand :: tb
abbrev b_Rn_choose : ByteArray := prog_6_method_22_code
def y_Rn_choose : MethodName := ⟨R_Rn, "choose", "(LPeerScripts$Level;I)I"⟩
abbrev k_Rn_choose : Cond := .code y_Rn_choose b_Rn_choose 5 (some .int)
theorem kt_Rn_choose : k_Rn_choose ∈ tb := tb_mem (List.mem_append_right _ (List.mem_append_right _ (List.mem_append_right _ (List.mem_append_left _ (List.mem_of_getElem? (i := 3) rfl))))) rfl
abbrev w_Rn_choose : List Cond := k_Rn_choose :: tb
abbrev b_Rn_doCommand : ByteArray := prog_6_method_17_code
def y_Rn_doCommand : MethodName := ⟨R_Rn, "doCommand", "(LPeerScripts$Level;I)I"⟩
abbrev k_Rn_doCommand : Cond := .code y_Rn_doCommand b_Rn_doCommand 5 (some .int)
theorem kt_Rn_doCommand : k_Rn_doCommand ∈ tb := tb_mem (List.mem_append_right _ (List.mem_append_right _ (List.mem_append_left _ (List.mem_of_getElem? (i := 139) rfl)))) rfl
abbrev w_Rn_doCommand : List Cond := k_Rn_doCommand :: tb
abbrev b_Rn_endOut : ByteArray := prog_6_method_5_code
def y_Rn_endOut : MethodName := ⟨R_Rn, "endOut", "()I"⟩
abbrev k_Rn_endOut : Cond := .code y_Rn_endOut b_Rn_endOut 1 (some .int)
theorem kt_Rn_endOut : k_Rn_endOut ∈ tb := tb_mem (List.mem_append_right _ (List.mem_append_left _ (List.mem_of_getElem? (i := 224) rfl))) rfl
abbrev w_Rn_endOut : List Cond := k_Rn_endOut :: tb
abbrev b_Rn_errorOf : ByteArray := prog_6_method_16_code
def y_Rn_errorOf : MethodName := ⟨R_Rn, "errorOf", "(LPeerScripts$Values;IC)I"⟩
abbrev k_Rn_errorOf : Cond := .code y_Rn_errorOf b_Rn_errorOf 4 (some .int)
theorem kt_Rn_errorOf : k_Rn_errorOf ∈ tb := tb_mem (List.mem_append_right _ (List.mem_append_right _ (List.mem_append_left _ (List.mem_of_getElem? (i := 128) rfl)))) rfl
abbrev w_Rn_errorOf : List Cond := k_Rn_errorOf :: tb
abbrev b_Rn_fail : ByteArray := prog_6_method_4_code
def y_Rn_fail : MethodName := ⟨R_Rn, "fail", "(I)I"⟩
abbrev k_Rn_fail : Cond := .code y_Rn_fail b_Rn_fail 2 (some .int)
theorem kt_Rn_fail : k_Rn_fail ∈ tb := tb_mem (List.mem_append_right _ (List.mem_append_left _ (List.mem_of_getElem? (i := 124) rfl))) rfl
abbrev w_Rn_fail : List Cond := k_Rn_fail :: tb
abbrev b_Rn_formOf : ByteArray := prog_6_method_15_code
def y_Rn_formOf : MethodName := ⟨R_Rn, "formOf", "(II)Ljava/lang/String;"⟩
abbrev k_Rn_formOf : Cond := .code y_Rn_formOf b_Rn_formOf 2 (some (FieldType.object "java/lang/String"))
theorem kt_Rn_formOf : k_Rn_formOf ∈ tb := tb_mem (List.mem_append_right _ (List.mem_append_right _ (List.mem_append_left _ (List.mem_of_getElem? (i := 85) rfl)))) rfl
abbrev w_Rn_formOf : List Cond := k_Rn_formOf :: tb
abbrev b_Rn_grow : ByteArray := prog_6_method_19_code
def y_Rn_grow : MethodName := ⟨R_Rn, "grow", "(LPeerScripts$Level;)I"⟩
abbrev k_Rn_grow : Cond := .code y_Rn_grow b_Rn_grow 5 (some .int)
theorem kt_Rn_grow : k_Rn_grow ∈ tb := tb_mem (List.mem_append_right _ (List.mem_append_right _ (List.mem_append_left _ (List.mem_of_getElem? (i := 151) rfl)))) rfl
abbrev w_Rn_grow : List Cond := k_Rn_grow :: tb
abbrev b_Rn_isCommand : ByteArray := prog_6_method_14_code
def y_Rn_isCommand : MethodName := ⟨R_Rn, "isCommand", "(I)Z"⟩
abbrev k_Rn_isCommand : Cond := .code y_Rn_isCommand b_Rn_isCommand 2 (some .boolean)
theorem kt_Rn_isCommand : k_Rn_isCommand ∈ tb := tb_mem (List.mem_append_right _ (List.mem_append_left _ (List.mem_of_getElem? (i := 232) rfl))) rfl
abbrev w_Rn_isCommand : List Cond := k_Rn_isCommand :: tb
abbrev b_Rn_leave : ByteArray := prog_6_method_3_code
def y_Rn_leave : MethodName := ⟨R_Rn, "leave", "(I)I"⟩
abbrev k_Rn_leave : Cond := .code y_Rn_leave b_Rn_leave 2 (some .int)
theorem kt_Rn_leave : k_Rn_leave ∈ tb := tb_mem (List.mem_append_right _ (List.mem_append_right _ (List.mem_append_right _ (List.mem_append_left _ (List.mem_of_getElem? (i := 74) rfl))))) rfl
abbrev w_Rn_leave : List Cond := k_Rn_leave :: tb
abbrev b_Rn_readBraced : ByteArray := prog_6_method_9_code
def y_Rn_readBraced : MethodName := ⟨R_Rn, "readBraced", "(LPeerScripts$Level;)I"⟩
abbrev k_Rn_readBraced : Cond := .code y_Rn_readBraced b_Rn_readBraced 5 (some .int)
theorem kt_Rn_readBraced : k_Rn_readBraced ∈ tb := tb_mem (List.mem_append_right _ (List.mem_append_left _ (List.mem_of_getElem? (i := 160) rfl))) rfl
abbrev w_Rn_readBraced : List Cond := k_Rn_readBraced :: tb
abbrev b_Rn_readCommand : ByteArray := prog_6_method_7_code
def y_Rn_readCommand : MethodName := ⟨R_Rn, "readCommand", "(LPeerScripts$Level;I)I"⟩
abbrev k_Rn_readCommand : Cond := .code y_Rn_readCommand b_Rn_readCommand 6 (some .int)
theorem kt_Rn_readCommand : k_Rn_readCommand ∈ tb := tb_mem (List.mem_append_right _ (List.mem_append_left _ (List.mem_of_getElem? (i := 143) rfl))) rfl
abbrev w_Rn_readCommand : List Cond := k_Rn_readCommand :: tb
abbrev b_Rn_readPiece : ByteArray := prog_6_method_12_code
def y_Rn_readPiece : MethodName := ⟨R_Rn, "readPiece", "(LPeerScripts$Level;IC)I"⟩
abbrev k_Rn_readPiece : Cond := .code y_Rn_readPiece b_Rn_readPiece 7 (some .int)
theorem kt_Rn_readPiece : k_Rn_readPiece ∈ tb := tb_mem (List.mem_append_right _ (List.mem_append_left _ (List.mem_of_getElem? (i := 187) rfl))) rfl
abbrev w_Rn_readPiece : List Cond := k_Rn_readPiece :: tb
abbrev b_Rn_readPieces : ByteArray := prog_6_method_11_code
def y_Rn_readPieces : MethodName := ⟨R_Rn, "readPieces", "(LPeerScripts$Level;IZ)I"⟩
abbrev k_Rn_readPieces : Cond := .code y_Rn_readPieces b_Rn_readPieces 7 (some .int)
theorem kt_Rn_readPieces : k_Rn_readPieces ∈ tb := tb_mem (List.mem_append_right _ (List.mem_append_left _ (List.mem_of_getElem? (i := 183) rfl))) rfl
abbrev w_Rn_readPieces : List Cond := k_Rn_readPieces :: tb
abbrev b_Rn_readWord : ByteArray := prog_6_method_8_code
def y_Rn_readWord : MethodName := ⟨R_Rn, "readWord", "(LPeerScripts$Level;IC)I"⟩
abbrev k_Rn_readWord : Cond := .code y_Rn_readWord b_Rn_readWord 6 (some .int)
theorem kt_Rn_readWord : k_Rn_readWord ∈ tb := tb_mem (List.mem_append_right _ (List.mem_append_left _ (List.mem_of_getElem? (i := 151) rfl))) rfl
abbrev w_Rn_readWord : List Cond := k_Rn_readWord :: tb
abbrev b_Rn_repeat : ByteArray := prog_6_method_23_code
def y_Rn_repeat : MethodName := ⟨R_Rn, "repeat", "(LPeerScripts$Level;I)I"⟩
abbrev k_Rn_repeat : Cond := .code y_Rn_repeat b_Rn_repeat 6 (some .int)
theorem kt_Rn_repeat : k_Rn_repeat ∈ tb := tb_mem (List.mem_append_right _ (List.mem_append_right _ (List.mem_append_right _ (List.mem_append_left _ (List.mem_of_getElem? (i := 11) rfl))))) rfl
abbrev w_Rn_repeat : List Cond := k_Rn_repeat :: tb
abbrev b_Rn_runScript : ByteArray := prog_6_method_2_code
def y_Rn_runScript : MethodName := ⟨R_Rn, "runScript", "(IIIIZ)I"⟩
abbrev k_Rn_runScript : Cond := .code y_Rn_runScript b_Rn_runScript 9 (some .int)
theorem kt_Rn_runScript : k_Rn_runScript ∈ tb := tb_mem (List.mem_append_right _ (List.mem_append_left _ (List.mem_of_getElem? (i := 120) rfl))) rfl
abbrev w_Rn_runScript : List Cond := k_Rn_runScript :: tb
abbrev b_Rn_runWord : ByteArray := prog_6_method_21_code
def y_Rn_runWord : MethodName := ⟨R_Rn, "runWord", "(LPeerScripts$Level;II)I"⟩
abbrev k_Rn_runWord : Cond := .code y_Rn_runWord b_Rn_runWord 4 (some .int)
theorem kt_Rn_runWord : k_Rn_runWord ∈ tb := tb_mem (List.mem_append_right _ (List.mem_append_right _ (List.mem_append_right _ (List.mem_append_left _ (List.mem_of_getElem? (i := 7) rfl))))) rfl
abbrev w_Rn_runWord : List Cond := k_Rn_runWord :: tb
abbrev b_Rn_setOrShow : ByteArray := prog_6_method_18_code
def y_Rn_setOrShow : MethodName := ⟨R_Rn, "setOrShow", "(LPeerScripts$Level;)I"⟩
abbrev k_Rn_setOrShow : Cond := .code y_Rn_setOrShow b_Rn_setOrShow 4 (some .int)
theorem kt_Rn_setOrShow : k_Rn_setOrShow ∈ tb := tb_mem (List.mem_append_right _ (List.mem_append_right _ (List.mem_append_left _ (List.mem_of_getElem? (i := 143) rfl)))) rfl
abbrev w_Rn_setOrShow : List Cond := k_Rn_setOrShow :: tb
abbrev b_Rn_showSum : ByteArray := prog_6_method_20_code
def y_Rn_showSum : MethodName := ⟨R_Rn, "showSum", "(LPeerScripts$Level;)I"⟩
abbrev k_Rn_showSum : Cond := .code y_Rn_showSum b_Rn_showSum 3 (some .int)
theorem kt_Rn_showSum : k_Rn_showSum ∈ tb := tb_mem (List.mem_append_right _ (List.mem_append_right _ (List.mem_append_left _ (List.mem_of_getElem? (i := 167) rfl)))) rfl
abbrev w_Rn_showSum : List Cond := k_Rn_showSum :: tb
abbrev b_Rn_takeFitting : ByteArray := prog_6_method_27_code
def y_Rn_takeFitting : MethodName := ⟨R_Rn, "takeFitting", "(LPeerScripts$Level;)I"⟩
abbrev k_Rn_takeFitting : Cond := .code y_Rn_takeFitting b_Rn_takeFitting 7 (some .int)
theorem kt_Rn_takeFitting : k_Rn_takeFitting ∈ tb := tb_mem (List.mem_append_right _ (List.mem_append_right _ (List.mem_append_right _ (List.mem_append_left _ (List.mem_of_getElem? (i := 47) rfl))))) rfl
abbrev w_Rn_takeFitting : List Cond := k_Rn_takeFitting :: tb
abbrev b_Rn_takeFuel : ByteArray := prog_6_method_6_code
def y_Rn_takeFuel : MethodName := ⟨R_Rn, "takeFuel", "()Z"⟩
abbrev k_Rn_takeFuel : Cond := .code y_Rn_takeFuel b_Rn_takeFuel 1 (some .boolean)
theorem kt_Rn_takeFuel : k_Rn_takeFuel ∈ tb := tb_mem (List.mem_append_right _ (List.mem_append_left _ (List.mem_of_getElem? (i := 220) rfl))) rfl
abbrev w_Rn_takeFuel : List Cond := k_Rn_takeFuel :: tb
abbrev b_Rn_waitForPeer : ByteArray := prog_6_method_26_code
def y_Rn_waitForPeer : MethodName := ⟨R_Rn, "waitForPeer", "(LPeerScripts$Level;I)I"⟩
abbrev k_Rn_waitForPeer : Cond := .code y_Rn_waitForPeer b_Rn_waitForPeer 6 (some .int)
theorem kt_Rn_waitForPeer : k_Rn_waitForPeer ∈ tb := tb_mem (List.mem_append_right _ (List.mem_append_right _ (List.mem_append_right _ (List.mem_append_left _ (List.mem_of_getElem? (i := 43) rfl))))) rfl
abbrev w_Rn_waitForPeer : List Cond := k_Rn_waitForPeer :: tb
abbrev b_Sm_init : ByteArray := prog_7_method_1_code
def y_Sm_init : MethodName := ⟨R_Sm, "<init>", "([CLPeerScripts$Variables;)V"⟩
abbrev k_Sm_init : Cond := .code y_Sm_init b_Sm_init 3 none
theorem kt_Sm_init : k_Sm_init ∈ tb := tb_mem (List.mem_append_left _ (List.mem_of_getElem? (i := 175) rfl)) rfl
abbrev w_Sm_init : List Cond := k_Sm_init :: tb
abbrev b_Sm_applyDownTo : ByteArray := prog_7_method_10_code
def y_Sm_applyDownTo : MethodName := ⟨R_Sm, "applyDownTo", "(I)V"⟩
abbrev k_Sm_applyDownTo : Cond := .code y_Sm_applyDownTo b_Sm_applyDownTo 7 none
theorem kt_Sm_applyDownTo : k_Sm_applyDownTo ∈ tb := tb_mem (List.mem_append_right _ (List.mem_append_right _ (List.mem_append_left _ (List.mem_of_getElem? (i := 194) rfl)))) rfl
abbrev w_Sm_applyDownTo : List Cond := k_Sm_applyDownTo :: tb
abbrev b_Sm_begin : ByteArray := prog_7_method_3_code
def y_Sm_begin : MethodName := ⟨R_Sm, "begin", "(III)V"⟩
abbrev k_Sm_begin : Cond := .code y_Sm_begin b_Sm_begin 4 none
theorem kt_Sm_begin : k_Sm_begin ∈ tb := tb_mem (List.mem_append_right _ (List.mem_append_right _ (List.mem_append_left _ (List.mem_of_getElem? (i := 184) rfl)))) rfl
abbrev w_Sm_begin : List Cond := k_Sm_begin :: tb
abbrev b_Sm_changed : ByteArray := prog_7_method_11_code
def y_Sm_changed : MethodName := ⟨R_Sm, "changed", "(CI)I"⟩
abbrev k_Sm_changed : Cond := .code y_Sm_changed b_Sm_changed 2 (some .int)
theorem kt_Sm_changed : k_Sm_changed ∈ tb := tb_mem (List.mem_append_right _ (List.mem_append_right _ (List.mem_append_left _ (List.mem_of_getElem? (i := 200) rfl)))) rfl
abbrev w_Sm_changed : List Cond := k_Sm_changed :: tb
abbrev b_Sm_joined : ByteArray := prog_7_method_12_code
def y_Sm_joined : MethodName := ⟨R_Sm, "joined", "(CII)I"⟩
abbrev k_Sm_joined : Cond := .code y_Sm_joined b_Sm_joined 4 (some .int)
theorem kt_Sm_joined : k_Sm_joined ∈ tb := tb_mem (List.mem_append_right _ (List.mem_append_right _ (List.mem_append_left _ (List.mem_of_getElem? (i := 204) rfl)))) rfl
abbrev w_Sm_joined : List Cond := k_Sm_joined :: tb
abbrev b_Sm_pushOperand : ByteArray := prog_7_method_8_code
def y_Sm_pushOperand : MethodName := ⟨R_Sm, "pushOperand", "(I)V"⟩
abbrev k_Sm_pushOperand : Cond := .code y_Sm_pushOperand b_Sm_pushOperand 2 none
theorem kt_Sm_pushOperand : k_Sm_pushOperand ∈ tb := tb_mem (List.mem_append_right _ (List.mem_append_right _ (List.mem_append_left _ (List.mem_of_getElem? (i := 221) rfl)))) rfl
abbrev w_Sm_pushOperand : List Cond := k_Sm_pushOperand :: tb
abbrev b_Sm_pushSign : ByteArray := prog_7_method_9_code
def y_Sm_pushSign : MethodName := ⟨R_Sm, "pushSign", "(C)V"⟩
abbrev k_Sm_pushSign : Cond := .code y_Sm_pushSign b_Sm_pushSign 2 none
theorem kt_Sm_pushSign : k_Sm_pushSign ∈ tb := tb_mem (List.mem_append_right _ (List.mem_append_right _ (List.mem_append_left _ (List.mem_of_getElem? (i := 208) rfl)))) rfl
abbrev w_Sm_pushSign : List Cond := k_Sm_pushSign :: tb
abbrev b_Sm_rankOf : ByteArray := prog_7_method_13_code
def y_Sm_rankOf : MethodName := ⟨R_Sm, "rankOf", "(C)I"⟩
abbrev k_Sm_rankOf : Cond := .code y_Sm_rankOf b_Sm_rankOf 1 (some .int)
theorem kt_Sm_rankOf : k_Sm_rankOf ∈ tb := tb_mem (List.mem_append_right _ (List.mem_append_right _ (List.mem_append_left _ (List.mem_of_getElem? (i := 197) rfl)))) rfl
abbrev w_Sm_rankOf : List Cond := k_Sm_rankOf :: tb
abbrev b_Sm_takeNumber : ByteArray := prog_7_method_5_code
def y_Sm_takeNumber : MethodName := ⟨R_Sm, "takeNumber", "(C)Z"⟩
abbrev k_Sm_takeNumber : Cond := .code y_Sm_takeNumber b_Sm_takeNumber 4 (some .boolean)
theorem kt_Sm_takeNumber : k_Sm_takeNumber ∈ tb := tb_mem (List.mem_append_right _ (List.mem_append_right _ (List.mem_append_left _ (List.mem_of_getElem? (i := 226) rfl)))) rfl
abbrev w_Sm_takeNumber : List Cond := k_Sm_takeNumber :: tb
abbrev b_Sm_takeSign : ByteArray := prog_7_method_7_code
def y_Sm_takeSign : MethodName := ⟨R_Sm, "takeSign", "(C)Z"⟩
abbrev k_Sm_takeSign : Cond := .code y_Sm_takeSign b_Sm_takeSign 3 (some .boolean)
theorem kt_Sm_takeSign : k_Sm_takeSign ∈ tb := tb_mem (List.mem_append_right _ (List.mem_append_right _ (List.mem_append_left _ (List.mem_of_getElem? (i := 190) rfl)))) rfl
abbrev w_Sm_takeSign : List Cond := k_Sm_takeSign :: tb
abbrev b_Sm_takeSignBefore : ByteArray := prog_7_method_4_code
def y_Sm_takeSignBefore : MethodName := ⟨R_Sm, "takeSignBefore", "(C)Z"⟩
abbrev k_Sm_takeSignBefore : Cond := .code y_Sm_takeSignBefore b_Sm_takeSignBefore 2 (some .boolean)
theorem kt_Sm_takeSignBefore : k_Sm_takeSignBefore ∈ tb := tb_mem (List.mem_append_right _ (List.mem_append_right _ (List.mem_append_left _ (List.mem_of_getElem? (i := 230) rfl)))) rfl
abbrev w_Sm_takeSignBefore : List Cond := k_Sm_takeSignBefore :: tb
abbrev b_Sm_takeVariable : ByteArray := prog_7_method_6_code
def y_Sm_takeVariable : MethodName := ⟨R_Sm, "takeVariable", "()Z"⟩
abbrev k_Sm_takeVariable : Cond := .code y_Sm_takeVariable b_Sm_takeVariable 4 (some .boolean)
theorem kt_Sm_takeVariable : k_Sm_takeVariable ∈ tb := tb_mem (List.mem_append_right _ (List.mem_append_right _ (List.mem_append_left _ (List.mem_of_getElem? (i := 212) rfl)))) rfl
abbrev w_Sm_takeVariable : List Cond := k_Sm_takeVariable :: tb
abbrev b_Sm_workOut : ByteArray := prog_7_method_2_code
def y_Sm_workOut : MethodName := ⟨R_Sm, "workOut", "(III)I"⟩
abbrev k_Sm_workOut : Cond := .code y_Sm_workOut b_Sm_workOut 7 (some .int)
theorem kt_Sm_workOut : k_Sm_workOut ∈ tb := tb_mem (List.mem_append_right _ (List.mem_append_right _ (List.mem_append_left _ (List.mem_of_getElem? (i := 180) rfl)))) rfl
abbrev w_Sm_workOut : List Cond := k_Sm_workOut :: tb
abbrev b_Tx_init : ByteArray := prog_8_method_1_code
def y_Tx_init : MethodName := ⟨R_Tx, "<init>", "()V"⟩
abbrev k_Tx_init : Cond := .code y_Tx_init b_Tx_init 1 none
theorem kt_Tx_init : k_Tx_init ∈ tb := tb_mem (List.mem_append_left _ (List.mem_of_getElem? (i := 32) rfl)) rfl
abbrev w_Tx_init : List Cond := k_Tx_init :: tb
abbrev b_Vl_init : ByteArray := prog_9_method_1_code
def y_Vl_init : MethodName := ⟨R_Vl, "<init>", "(I)V"⟩
abbrev k_Vl_init : Cond := .code y_Vl_init b_Vl_init 2 none
theorem kt_Vl_init : k_Vl_init ∈ tb := tb_mem (List.mem_append_left _ (List.mem_of_getElem? (i := 57) rfl)) rfl
abbrev w_Vl_init : List Cond := k_Vl_init :: tb
abbrev b_Vl_append : ByteArray := prog_9_method_8_code
def y_Vl_append : MethodName := ⟨R_Vl, "append", "(II)Z"⟩
abbrev k_Vl_append : Cond := .code y_Vl_append b_Vl_append 3 (some .boolean)
theorem kt_Vl_append : k_Vl_append ∈ tb := tb_mem (List.mem_append_right _ (List.mem_append_left _ (List.mem_of_getElem? (i := 129) rfl))) rfl
abbrev w_Vl_append : List Cond := k_Vl_append :: tb
abbrev b_Vl_appendValue : ByteArray := prog_9_method_9_code
def y_Vl_appendValue : MethodName := ⟨R_Vl, "appendValue", "(ILPeerScripts$Values;I)Z"⟩
abbrev k_Vl_appendValue : Cond := .code y_Vl_appendValue b_Vl_appendValue 7 (some .boolean)
theorem kt_Vl_appendValue : k_Vl_appendValue ∈ tb := tb_mem (List.mem_append_right _ (List.mem_append_left _ (List.mem_of_getElem? (i := 192) rfl))) rfl
abbrev w_Vl_appendValue : List Cond := k_Vl_appendValue :: tb
abbrev b_Vl_copy : ByteArray := prog_9_method_10_code
def y_Vl_copy : MethodName := ⟨R_Vl, "copy", "(ILPeerScripts$Values;I)V"⟩
abbrev k_Vl_copy : Cond := .code y_Vl_copy b_Vl_copy 4 none
theorem kt_Vl_copy : k_Vl_copy ∈ tb := tb_mem (List.mem_append_right _ (List.mem_append_right _ (List.mem_append_left _ (List.mem_of_getElem? (i := 147) rfl)))) rfl
abbrev w_Vl_copy : List Cond := k_Vl_copy :: tb
abbrev b_Vl_copyStretch : ByteArray := prog_9_method_11_code
def y_Vl_copyStretch : MethodName := ⟨R_Vl, "copyStretch", "(I[CII)V"⟩
abbrev k_Vl_copyStretch : Cond := .code y_Vl_copyStretch b_Vl_copyStretch 6 none
theorem kt_Vl_copyStretch : k_Vl_copyStretch ∈ tb := tb_mem (List.mem_append_right _ (List.mem_append_left _ (List.mem_of_getElem? (i := 168) rfl))) rfl
abbrev w_Vl_copyStretch : List Cond := k_Vl_copyStretch :: tb
abbrev b_Vl_dropFirst : ByteArray := prog_9_method_12_code
def y_Vl_dropFirst : MethodName := ⟨R_Vl, "dropFirst", "(II)V"⟩
abbrev k_Vl_dropFirst : Cond := .code y_Vl_dropFirst b_Vl_dropFirst 4 none
theorem kt_Vl_dropFirst : k_Vl_dropFirst ∈ tb := tb_mem (List.mem_append_right _ (List.mem_append_right _ (List.mem_append_right _ (List.mem_append_left _ (List.mem_of_getElem? (i := 51) rfl))))) rfl
abbrev w_Vl_dropFirst : List Cond := k_Vl_dropFirst :: tb
abbrev b_Vl_empty : ByteArray := prog_9_method_7_code
def y_Vl_empty : MethodName := ⟨R_Vl, "empty", "(I)V"⟩
abbrev k_Vl_empty : Cond := .code y_Vl_empty b_Vl_empty 2 none
theorem kt_Vl_empty : k_Vl_empty ∈ tb := tb_mem (List.mem_append_right _ (List.mem_append_left _ (List.mem_of_getElem? (i := 112) rfl))) rfl
abbrev w_Vl_empty : List Cond := k_Vl_empty :: tb
abbrev b_Vl_fittingBeginnings : ByteArray := prog_9_method_16_code
def y_Vl_fittingBeginnings : MethodName := ⟨R_Vl, "fittingBeginnings", "(ILPeerScripts$Values;I)I"⟩
abbrev k_Vl_fittingBeginnings : Cond := .code y_Vl_fittingBeginnings b_Vl_fittingBeginnings 10 (some .int)
theorem kt_Vl_fittingBeginnings : k_Vl_fittingBeginnings ∈ tb := tb_mem (List.mem_append_right _ (List.mem_append_right _ (List.mem_append_left _ (List.mem_of_getElem? (i := 234) rfl)))) rfl
abbrev w_Vl_fittingBeginnings : List Cond := k_Vl_fittingBeginnings :: tb
abbrev b_Vl_forgetAll : ByteArray := prog_9_method_3_code
def y_Vl_forgetAll : MethodName := ⟨R_Vl, "forgetAll", "()V"⟩
abbrev k_Vl_forgetAll : Cond := .code y_Vl_forgetAll b_Vl_forgetAll 1 none
theorem kt_Vl_forgetAll : k_Vl_forgetAll ∈ tb := tb_mem (List.mem_append_left _ (List.mem_of_getElem? (i := 135) rfl)) rfl
abbrev w_Vl_forgetAll : List Cond := k_Vl_forgetAll :: tb
abbrev b_Vl_holds : ByteArray := prog_9_method_2_code
def y_Vl_holds : MethodName := ⟨R_Vl, "holds", "(I)Z"⟩
abbrev k_Vl_holds : Cond := .code y_Vl_holds b_Vl_holds 2 (some .boolean)
theorem kt_Vl_holds : k_Vl_holds ∈ tb := tb_mem (List.mem_append_right _ (List.mem_append_left _ (List.mem_of_getElem? (i := 172) rfl))) rfl
abbrev w_Vl_holds : List Cond := k_Vl_holds :: tb
abbrev b_Vl_isNumber : ByteArray := prog_9_method_14_code
def y_Vl_isNumber : MethodName := ⟨R_Vl, "isNumber", "(I)Z"⟩
abbrev k_Vl_isNumber : Cond := .code y_Vl_isNumber b_Vl_isNumber 6 (some .boolean)
theorem kt_Vl_isNumber : k_Vl_isNumber ∈ tb := tb_mem (List.mem_append_right _ (List.mem_append_right _ (List.mem_append_left _ (List.mem_of_getElem? (i := 132) rfl)))) rfl
abbrev w_Vl_isNumber : List Cond := k_Vl_isNumber :: tb
abbrev b_Vl_letterOf : ByteArray := prog_9_method_5_code
def y_Vl_letterOf : MethodName := ⟨R_Vl, "letterOf", "(II)I"⟩
abbrev k_Vl_letterOf : Cond := .code y_Vl_letterOf b_Vl_letterOf 3 (some .int)
theorem kt_Vl_letterOf : k_Vl_letterOf ∈ tb := tb_mem (List.mem_append_right _ (List.mem_append_left _ (List.mem_of_getElem? (i := 200) rfl))) rfl
abbrev w_Vl_letterOf : List Cond := k_Vl_letterOf :: tb
abbrev b_Vl_nameOf : ByteArray := prog_9_method_6_code
def y_Vl_nameOf : MethodName := ⟨R_Vl, "nameOf", "(I)I"⟩
abbrev k_Vl_nameOf : Cond := .code y_Vl_nameOf b_Vl_nameOf 2 (some .int)
theorem kt_Vl_nameOf : k_Vl_nameOf ∈ tb := tb_mem (List.mem_append_right _ (List.mem_append_left _ (List.mem_of_getElem? (i := 228) rfl))) rfl
abbrev w_Vl_nameOf : List Cond := k_Vl_nameOf :: tb
abbrev b_Vl_numberOf : ByteArray := prog_9_method_15_code
def y_Vl_numberOf : MethodName := ⟨R_Vl, "numberOf", "(I)I"⟩
abbrev k_Vl_numberOf : Cond := .code y_Vl_numberOf b_Vl_numberOf 6 (some .int)
theorem kt_Vl_numberOf : k_Vl_numberOf ∈ tb := tb_mem (List.mem_append_right _ (List.mem_append_right _ (List.mem_append_left _ (List.mem_of_getElem? (i := 155) rfl)))) rfl
abbrev w_Vl_numberOf : List Cond := k_Vl_numberOf :: tb
abbrev b_Vl_placesOf : ByteArray := prog_9_method_17_code
def y_Vl_placesOf : MethodName := ⟨R_Vl, "placesOf", "(III)I"⟩
abbrev k_Vl_placesOf : Cond := .code y_Vl_placesOf b_Vl_placesOf 6 (some .int)
theorem kt_Vl_placesOf : k_Vl_placesOf ∈ tb := tb_mem (List.mem_append_right _ (List.mem_append_right _ (List.mem_append_left _ (List.mem_of_getElem? (i := 239) rfl)))) rfl
abbrev w_Vl_placesOf : List Cond := k_Vl_placesOf :: tb
abbrev b_Vl_sizeOf : ByteArray := prog_9_method_4_code
def y_Vl_sizeOf : MethodName := ⟨R_Vl, "sizeOf", "(I)I"⟩
abbrev k_Vl_sizeOf : Cond := .code y_Vl_sizeOf b_Vl_sizeOf 2 (some .int)
theorem kt_Vl_sizeOf : k_Vl_sizeOf ∈ tb := tb_mem (List.mem_append_right _ (List.mem_append_left _ (List.mem_of_getElem? (i := 196) rfl))) rfl
abbrev w_Vl_sizeOf : List Cond := k_Vl_sizeOf :: tb
abbrev b_Vl_writeNumber : ByteArray := prog_9_method_13_code
def y_Vl_writeNumber : MethodName := ⟨R_Vl, "writeNumber", "(II)V"⟩
abbrev k_Vl_writeNumber : Cond := .code y_Vl_writeNumber b_Vl_writeNumber 8 none
theorem kt_Vl_writeNumber : k_Vl_writeNumber ∈ tb := tb_mem (List.mem_append_right _ (List.mem_append_right _ (List.mem_append_left _ (List.mem_of_getElem? (i := 160) rfl)))) rfl
abbrev w_Vl_writeNumber : List Cond := k_Vl_writeNumber :: tb
abbrev b_Vs_init : ByteArray := prog_10_method_1_code
def y_Vs_init : MethodName := ⟨R_Vs, "<init>", "()V"⟩
abbrev k_Vs_init : Cond := .code y_Vs_init b_Vs_init 2 none
theorem kt_Vs_init : k_Vs_init ∈ tb := tb_mem (List.mem_append_left _ (List.mem_of_getElem? (i := 127) rfl)) rfl
abbrev w_Vs_init : List Cond := k_Vs_init :: tb
abbrev b_Vs_isLocal : ByteArray := prog_10_method_5_code
def y_Vs_isLocal : MethodName := ⟨R_Vs, "isLocal", "(II)Z"⟩
abbrev k_Vs_isLocal : Cond := .code y_Vs_isLocal b_Vs_isLocal 2 (some .boolean)
theorem kt_Vs_isLocal : k_Vs_isLocal ∈ tb := tb_mem (List.mem_append_right _ (List.mem_append_left _ (List.mem_of_getElem? (i := 211) rfl))) rfl
abbrev w_Vs_isLocal : List Cond := k_Vs_isLocal :: tb
abbrev b_Vs_link : ByteArray := prog_10_method_3_code
def y_Vs_link : MethodName := ⟨R_Vs, "link", "(II)V"⟩
abbrev k_Vs_link : Cond := .code y_Vs_link b_Vs_link 3 none
theorem kt_Vs_link : k_Vs_link ∈ tb := tb_mem (List.mem_append_right _ (List.mem_append_right _ (List.mem_append_right _ (List.mem_append_left _ (List.mem_of_getElem? (i := 19) rfl))))) rfl
abbrev w_Vs_link : List Cond := k_Vs_link :: tb
abbrev b_Vs_meant : ByteArray := prog_10_method_4_code
def y_Vs_meant : MethodName := ⟨R_Vs, "meant", "(II)LPeerScripts$Values;"⟩
abbrev k_Vs_meant : Cond := .code y_Vs_meant b_Vs_meant 3 (some (FieldType.object "PeerScripts$Values"))
theorem kt_Vs_meant : k_Vs_meant ∈ tb := tb_mem (List.mem_append_right _ (List.mem_append_left _ (List.mem_of_getElem? (i := 208) rfl))) rfl
abbrev w_Vs_meant : List Cond := k_Vs_meant :: tb
abbrev b_Vs_open : ByteArray := prog_10_method_2_code
def y_Vs_open : MethodName := ⟨R_Vs, "open", "(I)V"⟩
abbrev k_Vs_open : Cond := .code y_Vs_open b_Vs_open 3 none
theorem kt_Vs_open : k_Vs_open ∈ tb := tb_mem (List.mem_append_right _ (List.mem_append_left _ (List.mem_of_getElem? (i := 82) rfl))) rfl
abbrev w_Vs_open : List Cond := k_Vs_open :: tb
abbrev b_Lw_law : ByteArray := code
def y_Lw_law : MethodName := ⟨R_Lw, "law", "([I)Z"⟩
abbrev b_Md_init : ByteArray := prog_12_method_1_code
def y_Md_init : MethodName := ⟨R_Md, "<init>", "()V"⟩
abbrev k_Md_init : Cond := .code y_Md_init b_Md_init 2 none
theorem kt_Md_init : k_Md_init ∈ tb := tb_mem (List.mem_append_right _ (List.mem_append_right _ (List.mem_append_right _ (List.mem_append_left _ (List.mem_of_getElem? (i := 133) rfl))))) rfl
abbrev w_Md_init : List Cond := k_Md_init :: tb
abbrev b_Md_add : ByteArray := prog_12_method_16_code
def y_Md_add : MethodName := ⟨R_Md, "add", "(C)Z"⟩
abbrev k_Md_add : Cond := .code y_Md_add b_Md_add 3 (some .boolean)
theorem kt_Md_add : k_Md_add ∈ tb := tb_mem (List.mem_append_right _ (List.mem_append_right _ (List.mem_append_right _ (List.mem_append_right _ (List.mem_append_right _ (List.mem_of_getElem? (i := 90) rfl)))))) rfl
abbrev w_Md_add : List Cond := k_Md_add :: tb
abbrev b_Md_again : ByteArray := prog_12_method_53_code
def y_Md_again : MethodName := ⟨R_Md, "again", "()V"⟩
abbrev k_Md_again : Cond := .code y_Md_again b_Md_again 2 none
theorem kt_Md_again : k_Md_again ∈ tb := tb_mem (List.mem_append_right _ (List.mem_append_right _ (List.mem_append_right _ (List.mem_append_right _ (List.mem_append_right _ (List.mem_of_getElem? (i := 26) rfl)))))) rfl
abbrev w_Md_again : List Cond := k_Md_again :: tb
abbrev b_Md_answer : ByteArray := prog_12_method_43_code
def y_Md_answer : MethodName := ⟨R_Md, "answer", "(I)V"⟩
abbrev k_Md_answer : Cond := .code y_Md_answer b_Md_answer 2 none
theorem kt_Md_answer : k_Md_answer ∈ tb := tb_mem (List.mem_append_right _ (List.mem_append_right _ (List.mem_append_right _ (List.mem_append_right _ (List.mem_append_right _ (List.mem_of_getElem? (i := 38) rfl)))))) rfl
abbrev w_Md_answer : List Cond := k_Md_answer :: tb
abbrev b_Md_apply : ByteArray := prog_12_method_61_code
def y_Md_apply : MethodName := ⟨R_Md, "apply", "()V"⟩
abbrev k_Md_apply : Cond := .code y_Md_apply b_Md_apply 3 none
theorem kt_Md_apply : k_Md_apply ∈ tb := tb_mem (List.mem_append_right _ (List.mem_append_right _ (List.mem_append_right _ (List.mem_append_right _ (List.mem_append_left _ (List.mem_of_getElem? (i := 234) rfl)))))) rfl
abbrev w_Md_apply : List Cond := k_Md_apply :: tb
abbrev b_Md_applyFrom : ByteArray := prog_12_method_62_code
def y_Md_applyFrom : MethodName := ⟨R_Md, "applyFrom", "(I)V"⟩
abbrev k_Md_applyFrom : Cond := .code y_Md_applyFrom b_Md_applyFrom 2 none
theorem kt_Md_applyFrom : k_Md_applyFrom ∈ tb := tb_mem (List.mem_append_right _ (List.mem_append_right _ (List.mem_append_right _ (List.mem_append_right _ (List.mem_append_left _ (List.mem_of_getElem? (i := 227) rfl)))))) rfl
abbrev w_Md_applyFrom : List Cond := k_Md_applyFrom :: tb
abbrev b_Md_assign : ByteArray := prog_12_method_18_code
def y_Md_assign : MethodName := ⟨R_Md, "assign", "(II)V"⟩
abbrev k_Md_assign : Cond := .code y_Md_assign b_Md_assign 5 none
theorem kt_Md_assign : k_Md_assign ∈ tb := tb_mem (List.mem_append_right _ (List.mem_append_right _ (List.mem_append_right _ (List.mem_append_right _ (List.mem_append_left _ (List.mem_of_getElem? (i := 191) rfl)))))) rfl
abbrev w_Md_assign : List Cond := k_Md_assign :: tb
abbrev b_Md_at : ByteArray := prog_12_method_76_code
def y_Md_at : MethodName := ⟨R_Md, "at", "(I)I"⟩
abbrev k_Md_at : Cond := .code y_Md_at b_Md_at 2 (some .int)
theorem kt_Md_at : k_Md_at ∈ tb := tb_mem (List.mem_append_right _ (List.mem_append_right _ (List.mem_append_right _ (List.mem_append_right _ (List.mem_append_right _ (List.mem_of_getElem? (i := 106) rfl)))))) rfl
abbrev w_Md_at : List Cond := k_Md_at :: tb
abbrev b_Md_begin : ByteArray := prog_12_method_28_code
def y_Md_begin : MethodName := ⟨R_Md, "begin", "(C)V"⟩
abbrev k_Md_begin : Cond := .code y_Md_begin b_Md_begin 5 none
theorem kt_Md_begin : k_Md_begin ∈ tb := tb_mem (List.mem_append_right _ (List.mem_append_right _ (List.mem_append_right _ (List.mem_append_right _ (List.mem_append_left _ (List.mem_of_getElem? (i := 143) rfl)))))) rfl
abbrev w_Md_begin : List Cond := k_Md_begin :: tb
abbrev b_Md_behind : ByteArray := prog_12_method_31_code
def y_Md_behind : MethodName := ⟨R_Md, "behind", "()C"⟩
abbrev k_Md_behind : Cond := .code y_Md_behind b_Md_behind 1 (some .char)
theorem kt_Md_behind : k_Md_behind ∈ tb := tb_mem (List.mem_append_right _ (List.mem_append_right _ (List.mem_append_right _ (List.mem_append_right _ (List.mem_append_right _ (List.mem_of_getElem? (i := 86) rfl)))))) rfl
abbrev w_Md_behind : List Cond := k_Md_behind :: tb
abbrev b_Md_between : ByteArray := prog_12_method_27_code
def y_Md_between : MethodName := ⟨R_Md, "between", "()V"⟩
abbrev k_Md_between : Cond := .code y_Md_between b_Md_between 3 none
theorem kt_Md_between : k_Md_between ∈ tb := tb_mem (List.mem_append_right _ (List.mem_append_right _ (List.mem_append_right _ (List.mem_append_right _ (List.mem_append_left _ (List.mem_of_getElem? (i := 127) rfl)))))) rfl
abbrev w_Md_between : List Cond := k_Md_between :: tb
abbrev b_Md_buffered : ByteArray := prog_12_method_83_code
def y_Md_buffered : MethodName := ⟨R_Md, "buffered", "()I"⟩
abbrev k_Md_buffered : Cond := .code y_Md_buffered b_Md_buffered 1 (some .int)
theorem kt_Md_buffered : k_Md_buffered ∈ tb := tb_mem (List.mem_append_right _ (List.mem_append_right _ (List.mem_append_right _ (List.mem_append_right _ (List.mem_append_right _ (List.mem_of_getElem? (i := 135) rfl)))))) rfl
abbrev w_Md_buffered : List Cond := k_Md_buffered :: tb
abbrev b_Md_call : ByteArray := prog_12_method_56_code
def y_Md_call : MethodName := ⟨R_Md, "call", "(I)V"⟩
abbrev k_Md_call : Cond := .code y_Md_call b_Md_call 3 none
theorem kt_Md_call : k_Md_call ∈ tb := tb_mem (List.mem_append_right _ (List.mem_append_right _ (List.mem_append_right _ (List.mem_append_right _ (List.mem_append_right _ (List.mem_of_getElem? (i := 74) rfl)))))) rfl
abbrev w_Md_call : List Cond := k_Md_call :: tb
abbrev b_Md_caught : ByteArray := prog_12_method_35_code
def y_Md_caught : MethodName := ⟨R_Md, "caught", "()V"⟩
abbrev k_Md_caught : Cond := .code y_Md_caught b_Md_caught 1 none
theorem kt_Md_caught : k_Md_caught ∈ tb := tb_mem (List.mem_append_right _ (List.mem_append_right _ (List.mem_append_right _ (List.mem_append_right _ (List.mem_append_left _ (List.mem_of_getElem? (i := 88) rfl)))))) rfl
abbrev w_Md_caught : List Cond := k_Md_caught :: tb
abbrev b_Md_charOf : ByteArray := prog_12_method_14_code
def y_Md_charOf : MethodName := ⟨R_Md, "charOf", "(II)C"⟩
abbrev k_Md_charOf : Cond := .code y_Md_charOf b_Md_charOf 4 (some .char)
theorem kt_Md_charOf : k_Md_charOf ∈ tb := tb_mem (List.mem_append_right _ (List.mem_append_right _ (List.mem_append_right _ (List.mem_append_right _ (List.mem_append_left _ (List.mem_of_getElem? (i := 104) rfl)))))) rfl
abbrev w_Md_charOf : List Cond := k_Md_charOf :: tb
abbrev b_Md_choose : ByteArray := prog_12_method_52_code
def y_Md_choose : MethodName := ⟨R_Md, "choose", "()V"⟩
abbrev k_Md_choose : Cond := .code y_Md_choose b_Md_choose 2 none
theorem kt_Md_choose : k_Md_choose ∈ tb := tb_mem (List.mem_append_right _ (List.mem_append_right _ (List.mem_append_right _ (List.mem_append_right _ (List.mem_append_right _ (List.mem_of_getElem? (i := 18) rfl)))))) rfl
abbrev w_Md_choose : List Cond := k_Md_choose :: tb
abbrev b_Md_closes : ByteArray := prog_12_method_25_code
def y_Md_closes : MethodName := ⟨R_Md, "closes", "()Z"⟩
abbrev k_Md_closes : Cond := .code y_Md_closes b_Md_closes 1 (some .boolean)
theorem kt_Md_closes : k_Md_closes ∈ tb := tb_mem (List.mem_append_right _ (List.mem_append_right _ (List.mem_append_right _ (List.mem_append_right _ (List.mem_append_left _ (List.mem_of_getElem? (i := 139) rfl)))))) rfl
abbrev w_Md_closes : List Cond := k_Md_closes :: tb
abbrev b_Md_command : ByteArray := prog_12_method_40_code
def y_Md_command : MethodName := ⟨R_Md, "command", "()V"⟩
abbrev k_Md_command : Cond := .code y_Md_command b_Md_command 2 none
theorem kt_Md_command : k_Md_command ∈ tb := tb_mem (List.mem_append_right _ (List.mem_append_right _ (List.mem_append_right _ (List.mem_append_right _ (List.mem_append_left _ (List.mem_of_getElem? (i := 151) rfl)))))) rfl
abbrev w_Md_command : List Cond := k_Md_command :: tb
abbrev b_Md_commandEnded : ByteArray := prog_12_method_33_code
def y_Md_commandEnded : MethodName := ⟨R_Md, "commandEnded", "()V"⟩
abbrev k_Md_commandEnded : Cond := .code y_Md_commandEnded b_Md_commandEnded 2 none
theorem kt_Md_commandEnded : k_Md_commandEnded ∈ tb := tb_mem (List.mem_append_right _ (List.mem_append_right _ (List.mem_append_right _ (List.mem_append_right _ (List.mem_append_right _ (List.mem_of_getElem? (i := 94) rfl)))))) rfl
abbrev w_Md_commandEnded : List Cond := k_Md_commandEnded :: tb
abbrev b_Md_define : ByteArray := prog_12_method_54_code
def y_Md_define : MethodName := ⟨R_Md, "define", "(I)V"⟩
abbrev k_Md_define : Cond := .code y_Md_define b_Md_define 3 none
theorem kt_Md_define : k_Md_define ∈ tb := tb_mem (List.mem_append_right _ (List.mem_append_right _ (List.mem_append_right _ (List.mem_append_right _ (List.mem_append_right _ (List.mem_of_getElem? (i := 30) rfl)))))) rfl
abbrev w_Md_define : List Cond := k_Md_define :: tb
abbrev b_Md_defined : ByteArray := prog_12_method_80_code
def y_Md_defined : MethodName := ⟨R_Md, "defined", "(I)Z"⟩
abbrev k_Md_defined : Cond := .code y_Md_defined b_Md_defined 2 (some .boolean)
theorem kt_Md_defined : k_Md_defined ∈ tb := tb_mem (List.mem_append_right _ (List.mem_append_right _ (List.mem_append_right _ (List.mem_append_right _ (List.mem_append_right _ (List.mem_of_getElem? (i := 123) rfl)))))) rfl
abbrev w_Md_defined : List Cond := k_Md_defined :: tb
abbrev b_Md_digitAt : ByteArray := prog_12_method_46_code
def y_Md_digitAt : MethodName := ⟨R_Md, "digitAt", "(III)C"⟩
abbrev k_Md_digitAt : Cond := .code y_Md_digitAt b_Md_digitAt 4 (some .char)
theorem kt_Md_digitAt : k_Md_digitAt ∈ tb := tb_mem (List.mem_append_right _ (List.mem_append_right _ (List.mem_append_right _ (List.mem_append_right _ (List.mem_append_left _ (List.mem_of_getElem? (i := 183) rfl)))))) rfl
abbrev w_Md_digitAt : List Cond := k_Md_digitAt :: tb
abbrev b_Md_digits : ByteArray := prog_12_method_45_code
def y_Md_digits : MethodName := ⟨R_Md, "digits", "(II)Z"⟩
abbrev k_Md_digits : Cond := .code y_Md_digits b_Md_digits 9 (some .boolean)
theorem kt_Md_digits : k_Md_digits ∈ tb := tb_mem (List.mem_append_right _ (List.mem_append_right _ (List.mem_append_right _ (List.mem_append_right _ (List.mem_append_left _ (List.mem_of_getElem? (i := 179) rfl)))))) rfl
abbrev w_Md_digits : List Cond := k_Md_digits :: tb
abbrev b_Md_done : ByteArray := prog_12_method_11_code
def y_Md_done : MethodName := ⟨R_Md, "done", "(I)V"⟩
abbrev k_Md_done : Cond := .code y_Md_done b_Md_done 2 none
theorem kt_Md_done : k_Md_done ∈ tb := tb_mem (List.mem_append_right _ (List.mem_append_right _ (List.mem_append_right _ (List.mem_append_right _ (List.mem_append_left _ (List.mem_of_getElem? (i := 159) rfl)))))) rfl
abbrev w_Md_done : List Cond := k_Md_done :: tb
abbrev b_Md_enter : ByteArray := prog_12_method_21_code
def y_Md_enter : MethodName := ⟨R_Md, "enter", "(III)Z"⟩
abbrev k_Md_enter : Cond := .code y_Md_enter b_Md_enter 5 (some .boolean)
theorem kt_Md_enter : k_Md_enter ∈ tb := tb_mem (List.mem_append_right _ (List.mem_append_right _ (List.mem_append_right _ (List.mem_append_right _ (List.mem_append_left _ (List.mem_of_getElem? (i := 72) rfl)))))) rfl
abbrev w_Md_enter : List Cond := k_Md_enter :: tb
abbrev b_Md_enterWord : ByteArray := prog_12_method_22_code
def y_Md_enterWord : MethodName := ⟨R_Md, "enterWord", "(II)Z"⟩
abbrev k_Md_enterWord : Cond := .code y_Md_enterWord b_Md_enterWord 4 (some .boolean)
theorem kt_Md_enterWord : k_Md_enterWord ∈ tb := tb_mem (List.mem_append_right _ (List.mem_append_right _ (List.mem_append_right _ (List.mem_append_right _ (List.mem_append_right _ (List.mem_of_getElem? (i := 22) rfl)))))) rfl
abbrev w_Md_enterWord : List Cond := k_Md_enterWord :: tb
abbrev b_Md_error : ByteArray := prog_12_method_10_code
def y_Md_error : MethodName := ⟨R_Md, "error", "(I)V"⟩
abbrev k_Md_error : Cond := .code y_Md_error b_Md_error 2 none
theorem kt_Md_error : k_Md_error ∈ tb := tb_mem (List.mem_append_right _ (List.mem_append_right _ (List.mem_append_right _ (List.mem_append_right _ (List.mem_append_left _ (List.mem_of_getElem? (i := 76) rfl)))))) rfl
abbrev w_Md_error : List Cond := k_Md_error :: tb
abbrev b_Md_evaluate : ByteArray := prog_12_method_49_code
def y_Md_evaluate : MethodName := ⟨R_Md, "evaluate", "()V"⟩
abbrev k_Md_evaluate : Cond := .code y_Md_evaluate b_Md_evaluate 2 none
theorem kt_Md_evaluate : k_Md_evaluate ∈ tb := tb_mem (List.mem_append_right _ (List.mem_append_right _ (List.mem_append_right _ (List.mem_append_right _ (List.mem_append_left _ (List.mem_of_getElem? (i := 203) rfl)))))) rfl
abbrev w_Md_evaluate : List Cond := k_Md_evaluate :: tb
abbrev b_Md_fires : ByteArray := prog_12_method_72_code
def y_Md_fires : MethodName := ⟨R_Md, "fires", "()I"⟩
abbrev k_Md_fires : Cond := .code y_Md_fires b_Md_fires 4 (some .int)
theorem kt_Md_fires : k_Md_fires ∈ tb := tb_mem (List.mem_append_right _ (List.mem_append_right _ (List.mem_append_right _ (List.mem_append_right _ (List.mem_append_right _ (List.mem_of_getElem? (i := 62) rfl)))))) rfl
abbrev w_Md_fires : List Cond := k_Md_fires :: tb
abbrev b_Md_fits : ByteArray := prog_12_method_67_code
def y_Md_fits : MethodName := ⟨R_Md, "fits", "(II)Z"⟩
abbrev k_Md_fits : Cond := .code y_Md_fits b_Md_fits 9 (some .boolean)
theorem kt_Md_fits : k_Md_fits ∈ tb := tb_mem (List.mem_append_right _ (List.mem_append_right _ (List.mem_append_right _ (List.mem_append_right _ (List.mem_append_right _ (List.mem_of_getElem? (i := 14) rfl)))))) rfl
abbrev w_Md_fits : List Cond := k_Md_fits :: tb
abbrev b_Md_fitting : ByteArray := prog_12_method_38_code
def y_Md_fitting : MethodName := ⟨R_Md, "fitting", "(CI)Z"⟩
abbrev k_Md_fitting : Cond := .code y_Md_fitting b_Md_fitting 4 (some .boolean)
theorem kt_Md_fitting : k_Md_fitting ∈ tb := tb_mem (List.mem_append_right _ (List.mem_append_right _ (List.mem_append_right _ (List.mem_append_right _ (List.mem_append_left _ (List.mem_of_getElem? (i := 171) rfl)))))) rfl
abbrev w_Md_fitting : List Cond := k_Md_fitting :: tb
abbrev b_Md_forms : ByteArray := prog_12_method_37_code
def y_Md_forms : MethodName := ⟨R_Md, "forms", "(CCC)Z"⟩
abbrev k_Md_forms : Cond := .code y_Md_forms b_Md_forms 7 (some .boolean)
theorem kt_Md_forms : k_Md_forms ∈ tb := tb_mem (List.mem_append_right _ (List.mem_append_right _ (List.mem_append_right _ (List.mem_append_right _ (List.mem_append_left _ (List.mem_of_getElem? (i := 167) rfl)))))) rfl
abbrev w_Md_forms : List Cond := k_Md_forms :: tb
abbrev b_Md_grow : ByteArray := prog_12_method_48_code
def y_Md_grow : MethodName := ⟨R_Md, "grow", "(I)V"⟩
abbrev k_Md_grow : Cond := .code y_Md_grow b_Md_grow 4 none
theorem kt_Md_grow : k_Md_grow ∈ tb := tb_mem (List.mem_append_right _ (List.mem_append_right _ (List.mem_append_right _ (List.mem_append_right _ (List.mem_append_left _ (List.mem_of_getElem? (i := 199) rfl)))))) rfl
abbrev w_Md_grow : List Cond := k_Md_grow :: tb
abbrev b_Md_here : ByteArray := prog_12_method_24_code
def y_Md_here : MethodName := ⟨R_Md, "here", "()C"⟩
abbrev k_Md_here : Cond := .code y_Md_here b_Md_here 1 (some .char)
theorem kt_Md_here : k_Md_here ∈ tb := tb_mem (List.mem_append_right _ (List.mem_append_right _ (List.mem_append_right _ (List.mem_append_right _ (List.mem_append_left _ (List.mem_of_getElem? (i := 131) rfl)))))) rfl
abbrev w_Md_here : List Cond := k_Md_here :: tb
abbrev b_Md_ill : ByteArray := prog_12_method_57_code
def y_Md_ill : MethodName := ⟨R_Md, "ill", "(I)V"⟩
abbrev k_Md_ill : Cond := .code y_Md_ill b_Md_ill 2 none
theorem kt_Md_ill : k_Md_ill ∈ tb := tb_mem (List.mem_append_right _ (List.mem_append_right _ (List.mem_append_right _ (List.mem_append_right _ (List.mem_append_left _ (List.mem_of_getElem? (i := 215) rfl)))))) rfl
abbrev w_Md_ill : List Cond := k_Md_ill :: tb
abbrev b_Md_inWord : ByteArray := prog_12_method_30_code
def y_Md_inWord : MethodName := ⟨R_Md, "inWord", "()V"⟩
abbrev k_Md_inWord : Cond := .code y_Md_inWord b_Md_inWord 3 none
theorem kt_Md_inWord : k_Md_inWord ∈ tb := tb_mem (List.mem_append_right _ (List.mem_append_right _ (List.mem_append_right _ (List.mem_append_right _ (List.mem_append_right _ (List.mem_of_getElem? (i := 78) rfl)))))) rfl
abbrev w_Md_inWord : List Cond := k_Md_inWord :: tb
abbrev b_Md_isNumber : ByteArray := prog_12_method_47_code
def y_Md_isNumber : MethodName := ⟨R_Md, "isNumber", "(I)Z"⟩
abbrev k_Md_isNumber : Cond := .code y_Md_isNumber b_Md_isNumber 2 (some .boolean)
theorem kt_Md_isNumber : k_Md_isNumber ∈ tb := tb_mem (List.mem_append_right _ (List.mem_append_right _ (List.mem_append_right _ (List.mem_append_right _ (List.mem_append_left _ (List.mem_of_getElem? (i := 175) rfl)))))) rfl
abbrev w_Md_isNumber : List Cond := k_Md_isNumber :: tb
abbrev b_Md_joined : ByteArray := prog_12_method_60_code
def y_Md_joined : MethodName := ⟨R_Md, "joined", "(III)I"⟩
abbrev k_Md_joined : Cond := .code y_Md_joined b_Md_joined 4 (some .int)
theorem kt_Md_joined : k_Md_joined ∈ tb := tb_mem (List.mem_append_right _ (List.mem_append_right _ (List.mem_append_right _ (List.mem_append_right _ (List.mem_append_left _ (List.mem_of_getElem? (i := 238) rfl)))))) rfl
abbrev w_Md_joined : List Cond := k_Md_joined :: tb
abbrev b_Md_length : ByteArray := prog_12_method_75_code
def y_Md_length : MethodName := ⟨R_Md, "length", "()I"⟩
abbrev k_Md_length : Cond := .code y_Md_length b_Md_length 1 (some .int)
theorem kt_Md_length : k_Md_length ∈ tb := tb_mem (List.mem_append_right _ (List.mem_append_right _ (List.mem_append_right _ (List.mem_append_right _ (List.mem_append_right _ (List.mem_of_getElem? (i := 102) rfl)))))) rfl
abbrev w_Md_length : List Cond := k_Md_length :: tb
abbrev b_Md_letter : ByteArray := prog_12_method_79_code
def y_Md_letter : MethodName := ⟨R_Md, "letter", "(II)I"⟩
abbrev k_Md_letter : Cond := .code y_Md_letter b_Md_letter 3 (some .int)
theorem kt_Md_letter : k_Md_letter ∈ tb := tb_mem (List.mem_append_right _ (List.mem_append_right _ (List.mem_append_right _ (List.mem_append_right _ (List.mem_append_right _ (List.mem_of_getElem? (i := 118) rfl)))))) rfl
abbrev w_Md_letter : List Cond := k_Md_letter :: tb
abbrev b_Md_link : ByteArray := prog_12_method_55_code
def y_Md_link : MethodName := ⟨R_Md, "link", "(I)V"⟩
abbrev k_Md_link : Cond := .code y_Md_link b_Md_link 2 none
theorem kt_Md_link : k_Md_link ∈ tb := tb_mem (List.mem_append_right _ (List.mem_append_right _ (List.mem_append_right _ (List.mem_append_right _ (List.mem_append_right _ (List.mem_of_getElem? (i := 34) rfl)))))) rfl
abbrev w_Md_link : List Cond := k_Md_link :: tb
abbrev b_Md_listen : ByteArray := prog_12_method_73_code
def y_Md_listen : MethodName := ⟨R_Md, "listen", "()V"⟩
abbrev k_Md_listen : Cond := .code y_Md_listen b_Md_listen 5 none
theorem kt_Md_listen : k_Md_listen ∈ tb := tb_mem (List.mem_append_right _ (List.mem_append_right _ (List.mem_append_right _ (List.mem_append_right _ (List.mem_append_right _ (List.mem_of_getElem? (i := 58) rfl)))))) rfl
abbrev w_Md_listen : List Cond := k_Md_listen :: tb
abbrev b_Md_match : ByteArray := prog_12_method_51_code
def y_Md_match : MethodName := ⟨R_Md, "match", "()V"⟩
abbrev k_Md_match : Cond := .code y_Md_match b_Md_match 3 none
theorem kt_Md_match : k_Md_match ∈ tb := tb_mem (List.mem_append_right _ (List.mem_append_right _ (List.mem_append_right _ (List.mem_append_right _ (List.mem_append_right _ (List.mem_of_getElem? (i := 10) rfl)))))) rfl
abbrev w_Md_match : List Cond := k_Md_match :: tb
abbrev b_Md_measure : ByteArray := prog_12_method_50_code
def y_Md_measure : MethodName := ⟨R_Md, "measure", "()V"⟩
abbrev k_Md_measure : Cond := .code y_Md_measure b_Md_measure 2 none
theorem kt_Md_measure : k_Md_measure ∈ tb := tb_mem (List.mem_append_right _ (List.mem_append_right _ (List.mem_append_right _ (List.mem_append_right _ (List.mem_append_right _ (List.mem_of_getElem? (i := 6) rfl)))))) rfl
abbrev w_Md_measure : List Cond := k_Md_measure :: tb
abbrev b_Md_name : ByteArray := prog_12_method_15_code
def y_Md_name : MethodName := ⟨R_Md, "name", "(IC)I"⟩
abbrev k_Md_name : Cond := .code y_Md_name b_Md_name 4 (some .int)
theorem kt_Md_name : k_Md_name ∈ tb := tb_mem (List.mem_append_right _ (List.mem_append_right _ (List.mem_append_right _ (List.mem_append_right _ (List.mem_append_left _ (List.mem_of_getElem? (i := 92) rfl)))))) rfl
abbrev w_Md_name : List Cond := k_Md_name :: tb
abbrev b_Md_note : ByteArray := prog_12_method_68_code
def y_Md_note : MethodName := ⟨R_Md, "note", "(I)V"⟩
abbrev k_Md_note : Cond := .code y_Md_note b_Md_note 2 none
theorem kt_Md_note : k_Md_note ∈ tb := tb_mem (List.mem_append_right _ (List.mem_append_right _ (List.mem_append_right _ (List.mem_append_right _ (List.mem_append_right _ (List.mem_of_getElem? (i := 50) rfl)))))) rfl
abbrev w_Md_note : List Cond := k_Md_note :: tb
abbrev b_Md_nothing : ByteArray := prog_12_method_7_code
def y_Md_nothing : MethodName := ⟨R_Md, "nothing", "()V"⟩
abbrev k_Md_nothing : Cond := .code y_Md_nothing b_Md_nothing 1 none
theorem kt_Md_nothing : k_Md_nothing ∈ tb := tb_mem (List.mem_append_right _ (List.mem_append_right _ (List.mem_append_right _ (List.mem_append_right _ (List.mem_append_left _ (List.mem_of_getElem? (i := 80) rfl)))))) rfl
abbrev w_Md_nothing : List Cond := k_Md_nothing :: tb
abbrev b_Md_number : ByteArray := prog_12_method_9_code
def y_Md_number : MethodName := ⟨R_Md, "number", "(I)V"⟩
abbrev k_Md_number : Cond := .code y_Md_number b_Md_number 7 none
theorem kt_Md_number : k_Md_number ∈ tb := tb_mem (List.mem_append_right _ (List.mem_append_right _ (List.mem_append_right _ (List.mem_append_right _ (List.mem_append_left _ (List.mem_of_getElem? (i := 116) rfl)))))) rfl
abbrev w_Md_number : List Cond := k_Md_number :: tb
abbrev b_Md_ofVariable : ByteArray := prog_12_method_65_code
def y_Md_ofVariable : MethodName := ⟨R_Md, "ofVariable", "(I)I"⟩
abbrev k_Md_ofVariable : Cond := .code y_Md_ofVariable b_Md_ofVariable 2 (some .int)
theorem kt_Md_ofVariable : k_Md_ofVariable ∈ tb := tb_mem (List.mem_append_right _ (List.mem_append_right _ (List.mem_append_right _ (List.mem_append_right _ (List.mem_append_left _ (List.mem_of_getElem? (i := 223) rfl)))))) rfl
abbrev w_Md_ofVariable : List Cond := k_Md_ofVariable :: tb
abbrev b_Md_operand : ByteArray := prog_12_method_64_code
def y_Md_operand : MethodName := ⟨R_Md, "operand", "(II)I"⟩
abbrev k_Md_operand : Cond := .code y_Md_operand b_Md_operand 7 (some .int)
theorem kt_Md_operand : k_Md_operand ∈ tb := tb_mem (List.mem_append_right _ (List.mem_append_right _ (List.mem_append_right _ (List.mem_append_right _ (List.mem_append_left _ (List.mem_of_getElem? (i := 219) rfl)))))) rfl
abbrev w_Md_operand : List Cond := k_Md_operand :: tb
abbrev b_Md_other : ByteArray := prog_12_method_41_code
def y_Md_other : MethodName := ⟨R_Md, "other", "(I)V"⟩
abbrev k_Md_other : Cond := .code y_Md_other b_Md_other 3 none
theorem kt_Md_other : k_Md_other ∈ tb := tb_mem (List.mem_append_right _ (List.mem_append_right _ (List.mem_append_right _ (List.mem_append_right _ (List.mem_append_right _ (List.mem_of_getElem? (i := 70) rfl)))))) rfl
abbrev w_Md_other : List Cond := k_Md_other :: tb
abbrev b_Md_outside : ByteArray := prog_12_method_4_code
def y_Md_outside : MethodName := ⟨R_Md, "outside", "(III)Z"⟩
abbrev k_Md_outside : Cond := .code y_Md_outside b_Md_outside 3 (some .boolean)
theorem kt_Md_outside : k_Md_outside ∈ tb := tb_mem (List.mem_append_right _ (List.mem_append_right _ (List.mem_append_right _ (List.mem_append_right _ (List.mem_append_left _ (List.mem_of_getElem? (i := 60) rfl)))))) rfl
abbrev w_Md_outside : List Cond := k_Md_outside :: tb
abbrev b_Md_over : ByteArray := prog_12_method_23_code
def y_Md_over : MethodName := ⟨R_Md, "over", "()Z"⟩
abbrev k_Md_over : Cond := .code y_Md_over b_Md_over 1 (some .boolean)
theorem kt_Md_over : k_Md_over ∈ tb := tb_mem (List.mem_append_right _ (List.mem_append_right _ (List.mem_append_right _ (List.mem_append_right _ (List.mem_append_left _ (List.mem_of_getElem? (i := 135) rfl)))))) rfl
abbrev w_Md_over : List Cond := k_Md_over :: tb
abbrev b_Md_peer : ByteArray := prog_12_method_81_code
def y_Md_peer : MethodName := ⟨R_Md, "peer", "()I"⟩
abbrev k_Md_peer : Cond := .code y_Md_peer b_Md_peer 1 (some .int)
theorem kt_Md_peer : k_Md_peer ∈ tb := tb_mem (List.mem_append_right _ (List.mem_append_right _ (List.mem_append_right _ (List.mem_append_right _ (List.mem_append_right _ (List.mem_of_getElem? (i := 127) rfl)))))) rfl
abbrev w_Md_peer : List Cond := k_Md_peer :: tb
abbrev b_Md_pending : ByteArray := prog_12_method_82_code
def y_Md_pending : MethodName := ⟨R_Md, "pending", "()I"⟩
abbrev k_Md_pending : Cond := .code y_Md_pending b_Md_pending 1 (some .int)
theorem kt_Md_pending : k_Md_pending ∈ tb := tb_mem (List.mem_append_right _ (List.mem_append_right _ (List.mem_append_right _ (List.mem_append_right _ (List.mem_append_right _ (List.mem_of_getElem? (i := 131) rfl)))))) rfl
abbrev w_Md_pending : List Cond := k_Md_pending :: tb
abbrev b_Md_piece : ByteArray := prog_12_method_32_code
def y_Md_piece : MethodName := ⟨R_Md, "piece", "(C)V"⟩
abbrev k_Md_piece : Cond := .code y_Md_piece b_Md_piece 6 none
theorem kt_Md_piece : k_Md_piece ∈ tb := tb_mem (List.mem_append_right _ (List.mem_append_right _ (List.mem_append_right _ (List.mem_append_right _ (List.mem_append_right _ (List.mem_of_getElem? (i := 82) rfl)))))) rfl
abbrev w_Md_piece : List Cond := k_Md_piece :: tb
abbrev b_Md_put : ByteArray := prog_12_method_2_code
def y_Md_put : MethodName := ⟨R_Md, "put", "(C)Z"⟩
abbrev k_Md_put : Cond := .code y_Md_put b_Md_put 2 (some .boolean)
theorem kt_Md_put : k_Md_put ∈ tb := tb_mem (List.mem_append_right _ (List.mem_append_right _ (List.mem_append_right _ (List.mem_append_right _ (List.mem_append_left _ (List.mem_of_getElem? (i := 49) rfl)))))) rfl
abbrev w_Md_put : List Cond := k_Md_put :: tb
abbrev b_Md_quotient : ByteArray := prog_12_method_59_code
def y_Md_quotient : MethodName := ⟨R_Md, "quotient", "(IIZ)I"⟩
abbrev k_Md_quotient : Cond := .code y_Md_quotient b_Md_quotient 4 (some .int)
theorem kt_Md_quotient : k_Md_quotient ∈ tb := tb_mem (List.mem_append_right _ (List.mem_append_right _ (List.mem_append_right _ (List.mem_append_right _ (List.mem_append_right _ (List.mem_of_getElem? (i := 2) rfl)))))) rfl
abbrev w_Md_quotient : List Cond := k_Md_quotient :: tb
abbrev b_Md_rankOf : ByteArray := prog_12_method_58_code
def y_Md_rankOf : MethodName := ⟨R_Md, "rankOf", "(I)I"⟩
abbrev k_Md_rankOf : Cond := .code y_Md_rankOf b_Md_rankOf 1 (some .int)
theorem kt_Md_rankOf : k_Md_rankOf ∈ tb := tb_mem (List.mem_append_right _ (List.mem_append_right _ (List.mem_append_right _ (List.mem_append_right _ (List.mem_append_left _ (List.mem_of_getElem? (i := 230) rfl)))))) rfl
abbrev w_Md_rankOf : List Cond := k_Md_rankOf :: tb
abbrev b_Md_read : ByteArray := prog_12_method_26_code
def y_Md_read : MethodName := ⟨R_Md, "read", "()V"⟩
abbrev k_Md_read : Cond := .code y_Md_read b_Md_read 1 none
theorem kt_Md_read : k_Md_read ∈ tb := tb_mem (List.mem_append_right _ (List.mem_append_right _ (List.mem_append_right _ (List.mem_append_right _ (List.mem_append_left _ (List.mem_of_getElem? (i := 123) rfl)))))) rfl
abbrev w_Md_read : List Cond := k_Md_read :: tb
abbrev b_Md_recall : ByteArray := prog_12_method_20_code
def y_Md_recall : MethodName := ⟨R_Md, "recall", "(I)V"⟩
abbrev k_Md_recall : Cond := .code y_Md_recall b_Md_recall 3 none
theorem kt_Md_recall : k_Md_recall ∈ tb := tb_mem (List.mem_append_right _ (List.mem_append_right _ (List.mem_append_right _ (List.mem_append_right _ (List.mem_append_left _ (List.mem_of_getElem? (i := 195) rfl)))))) rfl
abbrev w_Md_recall : List Cond := k_Md_recall :: tb
abbrev b_Md_reset : ByteArray := prog_12_method_6_code
def y_Md_reset : MethodName := ⟨R_Md, "reset", "()V"⟩
abbrev k_Md_reset : Cond := .code y_Md_reset b_Md_reset 1 none
theorem kt_Md_reset : k_Md_reset ∈ tb := tb_mem (List.mem_append_right _ (List.mem_append_right _ (List.mem_append_right _ (List.mem_append_right _ (List.mem_append_left _ (List.mem_of_getElem? (i := 64) rfl)))))) rfl
abbrev w_Md_reset : List Cond := k_Md_reset :: tb
abbrev b_Md_rule : ByteArray := prog_12_method_5_code
def y_Md_rule : MethodName := ⟨R_Md, "rule", "(IIII)Z"⟩
abbrev k_Md_rule : Cond := .code y_Md_rule b_Md_rule 5 (some .boolean)
theorem kt_Md_rule : k_Md_rule ∈ tb := tb_mem (List.mem_append_right _ (List.mem_append_right _ (List.mem_append_right _ (List.mem_append_right _ (List.mem_append_left _ (List.mem_of_getElem? (i := 57) rfl)))))) rfl
abbrev w_Md_rule : List Cond := k_Md_rule :: tb
abbrev b_Md_run : ByteArray := prog_12_method_74_code
def y_Md_run : MethodName := ⟨R_Md, "run", "(I)I"⟩
abbrev k_Md_run : Cond := .code y_Md_run b_Md_run 4 (some .int)
theorem kt_Md_run : k_Md_run ∈ tb := tb_mem (List.mem_append_right _ (List.mem_append_right _ (List.mem_append_right _ (List.mem_append_right _ (List.mem_append_left _ (List.mem_of_getElem? (i := 68) rfl)))))) rfl
abbrev w_Md_run : List Cond := k_Md_run :: tb
abbrev b_Md_say : ByteArray := prog_12_method_8_code
def y_Md_say : MethodName := ⟨R_Md, "say", "(C)V"⟩
abbrev k_Md_say : Cond := .code y_Md_say b_Md_say 2 none
theorem kt_Md_say : k_Md_say ∈ tb := tb_mem (List.mem_append_right _ (List.mem_append_right _ (List.mem_append_right _ (List.mem_append_right _ (List.mem_append_left _ (List.mem_of_getElem? (i := 84) rfl)))))) rfl
abbrev w_Md_say : List Cond := k_Md_say :: tb
abbrev b_Md_scriptEnded : ByteArray := prog_12_method_34_code
def y_Md_scriptEnded : MethodName := ⟨R_Md, "scriptEnded", "()V"⟩
abbrev k_Md_scriptEnded : Cond := .code y_Md_scriptEnded b_Md_scriptEnded 4 none
theorem kt_Md_scriptEnded : k_Md_scriptEnded ∈ tb := tb_mem (List.mem_append_right _ (List.mem_append_right _ (List.mem_append_right _ (List.mem_append_right _ (List.mem_append_right _ (List.mem_of_getElem? (i := 98) rfl)))))) rfl
abbrev w_Md_scriptEnded : List Cond := k_Md_scriptEnded :: tb
abbrev b_Md_send : ByteArray := prog_12_method_69_code
def y_Md_send : MethodName := ⟨R_Md, "send", "()V"⟩
abbrev k_Md_send : Cond := .code y_Md_send b_Md_send 3 none
theorem kt_Md_send : k_Md_send ∈ tb := tb_mem (List.mem_append_right _ (List.mem_append_right _ (List.mem_append_right _ (List.mem_append_right _ (List.mem_append_right _ (List.mem_of_getElem? (i := 46) rfl)))))) rfl
abbrev w_Md_send : List Cond := k_Md_send :: tb
abbrev b_Md_set : ByteArray := prog_12_method_44_code
def y_Md_set : MethodName := ⟨R_Md, "set", "(I)V"⟩
abbrev k_Md_set : Cond := .code y_Md_set b_Md_set 2 none
theorem kt_Md_set : k_Md_set ∈ tb := tb_mem (List.mem_append_right _ (List.mem_append_right _ (List.mem_append_right _ (List.mem_append_right _ (List.mem_append_left _ (List.mem_of_getElem? (i := 187) rfl)))))) rfl
abbrev w_Md_set : List Cond := k_Md_set :: tb
abbrev b_Md_sign : ByteArray := prog_12_method_63_code
def y_Md_sign : MethodName := ⟨R_Md, "sign", "(I)V"⟩
abbrev k_Md_sign : Cond := .code y_Md_sign b_Md_sign 2 none
theorem kt_Md_sign : k_Md_sign ∈ tb := tb_mem (List.mem_append_right _ (List.mem_append_right _ (List.mem_append_right _ (List.mem_append_right _ (List.mem_append_left _ (List.mem_of_getElem? (i := 211) rfl)))))) rfl
abbrev w_Md_sign : List Cond := k_Md_sign :: tb
abbrev b_Md_size : ByteArray := prog_12_method_78_code
def y_Md_size : MethodName := ⟨R_Md, "size", "(I)I"⟩
abbrev k_Md_size : Cond := .code y_Md_size b_Md_size 2 (some .int)
theorem kt_Md_size : k_Md_size ∈ tb := tb_mem (List.mem_append_right _ (List.mem_append_right _ (List.mem_append_right _ (List.mem_append_right _ (List.mem_append_right _ (List.mem_of_getElem? (i := 114) rfl)))))) rfl
abbrev w_Md_size : List Cond := k_Md_size :: tb
abbrev b_Md_sizeOf : ByteArray := prog_12_method_13_code
def y_Md_sizeOf : MethodName := ⟨R_Md, "sizeOf", "(I)I"⟩
abbrev k_Md_sizeOf : Cond := .code y_Md_sizeOf b_Md_sizeOf 2 (some .int)
theorem kt_Md_sizeOf : k_Md_sizeOf ∈ tb := tb_mem (List.mem_append_right _ (List.mem_append_right _ (List.mem_append_right _ (List.mem_append_right _ (List.mem_append_left _ (List.mem_of_getElem? (i := 96) rfl)))))) rfl
abbrev w_Md_sizeOf : List Cond := k_Md_sizeOf :: tb
abbrev b_Md_spend : ByteArray := prog_12_method_36_code
def y_Md_spend : MethodName := ⟨R_Md, "spend", "()Z"⟩
abbrev k_Md_spend : Cond := .code y_Md_spend b_Md_spend 1 (some .boolean)
theorem kt_Md_spend : k_Md_spend ∈ tb := tb_mem (List.mem_append_right _ (List.mem_append_right _ (List.mem_append_right _ (List.mem_append_right _ (List.mem_append_left _ (List.mem_of_getElem? (i := 155) rfl)))))) rfl
abbrev w_Md_spend : List Cond := k_Md_spend :: tb
abbrev b_Md_store : ByteArray := prog_12_method_19_code
def y_Md_store : MethodName := ⟨R_Md, "store", "(I)V"⟩
abbrev k_Md_store : Cond := .code y_Md_store b_Md_store 3 none
theorem kt_Md_store : k_Md_store ∈ tb := tb_mem (List.mem_append_right _ (List.mem_append_right _ (List.mem_append_right _ (List.mem_append_right _ (List.mem_append_left _ (List.mem_of_getElem? (i := 112) rfl)))))) rfl
abbrev w_Md_store : List Cond := k_Md_store :: tb
abbrev b_Md_take : ByteArray := prog_12_method_42_code
def y_Md_take : MethodName := ⟨R_Md, "take", "(I)V"⟩
abbrev k_Md_take : Cond := .code y_Md_take b_Md_take 4 none
theorem kt_Md_take : k_Md_take ∈ tb := tb_mem (List.mem_append_right _ (List.mem_append_right _ (List.mem_append_right _ (List.mem_append_right _ (List.mem_append_right _ (List.mem_of_getElem? (i := 42) rfl)))))) rfl
abbrev w_Md_take : List Cond := k_Md_take :: tb
abbrev b_Md_talk : ByteArray := prog_12_method_84_code
def y_Md_talk : MethodName := ⟨R_Md, "talk", "()I"⟩
abbrev k_Md_talk : Cond := .code y_Md_talk b_Md_talk 1 (some .int)
theorem kt_Md_talk : k_Md_talk ∈ tb := tb_mem (List.mem_append_right _ (List.mem_append_right _ (List.mem_append_right _ (List.mem_append_right _ (List.mem_append_right _ (List.mem_of_getElem? (i := 139) rfl)))))) rfl
abbrev w_Md_talk : List Cond := k_Md_talk :: tb
abbrev b_Md_talked : ByteArray := prog_12_method_85_code
def y_Md_talked : MethodName := ⟨R_Md, "talked", "(I)I"⟩
abbrev k_Md_talked : Cond := .code y_Md_talked b_Md_talked 2 (some .int)
theorem kt_Md_talked : k_Md_talked ∈ tb := tb_mem (List.mem_append_right _ (List.mem_append_right _ (List.mem_append_right _ (List.mem_append_right _ (List.mem_append_right _ (List.mem_of_getElem? (i := 143) rfl)))))) rfl
abbrev w_Md_talked : List Cond := k_Md_talked :: tb
abbrev b_Md_tick : ByteArray := prog_12_method_70_code
def y_Md_tick : MethodName := ⟨R_Md, "tick", "()V"⟩
abbrev k_Md_tick : Cond := .code y_Md_tick b_Md_tick 3 none
theorem kt_Md_tick : k_Md_tick ∈ tb := tb_mem (List.mem_append_right _ (List.mem_append_right _ (List.mem_append_right _ (List.mem_append_right _ (List.mem_append_right _ (List.mem_of_getElem? (i := 66) rfl)))))) rfl
abbrev w_Md_tick : List Cond := k_Md_tick :: tb
abbrev b_Md_used : ByteArray := prog_12_method_77_code
def y_Md_used : MethodName := ⟨R_Md, "used", "()I"⟩
abbrev k_Md_used : Cond := .code y_Md_used b_Md_used 1 (some .int)
theorem kt_Md_used : k_Md_used ∈ tb := tb_mem (List.mem_append_right _ (List.mem_append_right _ (List.mem_append_right _ (List.mem_append_right _ (List.mem_append_right _ (List.mem_of_getElem? (i := 110) rfl)))))) rfl
abbrev w_Md_used : List Cond := k_Md_used :: tb
abbrev b_Md_value : ByteArray := prog_12_method_66_code
def y_Md_value : MethodName := ⟨R_Md, "value", "(I)I"⟩
abbrev k_Md_value : Cond := .code y_Md_value b_Md_value 7 (some .int)
theorem kt_Md_value : k_Md_value ∈ tb := tb_mem (List.mem_append_right _ (List.mem_append_right _ (List.mem_append_right _ (List.mem_append_right _ (List.mem_append_left _ (List.mem_of_getElem? (i := 207) rfl)))))) rfl
abbrev w_Md_value : List Cond := k_Md_value :: tb
abbrev b_Md_variable : ByteArray := prog_12_method_17_code
def y_Md_variable : MethodName := ⟨R_Md, "variable", "(I)I"⟩
abbrev k_Md_variable : Cond := .code y_Md_variable b_Md_variable 3 (some .int)
theorem kt_Md_variable : k_Md_variable ∈ tb := tb_mem (List.mem_append_right _ (List.mem_append_right _ (List.mem_append_right _ (List.mem_append_right _ (List.mem_append_left _ (List.mem_of_getElem? (i := 108) rfl)))))) rfl
abbrev w_Md_variable : List Cond := k_Md_variable :: tb
abbrev b_Md_waits : ByteArray := prog_12_method_71_code
def y_Md_waits : MethodName := ⟨R_Md, "waits", "()Z"⟩
abbrev k_Md_waits : Cond := .code y_Md_waits b_Md_waits 3 (some .boolean)
theorem kt_Md_waits : k_Md_waits ∈ tb := tb_mem (List.mem_append_right _ (List.mem_append_right _ (List.mem_append_right _ (List.mem_append_right _ (List.mem_append_right _ (List.mem_of_getElem? (i := 54) rfl)))))) rfl
abbrev w_Md_waits : List Cond := k_Md_waits :: tb
abbrev b_Md_wipe : ByteArray := prog_12_method_3_code
def y_Md_wipe : MethodName := ⟨R_Md, "wipe", "()V"⟩
abbrev k_Md_wipe : Cond := .code y_Md_wipe b_Md_wipe 2 none
theorem kt_Md_wipe : k_Md_wipe ∈ tb := tb_mem (List.mem_append_right _ (List.mem_append_right _ (List.mem_append_right _ (List.mem_append_right _ (List.mem_append_left _ (List.mem_of_getElem? (i := 53) rfl)))))) rfl
abbrev w_Md_wipe : List Cond := k_Md_wipe :: tb
abbrev b_Md_word : ByteArray := prog_12_method_12_code
def y_Md_word : MethodName := ⟨R_Md, "word", "(I)I"⟩
abbrev k_Md_word : Cond := .code y_Md_word b_Md_word 2 (some .int)
theorem kt_Md_word : k_Md_word ∈ tb := tb_mem (List.mem_append_right _ (List.mem_append_right _ (List.mem_append_right _ (List.mem_append_right _ (List.mem_append_left _ (List.mem_of_getElem? (i := 100) rfl)))))) rfl
abbrev w_Md_word : List Cond := k_Md_word :: tb
abbrev b_Md_wordEnds : ByteArray := prog_12_method_29_code
def y_Md_wordEnds : MethodName := ⟨R_Md, "wordEnds", "(Z)V"⟩
abbrev k_Md_wordEnds : Cond := .code y_Md_wordEnds b_Md_wordEnds 2 none
theorem kt_Md_wordEnds : k_Md_wordEnds ∈ tb := tb_mem (List.mem_append_right _ (List.mem_append_right _ (List.mem_append_right _ (List.mem_append_right _ (List.mem_append_left _ (List.mem_of_getElem? (i := 147) rfl)))))) rfl
abbrev w_Md_wordEnds : List Cond := k_Md_wordEnds :: tb
abbrev b_Md_words : ByteArray := prog_12_method_39_code
def y_Md_words : MethodName := ⟨R_Md, "words", "(II)Z"⟩
abbrev k_Md_words : Cond := .code y_Md_words b_Md_words 4 (some .boolean)
theorem kt_Md_words : k_Md_words ∈ tb := tb_mem (List.mem_append_right _ (List.mem_append_right _ (List.mem_append_right _ (List.mem_append_right _ (List.mem_append_left _ (List.mem_of_getElem? (i := 163) rfl)))))) rfl
abbrev w_Md_words : List Cond := k_Md_words :: tb
abbrev b_Ch_highSurrogate : ByteArray := prog_13_method_28_code
def y_Ch_highSurrogate : MethodName := ⟨R_Ch, "highSurrogate", "(I)C"⟩
abbrev k_Ch_highSurrogate : Cond := .code y_Ch_highSurrogate b_Ch_highSurrogate 1 (some .char)
theorem kt_Ch_highSurrogate : k_Ch_highSurrogate ∈ tb := tb_mem (List.mem_append_right _ (List.mem_append_right _ (List.mem_append_left _ (List.mem_of_getElem? (i := 77) rfl)))) rfl
abbrev w_Ch_highSurrogate : List Cond := k_Ch_highSurrogate :: tb
abbrev b_Ch_isValidCodePoint : ByteArray := prog_13_method_11_code
def y_Ch_isValidCodePoint : MethodName := ⟨R_Ch, "isValidCodePoint", "(I)Z"⟩
abbrev k_Ch_isValidCodePoint : Cond := .code y_Ch_isValidCodePoint b_Ch_isValidCodePoint 2 (some .boolean)
theorem kt_Ch_isValidCodePoint : k_Ch_isValidCodePoint ∈ tb := tb_mem (List.mem_append_right _ (List.mem_append_right _ (List.mem_append_left _ (List.mem_of_getElem? (i := 74) rfl)))) rfl
abbrev w_Ch_isValidCodePoint : List Cond := k_Ch_isValidCodePoint :: tb
abbrev b_Ch_lowSurrogate : ByteArray := prog_13_method_29_code
def y_Ch_lowSurrogate : MethodName := ⟨R_Ch, "lowSurrogate", "(I)C"⟩
abbrev k_Ch_lowSurrogate : Cond := .code y_Ch_lowSurrogate b_Ch_lowSurrogate 1 (some .char)
theorem kt_Ch_lowSurrogate : k_Ch_lowSurrogate ∈ tb := tb_mem (List.mem_append_right _ (List.mem_append_right _ (List.mem_append_left _ (List.mem_of_getElem? (i := 81) rfl)))) rfl
abbrev w_Ch_lowSurrogate : List Cond := k_Ch_lowSurrogate :: tb
abbrev b_Ma_floorMod : ByteArray := prog_14_method_50_code
def y_Ma_floorMod : MethodName := ⟨R_Ma, "floorMod", "(II)I"⟩
abbrev k_Ma_floorMod : Cond := .code y_Ma_floorMod b_Ma_floorMod 3 (some .int)
theorem kt_Ma_floorMod : k_Ma_floorMod ∈ tb := tb_mem (List.mem_append_right _ (List.mem_append_right _ (List.mem_append_right _ (List.mem_append_left _ (List.mem_of_getElem? (i := 39) rfl))))) rfl
abbrev w_Ma_floorMod : List Cond := k_Ma_floorMod :: tb
abbrev b_Ma_max : ByteArray := prog_14_method_65_code
def y_Ma_max : MethodName := ⟨R_Ma, "max", "(II)I"⟩
abbrev k_Ma_max : Cond := .code y_Ma_max b_Ma_max 2 (some .int)
theorem kt_Ma_max : k_Ma_max ∈ tb := tb_mem (List.mem_append_right _ (List.mem_append_left _ (List.mem_of_getElem? (i := 136) rfl))) rfl
abbrev w_Ma_max : List Cond := k_Ma_max :: tb
abbrev b_Ma_min : ByteArray := prog_14_method_69_code
def y_Ma_min : MethodName := ⟨R_Ma, "min", "(II)I"⟩
abbrev k_Ma_min : Cond := .code y_Ma_min b_Ma_min 2 (some .int)
theorem kt_Ma_min : k_Ma_min ∈ tb := tb_mem (List.mem_append_right _ (List.mem_append_left _ (List.mem_of_getElem? (i := 139) rfl))) rfl
abbrev w_Ma_min : List Cond := k_Ma_min :: tb
abbrev b_Ob_init : ByteArray := object_method_1_code
def y_Ob_init : MethodName := ⟨R_Ob, "<init>", "()V"⟩
abbrev k_Ob_init : Cond := .code y_Ob_init b_Ob_init 1 none
theorem kt_Ob_init : k_Ob_init ∈ tb := tb_mem (List.mem_append_left _ (List.mem_of_getElem? (i := 27) rfl)) rfl
abbrev w_Ob_init : List Cond := k_Ob_init :: tb
abbrev b_St_charAt : ByteArray := prog_15_method_56_code
def y_St_charAt : MethodName := ⟨R_St, "charAt", "(I)C"⟩
abbrev k_St_charAt : Cond := .code y_St_charAt b_St_charAt 2 (some .char)
theorem kt_St_charAt : k_St_charAt ∈ tb := tb_mem (List.mem_append_right _ (List.mem_append_right _ (List.mem_append_left _ (List.mem_of_getElem? (i := 105) rfl)))) rfl
abbrev w_St_charAt : List Cond := k_St_charAt :: tb
abbrev b_St_checkBoundsBeginEnd : ByteArray := prog_15_method_158_code
def y_St_checkBoundsBeginEnd : MethodName := ⟨R_St, "checkBoundsBeginEnd", "(III)V"⟩
abbrev k_St_checkBoundsBeginEnd : Cond := .code y_St_checkBoundsBeginEnd b_St_checkBoundsBeginEnd 3 none
theorem kt_St_checkBoundsBeginEnd : k_St_checkBoundsBeginEnd ∈ tb := tb_mem (List.mem_append_right _ (List.mem_append_right _ (List.mem_append_left _ (List.mem_of_getElem? (i := 51) rfl)))) rfl
abbrev w_St_checkBoundsBeginEnd : List Cond := k_St_checkBoundsBeginEnd :: tb
abbrev b_St_checkIndex : ByteArray := prog_15_method_155_code
def y_St_checkIndex : MethodName := ⟨R_St, "checkIndex", "(II)V"⟩
abbrev k_St_checkIndex : Cond := .code y_St_checkIndex b_St_checkIndex 2 none
theorem kt_St_checkIndex : k_St_checkIndex ∈ tb := tb_mem (List.mem_append_right _ (List.mem_append_right _ (List.mem_append_left _ (List.mem_of_getElem? (i := 111) rfl)))) rfl
abbrev w_St_checkIndex : List Cond := k_St_checkIndex :: tb
abbrev b_St_coder : ByteArray := prog_15_method_152_code
def y_St_coder : MethodName := ⟨R_St, "coder", "()B"⟩
abbrev k_St_coder : Cond := .code y_St_coder b_St_coder 1 (some .byte)
theorem kt_St_coder : k_St_coder ∈ tb := tb_mem (List.mem_append_right _ (List.mem_append_right _ (List.mem_append_left _ (List.mem_of_getElem? (i := 22) rfl)))) rfl
abbrev w_St_coder : List Cond := k_St_coder :: tb
abbrev b_St_indexOf_0 : ByteArray := prog_15_method_79_code
def y_St_indexOf_0 : MethodName := ⟨R_St, "indexOf", "(I)I"⟩
abbrev k_St_indexOf_0 : Cond := .code y_St_indexOf_0 b_St_indexOf_0 2 (some .int)
theorem kt_St_indexOf_0 : k_St_indexOf_0 ∈ tb := tb_mem (List.mem_append_right _ (List.mem_append_right _ (List.mem_append_left _ (List.mem_of_getElem? (i := 4) rfl)))) rfl
abbrev w_St_indexOf_0 : List Cond := k_St_indexOf_0 :: tb
abbrev b_St_indexOf_1 : ByteArray := prog_15_method_80_code
def y_St_indexOf_1 : MethodName := ⟨R_St, "indexOf", "(II)I"⟩
abbrev k_St_indexOf_1 : Cond := .code y_St_indexOf_1 b_St_indexOf_1 3 (some .int)
theorem kt_St_indexOf_1 : k_St_indexOf_1 ∈ tb := tb_mem (List.mem_append_right _ (List.mem_append_right _ (List.mem_append_left _ (List.mem_of_getElem? (i := 8) rfl)))) rfl
abbrev w_St_indexOf_1 : List Cond := k_St_indexOf_1 :: tb
abbrev b_St_isLatin1 : ByteArray := prog_15_method_154_code
def y_St_isLatin1 : MethodName := ⟨R_St, "isLatin1", "()Z"⟩
abbrev k_St_isLatin1 : Cond := .code y_St_isLatin1 b_St_isLatin1 1 (some .boolean)
theorem kt_St_isLatin1 : k_St_isLatin1 ∈ tb := tb_mem (List.mem_append_right _ (List.mem_append_right _ (List.mem_append_left _ (List.mem_of_getElem? (i := 12) rfl)))) rfl
abbrev w_St_isLatin1 : List Cond := k_St_isLatin1 :: tb
abbrev b_St_length : ByteArray := prog_15_method_54_code
def y_St_length : MethodName := ⟨R_St, "length", "()I"⟩
abbrev k_St_length : Cond := .code y_St_length b_St_length 1 (some .int)
theorem kt_St_length : k_St_length ∈ tb := tb_mem (List.mem_append_right _ (List.mem_append_right _ (List.mem_append_left _ (List.mem_of_getElem? (i := 18) rfl)))) rfl
abbrev w_St_length : List Cond := k_St_length :: tb
abbrev b_S1_canEncode : ByteArray := prog_16_method_4_code
def y_S1_canEncode : MethodName := ⟨R_S1, "canEncode", "(I)Z"⟩
abbrev k_S1_canEncode : Cond := .code y_S1_canEncode b_S1_canEncode 1 (some .boolean)
theorem kt_S1_canEncode : k_S1_canEncode ∈ tb := tb_mem (List.mem_append_right _ (List.mem_append_right _ (List.mem_append_left _ (List.mem_of_getElem? (i := 28) rfl)))) rfl
abbrev w_S1_canEncode : List Cond := k_S1_canEncode :: tb
abbrev b_S1_charAt : ByteArray := prog_16_method_2_code
def y_S1_charAt : MethodName := ⟨R_S1, "charAt", "([BI)C"⟩
abbrev k_S1_charAt : Cond := .code y_S1_charAt b_S1_charAt 2 (some .char)
theorem kt_S1_charAt : k_S1_charAt ∈ tb := tb_mem (List.mem_append_right _ (List.mem_append_right _ (List.mem_append_left _ (List.mem_of_getElem? (i := 108) rfl)))) rfl
abbrev w_S1_charAt : List Cond := k_S1_charAt :: tb
abbrev b_S1_indexOf : ByteArray := prog_16_method_22_code
def y_S1_indexOf : MethodName := ⟨R_S1, "indexOf", "([BIII)I"⟩
abbrev k_S1_indexOf : Cond := .code y_S1_indexOf b_S1_indexOf 4 (some .int)
theorem kt_S1_indexOf : k_S1_indexOf ∈ tb := tb_mem (List.mem_append_right _ (List.mem_append_right _ (List.mem_append_left _ (List.mem_of_getElem? (i := 25) rfl)))) rfl
abbrev w_S1_indexOf : List Cond := k_S1_indexOf :: tb
abbrev b_S1_indexOfChar : ByteArray := prog_16_method_23_code
def y_S1_indexOfChar : MethodName := ⟨R_S1, "indexOfChar", "([BIII)I"⟩
abbrev k_S1_indexOfChar : Cond := .code y_S1_indexOfChar b_S1_indexOfChar 6 (some .int)
theorem kt_S1_indexOfChar : k_S1_indexOfChar ∈ tb := tb_mem (List.mem_append_right _ (List.mem_append_right _ (List.mem_append_left _ (List.mem_of_getElem? (i := 33) rfl)))) rfl
abbrev w_S1_indexOfChar : List Cond := k_S1_indexOfChar :: tb
abbrev b_S2_charAt : ByteArray := prog_17_method_83_code
def y_S2_charAt : MethodName := ⟨R_S2, "charAt", "([BI)C"⟩
abbrev k_S2_charAt : Cond := .code y_S2_charAt b_S2_charAt 2 (some .char)
theorem kt_S2_charAt : k_S2_charAt ∈ tb := tb_mem (List.mem_append_right _ (List.mem_append_right _ (List.mem_append_left _ (List.mem_of_getElem? (i := 117) rfl)))) rfl
abbrev w_S2_charAt : List Cond := k_S2_charAt :: tb
abbrev b_S2_checkBoundsBeginEnd : ByteArray := prog_17_method_93_code
def y_S2_checkBoundsBeginEnd : MethodName := ⟨R_S2, "checkBoundsBeginEnd", "(II[B)V"⟩
abbrev k_S2_checkBoundsBeginEnd : Cond := .code y_S2_checkBoundsBeginEnd b_S2_checkBoundsBeginEnd 3 none
theorem kt_S2_checkBoundsBeginEnd : k_S2_checkBoundsBeginEnd ∈ tb := tb_mem (List.mem_append_right _ (List.mem_append_right _ (List.mem_append_left _ (List.mem_of_getElem? (i := 45) rfl)))) rfl
abbrev w_S2_checkBoundsBeginEnd : List Cond := k_S2_checkBoundsBeginEnd :: tb
abbrev b_S2_checkIndex : ByteArray := prog_17_method_91_code
def y_S2_checkIndex : MethodName := ⟨R_S2, "checkIndex", "(I[B)V"⟩
abbrev k_S2_checkIndex : Cond := .code y_S2_checkIndex b_S2_checkIndex 2 none
theorem kt_S2_checkIndex : k_S2_checkIndex ∈ tb := tb_mem (List.mem_append_right _ (List.mem_append_right _ (List.mem_append_left _ (List.mem_of_getElem? (i := 120) rfl)))) rfl
abbrev w_S2_checkIndex : List Cond := k_S2_checkIndex :: tb
abbrev b_S2_getChar : ByteArray := prog_17_method_5_code
def y_S2_getChar : MethodName := ⟨R_S2, "getChar", "([BI)C"⟩
abbrev k_S2_getChar : Cond := .code y_S2_getChar b_S2_getChar 2 (some .char)
theorem kt_S2_getChar : k_S2_getChar ∈ tb := tb_mem (List.mem_append_right _ (List.mem_append_right _ (List.mem_append_left _ (List.mem_of_getElem? (i := 62) rfl)))) rfl
abbrev w_S2_getChar : List Cond := k_S2_getChar :: tb
abbrev b_S2_indexOf : ByteArray := prog_17_method_40_code
def y_S2_indexOf : MethodName := ⟨R_S2, "indexOf", "([BIII)I"⟩
abbrev k_S2_indexOf : Cond := .code y_S2_indexOf b_S2_indexOf 4 (some .int)
theorem kt_S2_indexOf : k_S2_indexOf ∈ tb := tb_mem (List.mem_append_right _ (List.mem_append_right _ (List.mem_append_left _ (List.mem_of_getElem? (i := 36) rfl)))) rfl
abbrev w_S2_indexOf : List Cond := k_S2_indexOf :: tb
abbrev b_S2_indexOfChar : ByteArray := prog_17_method_47_code
def y_S2_indexOfChar : MethodName := ⟨R_S2, "indexOfChar", "([BIII)I"⟩
abbrev k_S2_indexOfChar : Cond := .code y_S2_indexOfChar b_S2_indexOfChar 4 (some .int)
theorem kt_S2_indexOfChar : k_S2_indexOfChar ∈ tb := tb_mem (List.mem_append_right _ (List.mem_append_right _ (List.mem_append_left _ (List.mem_of_getElem? (i := 42) rfl)))) rfl
abbrev w_S2_indexOfChar : List Cond := k_S2_indexOfChar :: tb
abbrev b_S2_indexOfCharUnsafe : ByteArray := prog_17_method_48_code
def y_S2_indexOfCharUnsafe : MethodName := ⟨R_S2, "indexOfCharUnsafe", "([BIII)I"⟩
abbrev k_S2_indexOfCharUnsafe : Cond := .code y_S2_indexOfCharUnsafe b_S2_indexOfCharUnsafe 5 (some .int)
theorem kt_S2_indexOfCharUnsafe : k_S2_indexOfCharUnsafe ∈ tb := tb_mem (List.mem_append_right _ (List.mem_append_right _ (List.mem_append_left _ (List.mem_of_getElem? (i := 59) rfl)))) rfl
abbrev w_S2_indexOfCharUnsafe : List Cond := k_S2_indexOfCharUnsafe :: tb
abbrev b_S2_indexOfSupplementary : ByteArray := prog_17_method_49_code
def y_S2_indexOfSupplementary : MethodName := ⟨R_S2, "indexOfSupplementary", "([BIII)I"⟩
abbrev k_S2_indexOfSupplementary : Cond := .code y_S2_indexOfSupplementary b_S2_indexOfSupplementary 7 (some .int)
theorem kt_S2_indexOfSupplementary : k_S2_indexOfSupplementary ∈ tb := tb_mem (List.mem_append_right _ (List.mem_append_right _ (List.mem_append_left _ (List.mem_of_getElem? (i := 71) rfl)))) rfl
abbrev w_S2_indexOfSupplementary : List Cond := k_S2_indexOfSupplementary :: tb
abbrev b_S2_length : ByteArray := prog_17_method_6_code
def y_S2_length : MethodName := ⟨R_S2, "length", "([B)I"⟩
abbrev k_S2_length : Cond := .code y_S2_length b_S2_length 1 (some .int)
theorem kt_S2_length : k_S2_length ∈ tb := tb_mem (List.mem_append_right _ (List.mem_append_right _ (List.mem_append_left _ (List.mem_of_getElem? (i := 48) rfl)))) rfl
abbrev w_S2_length : List Cond := k_S2_length :: tb
abbrev b_Ar_fill : ByteArray := prog_19_method_103_code
def y_Ar_fill : MethodName := ⟨R_Ar, "fill", "([II)V"⟩
abbrev k_Ar_fill : Cond := .code y_Ar_fill b_Ar_fill 4 none
theorem kt_Ar_fill : k_Ar_fill ∈ tb := tb_mem (List.mem_append_left _ (List.mem_of_getElem? (i := 138) rfl)) rfl
abbrev w_Ar_fill : List Cond := k_Ar_fill :: tb
abbrev b_Pp_checkFromToIndex : ByteArray := prog_20_method_12_code
def y_Pp_checkFromToIndex : MethodName := ⟨R_Pp, "checkFromToIndex", "(IIILjava/util/function/BiFunction;)I"⟩
abbrev k_Pp_checkFromToIndex : Cond := .code y_Pp_checkFromToIndex b_Pp_checkFromToIndex 4 (some .int)
theorem kt_Pp_checkFromToIndex : k_Pp_checkFromToIndex ∈ tb := tb_mem (List.mem_append_right _ (List.mem_append_right _ (List.mem_append_left _ (List.mem_of_getElem? (i := 56) rfl)))) rfl
abbrev w_Pp_checkFromToIndex : List Cond := k_Pp_checkFromToIndex :: tb
abbrev b_Pp_checkIndex : ByteArray := prog_20_method_11_code
def y_Pp_checkIndex : MethodName := ⟨R_Pp, "checkIndex", "(IILjava/util/function/BiFunction;)I"⟩
abbrev k_Pp_checkIndex : Cond := .code y_Pp_checkIndex b_Pp_checkIndex 3 (some .int)
theorem kt_Pp_checkIndex : k_Pp_checkIndex ∈ tb := tb_mem (List.mem_append_right _ (List.mem_append_right _ (List.mem_append_left _ (List.mem_of_getElem? (i := 114) rfl)))) rfl
abbrev w_Pp_checkIndex : List Cond := k_Pp_checkIndex :: tb
