/-! methods and words, by program (wip/whole/gen03.py) -/
abbrev m_N_init : Mt := (⟨"NameWriter", "<init>", "()V"⟩, prog_1_method_1_code, 3, none, [])
abbrev m_D_init : Mt := (⟨"NameWriter$Nodes", "<init>", "()V"⟩, prog_2_method_1_code, 1, none, [])
abbrev m_W_init : Mt := (⟨"NameWriter$Row", "<init>", "()V"⟩, prog_4_method_1_code, 1, none, [])
abbrev m_P_init : Mt := (⟨"NameWriter$Writer", "<init>", "(LNameWriter$Nodes;)V"⟩, prog_5_method_1_code, 2, none, [])
abbrev m_R_init : Mt := (⟨"NameWriter$Reader", "<init>", "(LNameWriter$Nodes;LNameWriter$Row;)V"⟩, prog_3_method_1_code, 3, none, [])
abbrev m_N_of : Mt := (⟨"NameWriter", "of", "(II)I"⟩, prog_1_method_11_code, 3, (some .int), [])
abbrev m_D_dropDrafts : Mt := (⟨"NameWriter$Nodes", "dropDrafts", "()V"⟩, prog_2_method_3_code, 1, none, [])
abbrev m_D_cell : Mt := (⟨"NameWriter$Nodes", "cell", "(II)I"⟩, prog_2_method_5_code, 3, (some .int), [])
abbrev m_N_type : Mt := (⟨"NameWriter", "type", "(J)Z"⟩, prog_1_method_13_code, 6, (some .boolean), [])
abbrev m_W_size : Mt := (⟨"NameWriter$Row", "size", "()I"⟩, prog_4_method_2_code, 1, (some .int), [])
abbrev m_N_isTypeable : Mt := (⟨"NameWriter", "isTypeable", "(I)Z"⟩, prog_1_method_19_code, 1, (some .boolean), [])
abbrev m_W_add : Mt := (⟨"NameWriter$Row", "add", "(I)Z"⟩, prog_4_method_4_code, 2, (some .boolean), [])
abbrev m_W_cut : Mt := (⟨"NameWriter$Row", "cut", "(I)V"⟩, prog_4_method_5_code, 2, none, [])
abbrev m_N_wipe : Mt := (⟨"NameWriter", "wipe", "()V"⟩, prog_1_method_14_code, 1, none, [])
abbrev m_N_text : Mt := (⟨"NameWriter", "text", "(I)I"⟩, prog_1_method_15_code, 2, (some .int), [])
abbrev m_W_at : Mt := (⟨"NameWriter$Row", "at", "(I)I"⟩, prog_4_method_3_code, 2, (some .int), [])
abbrev m_N_table : Mt := (⟨"NameWriter", "table", "(I)I"⟩, prog_1_method_17_code, 2, (some .int), [])
abbrev m_N_look : Mt := (⟨"NameWriter", "look", "(I)I"⟩, prog_1_method_18_code, 2, (some .int), [])
abbrev m_D_kept : Mt := (⟨"NameWriter$Nodes", "kept", "()I"⟩, prog_2_method_2_code, 1, (some .int), [])
abbrev m_L_builtin : Mt := (⟨"NameWriterLaw", "builtin", "(LNameWriter;I[J)I"⟩, method_3_code, 4, (some .int), [(0, 9, 12, 13), (0, 9, 15, 15)])
abbrev m_N_builtin : Mt := (⟨"NameWriter", "builtin", "(I)I"⟩, prog_1_method_2_code, 2, (some .int), [])
abbrev m_D_addBuiltin : Mt := (⟨"NameWriter$Nodes", "addBuiltin", "(I)I"⟩, prog_2_method_7_code, 2, (some .int), [])
abbrev m_D_add : Mt := (⟨"NameWriter$Nodes", "add", "(IIIIIII)I"⟩, prog_2_method_24_code, 11, (some .int), [])
abbrev m_D_depthOf : Mt := (⟨"NameWriter$Nodes", "depthOf", "(I)I"⟩, prog_2_method_25_code, 2, (some .int), [])
abbrev m_D_areAlike : Mt := (⟨"NameWriter$Nodes", "areAlike", "(II)Z"⟩, prog_2_method_26_code, 4, (some .boolean), [])
abbrev m_D_keepDrafts : Mt := (⟨"NameWriter$Nodes", "keepDrafts", "(I)I"⟩, prog_2_method_4_code, 2, (some .int), [])
abbrev m_L_name : Mt := (⟨"NameWriterLaw", "name", "(LNameWriter;I[J)I"⟩, method_4_code, 4, (some .int), [(0, 9, 12, 13), (0, 9, 15, 15)])
abbrev m_N_name : Mt := (⟨"NameWriter", "name", "(I)I"⟩, prog_1_method_3_code, 2, (some .int), [])
abbrev m_D_addName : Mt := (⟨"NameWriter$Nodes", "addName", "(I)I"⟩, prog_2_method_8_code, 2, (some .int), [])
abbrev m_D_needId : Mt := (⟨"NameWriter$Nodes", "needId", "(I)V"⟩, prog_2_method_16_code, 1, none, [])
abbrev m_N_isId : Mt := (⟨"NameWriter", "isId", "(I)Z"⟩, prog_1_method_22_code, 3, (some .boolean), [])
abbrev m_N_lengthOfId : Mt := (⟨"NameWriter", "lengthOfId", "(I)I"⟩, prog_1_method_21_code, 2, (some .int), [])
abbrev m_N_isSmallLetter : Mt := (⟨"NameWriter", "isSmallLetter", "(I)Z"⟩, prog_1_method_20_code, 1, (some .boolean), [])
abbrev m_L_member : Mt := (⟨"NameWriterLaw", "member", "(LNameWriter;II[J)I"⟩, method_5_code, 5, (some .int), [(0, 10, 13, 13), (0, 10, 17, 15)])
abbrev m_N_member : Mt := (⟨"NameWriter", "member", "(II)I"⟩, prog_1_method_4_code, 3, (some .int), [])
abbrev m_D_addMember : Mt := (⟨"NameWriter$Nodes", "addMember", "(II)I"⟩, prog_2_method_9_code, 3, (some .int), [])
abbrev m_D_needPrefix : Mt := (⟨"NameWriter$Nodes", "needPrefix", "(I)V"⟩, prog_2_method_17_code, 3, none, [])
abbrev m_D_kindOf : Mt := (⟨"NameWriter$Nodes", "kindOf", "(I)I"⟩, prog_2_method_6_code, 2, (some .int), [])
abbrev m_L_fill : Mt := (⟨"NameWriterLaw", "fill", "(LNameWriter;IIII[J)I"⟩, method_6_code, 7, (some .int), [(0, 14, 17, 13), (0, 14, 21, 15)])
abbrev m_N_fill : Mt := (⟨"NameWriter", "fill", "(IIII)I"⟩, prog_1_method_5_code, 5, (some .int), [])
abbrev m_D_addFilled : Mt := (⟨"NameWriter$Nodes", "addFilled", "(IIII)I"⟩, prog_2_method_10_code, 7, (some .int), [])
abbrev m_D_isArgumentOrNone : Mt := (⟨"NameWriter$Nodes", "isArgumentOrNone", "(I)Z"⟩, prog_2_method_21_code, 2, (some .boolean), [])
abbrev m_D_isType : Mt := (⟨"NameWriter$Nodes", "isType", "(I)Z"⟩, prog_2_method_20_code, 3, (some .boolean), [])
abbrev m_D_hasGap : Mt := (⟨"NameWriter$Nodes", "hasGap", "(III)Z"⟩, prog_2_method_23_code, 3, (some .boolean), [])
abbrev m_L_wrap : Mt := (⟨"NameWriterLaw", "wrap", "(LNameWriter;II[J)I"⟩, method_7_code, 5, (some .int), [(0, 10, 13, 13), (0, 10, 17, 15)])
abbrev m_N_wrap : Mt := (⟨"NameWriter", "wrap", "(II)I"⟩, prog_1_method_6_code, 3, (some .int), [])
abbrev m_D_addWrapped : Mt := (⟨"NameWriter$Nodes", "addWrapped", "(II)I"⟩, prog_2_method_11_code, 3, (some .int), [])
abbrev m_D_needType : Mt := (⟨"NameWriter$Nodes", "needType", "(I)V"⟩, prog_2_method_18_code, 2, none, [])
abbrev m_L_array : Mt := (⟨"NameWriterLaw", "array", "(LNameWriter;II[J)I"⟩, method_8_code, 5, (some .int), [(0, 10, 13, 13), (0, 10, 17, 15)])
abbrev m_N_array : Mt := (⟨"NameWriter", "array", "(II)I"⟩, prog_1_method_7_code, 3, (some .int), [])
abbrev m_D_addArray : Mt := (⟨"NameWriter$Nodes", "addArray", "(II)I"⟩, prog_2_method_12_code, 3, (some .int), [])
abbrev m_L_function : Mt := (⟨"NameWriterLaw", "function", "(LNameWriter;IIII[J)I"⟩, method_9_code, 7, (some .int), [(0, 14, 17, 13), (0, 14, 21, 15)])
abbrev m_N_function : Mt := (⟨"NameWriter", "function", "(IIII)I"⟩, prog_1_method_8_code, 5, (some .int), [])
abbrev m_D_addFunction : Mt := (⟨"NameWriter$Nodes", "addFunction", "(IIII)I"⟩, prog_2_method_13_code, 5, (some .int), [])
abbrev m_D_needParameters : Mt := (⟨"NameWriter$Nodes", "needParameters", "(III)V"⟩, prog_2_method_19_code, 5, none, [])
abbrev m_D_isParameterOrNone : Mt := (⟨"NameWriter$Nodes", "isParameterOrNone", "(I)Z"⟩, prog_2_method_22_code, 3, (some .boolean), [])
abbrev m_L_literal : Mt := (⟨"NameWriterLaw", "literal", "(LNameWriter;II[J)I"⟩, method_10_code, 5, (some .int), [(0, 10, 13, 13), (0, 10, 17, 15)])
abbrev m_N_literal : Mt := (⟨"NameWriter", "literal", "(II)I"⟩, prog_1_method_9_code, 3, (some .int), [])
abbrev m_D_addLiteral : Mt := (⟨"NameWriter$Nodes", "addLiteral", "(II)I"⟩, prog_2_method_14_code, 3, (some .int), [])
abbrev m_L_entity : Mt := (⟨"NameWriterLaw", "entity", "(LNameWriter;IIIII[J)I"⟩, method_11_code, 8, (some .int), [(0, 16, 19, 13), (0, 16, 23, 15)])
abbrev m_N_entity : Mt := (⟨"NameWriter", "entity", "(IIIII)I"⟩, prog_1_method_10_code, 6, (some .int), [])
abbrev m_D_addEntity : Mt := (⟨"NameWriter$Nodes", "addEntity", "(IIIII)I"⟩, prog_2_method_15_code, 6, (some .int), [])
abbrev m_L_write : Mt := (⟨"NameWriterLaw", "write", "(LNameWriter;I[J)I"⟩, method_12_code, 4, (some .int), [(0, 9, 12, 13), (0, 9, 15, 47)])
abbrev m_N_write : Mt := (⟨"NameWriter", "write", "(I)I"⟩, prog_1_method_12_code, 2, (some .int), [])
abbrev m_P_putEntity : Mt := (⟨"NameWriter$Writer", "putEntity", "(I)V"⟩, prog_5_method_2_code, 3, none, [])
abbrev m_P_put : Mt := (⟨"NameWriter$Writer", "put", "(I)V"⟩, prog_5_method_3_code, 2, none, [])
abbrev m_P_putUntold : Mt := (⟨"NameWriter$Writer", "putUntold", "(II)V"⟩, prog_5_method_6_code, 4, none, [])
abbrev m_P_needLevel : Mt := (⟨"NameWriter$Writer", "needLevel", "(I)V"⟩, prog_5_method_7_code, 1, none, [])
abbrev m_P_putPrefix : Mt := (⟨"NameWriter$Writer", "putPrefix", "(II)V"⟩, prog_5_method_5_code, 4, none, [])
abbrev m_P_putTold : Mt := (⟨"NameWriter$Writer", "putTold", "(I)Z"⟩, prog_5_method_16_code, 3, (some .boolean), [])
abbrev m_W_find : Mt := (⟨"NameWriter$Row", "find", "(I)I"⟩, prog_4_method_7_code, 3, (some .int), [])
abbrev m_P_putBase36Digit : Mt := (⟨"NameWriter$Writer", "putBase36Digit", "(I)V"⟩, prog_5_method_17_code, 2, none, [])
abbrev m_P_putId : Mt := (⟨"NameWriter$Writer", "putId", "(I)V"⟩, prog_5_method_14_code, 5, none, [])
abbrev m_P_putArguments : Mt := (⟨"NameWriter$Writer", "putArguments", "(II)V"⟩, prog_5_method_9_code, 5, none, [])
abbrev m_P_putLiteral : Mt := (⟨"NameWriter$Writer", "putLiteral", "(I)V"⟩, prog_5_method_11_code, 3, none, [])
abbrev m_P_putBuiltin : Mt := (⟨"NameWriter$Writer", "putBuiltin", "(I)V"⟩, prog_5_method_12_code, 3, none, [])
abbrev m_P_putDecimal : Mt := (⟨"NameWriter$Writer", "putDecimal", "(I)V"⟩, prog_5_method_15_code, 3, none, [])
abbrev m_P_putType : Mt := (⟨"NameWriter$Writer", "putType", "(II)V"⟩, prog_5_method_4_code, 3, none, [])
abbrev m_P_putFilled : Mt := (⟨"NameWriter$Writer", "putFilled", "(II)V"⟩, prog_5_method_8_code, 5, none, [])
abbrev m_P_putWrapping : Mt := (⟨"NameWriter$Writer", "putWrapping", "(I)V"⟩, prog_5_method_13_code, 3, none, [])
abbrev m_P_putParameters : Mt := (⟨"NameWriter$Writer", "putParameters", "(II)V"⟩, prog_5_method_10_code, 5, none, [])
abbrev m_W_take : Mt := (⟨"NameWriter$Row", "take", "(LNameWriter$Row;)V"⟩, prog_4_method_6_code, 2, none, [])
abbrev m_L_read : Mt := (⟨"NameWriterLaw", "read", "(LNameWriter;[J)I"⟩, method_13_code, 3, (some .int), [(0, 8, 11, 13), (0, 8, 14, 15)])
abbrev m_N_read : Mt := (⟨"NameWriter", "read", "()I"⟩, prog_1_method_16_code, 2, (some .int), [])
abbrev m_R_readEntity : Mt := (⟨"NameWriter$Reader", "readEntity", "()I"⟩, prog_3_method_2_code, 6, (some .int), [])
abbrev m_R_pass : Mt := (⟨"NameWriter$Reader", "pass", "(I)V"⟩, prog_3_method_5_code, 2, none, [])
abbrev m_R_next : Mt := (⟨"NameWriter$Reader", "next", "()I"⟩, prog_3_method_4_code, 1, (some .int), [])
abbrev m_R_need : Mt := (⟨"NameWriter$Reader", "need", "(Z)V"⟩, prog_3_method_3_code, 1, none, [])
abbrev m_R_readScoped : Mt := (⟨"NameWriter$Reader", "readScoped", "(I)I"⟩, prog_3_method_14_code, 3, (some .int), [])
abbrev m_R_readNested : Mt := (⟨"NameWriter$Reader", "readNested", "(I)I"⟩, prog_3_method_15_code, 4, (some .int), [])
abbrev m_R_readNestedStart : Mt := (⟨"NameWriter$Reader", "readNestedStart", "()I"⟩, prog_3_method_16_code, 2, (some .int), [])
abbrev m_R_readTold : Mt := (⟨"NameWriter$Reader", "readTold", "()I"⟩, prog_3_method_21_code, 3, (some .int), [])
abbrev m_R_readNumber : Mt := (⟨"NameWriter$Reader", "readNumber", "(II)I"⟩, prog_3_method_23_code, 6, (some .int), [])
abbrev m_R_digitOf : Mt := (⟨"NameWriter$Reader", "digitOf", "(II)I"⟩, prog_3_method_24_code, 2, (some .int), [])
abbrev m_R_readId : Mt := (⟨"NameWriter$Reader", "readId", "()I"⟩, prog_3_method_22_code, 4, (some .int), [])
abbrev m_R_readNestedStep : Mt := (⟨"NameWriter$Reader", "readNestedStep", "(II)I"⟩, prog_3_method_17_code, 3, (some .int), [])
abbrev m_R_readFilled : Mt := (⟨"NameWriter$Reader", "readFilled", "(II)I"⟩, prog_3_method_18_code, 6, (some .int), [])
abbrev m_R_readArgument : Mt := (⟨"NameWriter$Reader", "readArgument", "(I)I"⟩, prog_3_method_19_code, 2, (some .int), [])
abbrev m_R_readLiteral : Mt := (⟨"NameWriter$Reader", "readLiteral", "()I"⟩, prog_3_method_20_code, 5, (some .int), [])
abbrev m_N_builtinOfLetter : Mt := (⟨"NameWriter", "builtinOfLetter", "(I)I"⟩, prog_1_method_23_code, 2, (some .int), [])
abbrev m_R_readType : Mt := (⟨"NameWriter$Reader", "readType", "(I)I"⟩, prog_3_method_6_code, 4, (some .int), [])
abbrev m_R_readToldType : Mt := (⟨"NameWriter$Reader", "readToldType", "(I)I"⟩, prog_3_method_7_code, 4, (some .int), [])
abbrev m_R_readUntold : Mt := (⟨"NameWriter$Reader", "readUntold", "(I)I"⟩, prog_3_method_8_code, 2, (some .int), [])
abbrev m_R_readWrapped : Mt := (⟨"NameWriter$Reader", "readWrapped", "(II)I"⟩, prog_3_method_9_code, 3, (some .int), [])
abbrev m_R_readArray : Mt := (⟨"NameWriter$Reader", "readArray", "(I)I"⟩, prog_3_method_10_code, 3, (some .int), [])
abbrev m_R_readFunction : Mt := (⟨"NameWriter$Reader", "readFunction", "(I)I"⟩, prog_3_method_11_code, 6, (some .int), [])
abbrev m_R_readFirstParameter : Mt := (⟨"NameWriter$Reader", "readFirstParameter", "(I)I"⟩, prog_3_method_12_code, 2, (some .int), [])
abbrev m_R_readNextParameter : Mt := (⟨"NameWriter$Reader", "readNextParameter", "(III)I"⟩, prog_3_method_13_code, 4, (some .int), [])
abbrev m_M_init : Mt := (⟨"NameWriterModel", "<init>", "()V"⟩, prog_7_method_1_code, 1, none, [])
abbrev m_M_thrown : Mt := (⟨"NameWriterModel", "thrown", "()I"⟩, prog_7_method_2_code, 1, (some .int), [])
abbrev m_M_builtin : Mt := (⟨"NameWriterModel", "builtin", "(I)I"⟩, prog_7_method_11_code, 2, (some .int), [])
abbrev m_M_give : Mt := (⟨"NameWriterModel", "give", "(IIIIIII)I"⟩, prog_7_method_10_code, 9, (some .int), [])
abbrev m_M_node : Mt := (⟨"NameWriterModel", "node", "(IIIIIII)I"⟩, prog_7_method_9_code, 10, (some .int), [])
abbrev m_M_deeper : Mt := (⟨"NameWriterModel", "deeper", "(II)I"⟩, prog_7_method_8_code, 3, (some .int), [])
abbrev m_M_name : Mt := (⟨"NameWriterModel", "name", "(I)I"⟩, prog_7_method_12_code, 2, (some .int), [])
abbrev m_M_isId : Mt := (⟨"NameWriterModel", "isId", "(I)Z"⟩, prog_7_method_7_code, 7, (some .boolean), [])
abbrev m_M_member : Mt := (⟨"NameWriterModel", "member", "(II)I"⟩, prog_7_method_13_code, 3, (some .int), [])
abbrev m_M_isScoped : Mt := (⟨"NameWriterModel", "isScoped", "(I)Z"⟩, prog_7_method_4_code, 2, (some .boolean), [])
abbrev m_M_isNode : Mt := (⟨"NameWriterModel", "isNode", "(I)Z"⟩, prog_7_method_3_code, 2, (some .boolean), [])
abbrev m_M_fill : Mt := (⟨"NameWriterModel", "fill", "(IIII)I"⟩, prog_7_method_15_code, 6, (some .int), [])
abbrev m_M_isArgument : Mt := (⟨"NameWriterModel", "isArgument", "(I)Z"⟩, prog_7_method_14_code, 2, (some .boolean), [])
abbrev m_M_isType : Mt := (⟨"NameWriterModel", "isType", "(I)Z"⟩, prog_7_method_5_code, 2, (some .boolean), [])
abbrev m_M_wrap : Mt := (⟨"NameWriterModel", "wrap", "(II)I"⟩, prog_7_method_16_code, 3, (some .int), [])
abbrev m_M_array : Mt := (⟨"NameWriterModel", "array", "(II)I"⟩, prog_7_method_17_code, 3, (some .int), [])
abbrev m_M_function : Mt := (⟨"NameWriterModel", "function", "(IIII)I"⟩, prog_7_method_19_code, 5, (some .int), [])
abbrev m_M_areParameters : Mt := (⟨"NameWriterModel", "areParameters", "(III)Z"⟩, prog_7_method_18_code, 4, (some .boolean), [])
abbrev m_M_isParameter : Mt := (⟨"NameWriterModel", "isParameter", "(I)Z"⟩, prog_7_method_6_code, 2, (some .boolean), [])
abbrev m_M_literal : Mt := (⟨"NameWriterModel", "literal", "(II)I"⟩, prog_7_method_20_code, 3, (some .int), [])
abbrev m_M_entity : Mt := (⟨"NameWriterModel", "entity", "(IIIII)I"⟩, prog_7_method_21_code, 6, (some .int), [])
abbrev m_M_of : Mt := (⟨"NameWriterModel", "of", "(II)I"⟩, prog_7_method_22_code, 3, (some .int), [])
abbrev m_M_write : Mt := (⟨"NameWriterModel", "write", "(I)I"⟩, prog_7_method_37_code, 3, (some .int), [])
abbrev m_M_emit : Mt := (⟨"NameWriterModel", "emit", "(I)V"⟩, prog_7_method_23_code, 2, none, [])
abbrev m_M_push : Mt := (⟨"NameWriterModel", "push", "(II)V"⟩, prog_7_method_30_code, 3, none, [])
abbrev m_M_plain : Mt := (⟨"NameWriterModel", "plain", "(I)V"⟩, prog_7_method_33_code, 4, none, [])
abbrev m_M_emitId : Mt := (⟨"NameWriterModel", "emitId", "(I)V"⟩, prog_7_method_25_code, 4, none, [])
abbrev m_M_emitNumber : Mt := (⟨"NameWriterModel", "emitNumber", "(I)V"⟩, prog_7_method_24_code, 4, none, [])
abbrev m_M_doTask : Mt := (⟨"NameWriterModel", "doTask", "(II)V"⟩, prog_7_method_36_code, 3, none, [])
abbrev m_M_pushParts : Mt := (⟨"NameWriterModel", "pushParts", "(I)V"⟩, prog_7_method_31_code, 3, none, [])
abbrev m_M_params : Mt := (⟨"NameWriterModel", "params", "(I)V"⟩, prog_7_method_35_code, 2, none, [])
abbrev m_M_told : Mt := (⟨"NameWriterModel", "told", "(I)Z"⟩, prog_7_method_29_code, 3, (some .boolean), [])
abbrev m_M_placeOf : Mt := (⟨"NameWriterModel", "placeOf", "(I)I"⟩, prog_7_method_27_code, 4, (some .int), [])
abbrev m_M_sign36 : Mt := (⟨"NameWriterModel", "sign36", "(I)I"⟩, prog_7_method_28_code, 1, (some .int), [])
abbrev m_M_prefix : Mt := (⟨"NameWriterModel", "prefix", "(I)V"⟩, prog_7_method_34_code, 2, none, [])
abbrev m_M_letter : Mt := (⟨"NameWriterModel", "letter", "(I)I"⟩, prog_7_method_26_code, 1, (some .int), [])
abbrev m_M_literalOf : Mt := (⟨"NameWriterModel", "literalOf", "(I)V"⟩, prog_7_method_32_code, 2, none, [])
abbrev m_M_show : Mt := (⟨"NameWriterModel", "show", "()V"⟩, prog_7_method_38_code, 2, none, [])
abbrev m_M_type : Mt := (⟨"NameWriterModel", "type", "(J)Z"⟩, prog_7_method_39_code, 6, (some .boolean), [])
abbrev m_M_wipe : Mt := (⟨"NameWriterModel", "wipe", "()V"⟩, prog_7_method_40_code, 1, none, [])
abbrev m_M_text : Mt := (⟨"NameWriterModel", "text", "(I)I"⟩, prog_7_method_41_code, 2, (some .int), [])
abbrev m_M_read : Mt := (⟨"NameWriterModel", "read", "()I"⟩, prog_7_method_66_code, 2, (some .int), [])
abbrev m_M_readEntity : Mt := (⟨"NameWriterModel", "readEntity", "()I"⟩, prog_7_method_65_code, 5, (some .int), [])
abbrev m_M_expect : Mt := (⟨"NameWriterModel", "expect", "(I)V"⟩, prog_7_method_43_code, 2, none, [])
abbrev m_M_peek : Mt := (⟨"NameWriterModel", "peek", "()I"⟩, prog_7_method_42_code, 1, (some .int), [])
abbrev m_M_begin : Mt := (⟨"NameWriterModel", "begin", "(III)V"⟩, prog_7_method_54_code, 5, none, [])
abbrev m_M_scoped : Mt := (⟨"NameWriterModel", "scoped", "()I"⟩, prog_7_method_64_code, 2, (some .int), [])
abbrev m_M_beginNest : Mt := (⟨"NameWriterModel", "beginNest", "()I"⟩, prog_7_method_59_code, 3, (some .int), [])
abbrev m_M_readTold : Mt := (⟨"NameWriterModel", "readTold", "()I"⟩, prog_7_method_48_code, 5, (some .int), [])
abbrev m_M_value36 : Mt := (⟨"NameWriterModel", "value36", "(I)I"⟩, prog_7_method_47_code, 1, (some .int), [])
abbrev m_M_isDigit : Mt := (⟨"NameWriterModel", "isDigit", "(I)Z"⟩, prog_7_method_44_code, 1, (some .boolean), [])
abbrev m_M_readId : Mt := (⟨"NameWriterModel", "readId", "()I"⟩, prog_7_method_46_code, 5, (some .int), [])
abbrev m_M_readNumber : Mt := (⟨"NameWriterModel", "readNumber", "(I)I"⟩, prog_7_method_45_code, 6, (some .int), [])
abbrev m_M_makeName : Mt := (⟨"NameWriterModel", "makeName", "(I)I"⟩, prog_7_method_53_code, 2, (some .int), [])
abbrev m_M_make : Mt := (⟨"NameWriterModel", "make", "(IIIIIII)I"⟩, prog_7_method_51_code, 9, (some .int), [])
abbrev m_M_nextNested : Mt := (⟨"NameWriterModel", "nextNested", "()I"⟩, prog_7_method_61_code, 4, (some .int), [])
abbrev m_M_enter : Mt := (⟨"NameWriterModel", "enter", "(I)V"⟩, prog_7_method_50_code, 2, none, [])
abbrev m_M_beginArgs : Mt := (⟨"NameWriterModel", "beginArgs", "(I)I"⟩, prog_7_method_56_code, 2, (some .int), [])
abbrev m_M_nextArgument : Mt := (⟨"NameWriterModel", "nextArgument", "()I"⟩, prog_7_method_57_code, 6, (some .int), [])
abbrev m_M_builtinOf : Mt := (⟨"NameWriterModel", "builtinOf", "(I)I"⟩, prog_7_method_49_code, 3, (some .int), [])
abbrev m_M_makeBuiltin : Mt := (⟨"NameWriterModel", "makeBuiltin", "(I)I"⟩, prog_7_method_52_code, 2, (some .int), [])
abbrev m_M_filled : Mt := (⟨"NameWriterModel", "filled", "(I)I"⟩, prog_7_method_58_code, 3, (some .int), [])
abbrev m_M_settle : Mt := (⟨"NameWriterModel", "settle", "(I)I"⟩, prog_7_method_60_code, 3, (some .int), [])
abbrev m_M_readType : Mt := (⟨"NameWriterModel", "readType", "()I"⟩, prog_7_method_55_code, 5, (some .int), [])
abbrev m_M_take : Mt := (⟨"NameWriterModel", "take", "(I)I"⟩, prog_7_method_62_code, 5, (some .int), [])
abbrev m_M_wholeType : Mt := (⟨"NameWriterModel", "wholeType", "(I)I"⟩, prog_7_method_63_code, 3, (some .int), [])
abbrev m_M_table : Mt := (⟨"NameWriterModel", "table", "(I)I"⟩, prog_7_method_67_code, 2, (some .int), [])
abbrev m_M_look : Mt := (⟨"NameWriterModel", "look", "(I)I"⟩, prog_7_method_68_code, 2, (some .int), [])
abbrev m_L_law : Mt := (⟨"NameWriterLaw", "law", "([I)Z"⟩, code, 7, (some .boolean), [])
theorem ti_L : InT (.initialized "NameWriterLaw") := ⟨List.mem_append_right _ (List.mem_of_getElem? (i := 0) (by decide +kernel)), rfl⟩
theorem ti_N : InT (.initialized "NameWriter") := ⟨List.mem_append_right _ (List.mem_of_getElem? (i := 1) (by decide +kernel)), rfl⟩
theorem ti_D : InT (.initialized "NameWriter$Nodes") := ⟨List.mem_append_right _ (List.mem_of_getElem? (i := 2) (by decide +kernel)), rfl⟩
theorem ti_W : InT (.initialized "NameWriter$Row") := ⟨List.mem_append_right _ (List.mem_of_getElem? (i := 3) (by decide +kernel)), rfl⟩
theorem ti_P : InT (.initialized "NameWriter$Writer") := ⟨List.mem_append_right _ (List.mem_of_getElem? (i := 4) (by decide +kernel)), rfl⟩
theorem ti_R : InT (.initialized "NameWriter$Reader") := ⟨List.mem_append_right _ (List.mem_of_getElem? (i := 5) (by decide +kernel)), rfl⟩
theorem ti_M : InT (.initialized "NameWriterModel") := ⟨List.mem_append_right _ (List.mem_of_getElem? (i := 6) (by decide +kernel)), rfl⟩
theorem ti_JS : InT (.initialized "java/lang/String") := ⟨List.mem_append_right _ (List.mem_of_getElem? (i := 7) (by decide +kernel)), rfl⟩
theorem ti_java_lang_Throwable : InT (.initialized "java/lang/Throwable") := ⟨List.mem_append_right _ (List.mem_of_getElem? (i := 8) (by decide +kernel)), rfl⟩
theorem ti_java_lang_Exception : InT (.initialized "java/lang/Exception") := ⟨List.mem_append_right _ (List.mem_of_getElem? (i := 9) (by decide +kernel)), rfl⟩
theorem ti_java_lang_RuntimeException : InT (.initialized "java/lang/RuntimeException") := ⟨List.mem_append_right _ (List.mem_of_getElem? (i := 10) (by decide +kernel)), rfl⟩
theorem ti_java_lang_IllegalArgumentException : InT (.initialized "java/lang/IllegalArgumentException") := ⟨List.mem_append_right _ (List.mem_of_getElem? (i := 11) (by decide +kernel)), rfl⟩
theorem ti_JM : InT (.initialized "java/lang/Math") := ⟨List.mem_append_right _ (List.mem_of_getElem? (i := 12) (by decide +kernel)), rfl⟩
theorem ti_java_lang_IllegalStateException : InT (.initialized "java/lang/IllegalStateException") := ⟨List.mem_append_right _ (List.mem_of_getElem? (i := 13) (by decide +kernel)), rfl⟩
theorem ti_java_lang_UnsupportedOperationException : InT (.initialized "java/lang/UnsupportedOperationException") := ⟨List.mem_append_right _ (List.mem_of_getElem? (i := 14) (by decide +kernel)), rfl⟩
theorem ti_JL : InT (.initialized "java/lang/StringLatin1") := ⟨List.mem_append_right _ (List.mem_of_getElem? (i := 15) (by decide +kernel)), rfl⟩
theorem ti_JP : InT (.initialized "jdk/internal/util/Preconditions") := ⟨List.mem_append_right _ (List.mem_of_getElem? (i := 16) (by decide +kernel)), rfl⟩
theorem ti_JU : InT (.initialized "java/lang/StringUTF16") := ⟨List.mem_append_right _ (List.mem_of_getElem? (i := 17) (by decide +kernel)), rfl⟩
theorem ti_java_lang_System : InT (.initialized "java/lang/System") := ⟨List.mem_append_right _ (List.mem_of_getElem? (i := 18) (by decide +kernel)), rfl⟩
theorem tc_N_init : InT (.code m_N_init.1 m_N_init.2.1 m_N_init.2.2.1 m_N_init.2.2.2.1) := ⟨List.mem_append_right _ (List.mem_of_getElem? (i := 23) (by decide +kernel)), rfl⟩
theorem tm_N_init : InT (.instanceMethod m_N_init.1) := ⟨List.mem_append_right _ (List.mem_of_getElem? (i := 22) (by decide +kernel)), rfl⟩
theorem tc_D_init : InT (.code m_D_init.1 m_D_init.2.1 m_D_init.2.2.1 m_D_init.2.2.2.1) := ⟨List.mem_append_right _ (List.mem_of_getElem? (i := 31) (by decide +kernel)), rfl⟩
theorem tm_D_init : InT (.instanceMethod m_D_init.1) := ⟨List.mem_append_right _ (List.mem_of_getElem? (i := 30) (by decide +kernel)), rfl⟩
theorem tc_W_init : InT (.code m_W_init.1 m_W_init.2.1 m_W_init.2.2.1 m_W_init.2.2.2.1) := ⟨List.mem_append_right _ (List.mem_of_getElem? (i := 48) (by decide +kernel)), rfl⟩
theorem tm_W_init : InT (.instanceMethod m_W_init.1) := ⟨List.mem_append_right _ (List.mem_of_getElem? (i := 47) (by decide +kernel)), rfl⟩
theorem tc_P_init : InT (.code m_P_init.1 m_P_init.2.1 m_P_init.2.2.1 m_P_init.2.2.2.1) := ⟨List.mem_append_right _ (List.mem_of_getElem? (i := 61) (by decide +kernel)), rfl⟩
theorem tm_P_init : InT (.instanceMethod m_P_init.1) := ⟨List.mem_append_right _ (List.mem_of_getElem? (i := 60) (by decide +kernel)), rfl⟩
theorem tc_R_init : InT (.code m_R_init.1 m_R_init.2.1 m_R_init.2.2.1 m_R_init.2.2.2.1) := ⟨List.mem_append_right _ (List.mem_of_getElem? (i := 81) (by decide +kernel)), rfl⟩
theorem tm_R_init : InT (.instanceMethod m_R_init.1) := ⟨List.mem_append_right _ (List.mem_of_getElem? (i := 80) (by decide +kernel)), rfl⟩
theorem tc_N_of : InT (.code m_N_of.1 m_N_of.2.1 m_N_of.2.2.1 m_N_of.2.2.2.1) := ⟨List.mem_append_right _ (List.mem_of_getElem? (i := 118) (by decide +kernel)), rfl⟩
theorem tm_N_of : InT (.instanceMethod m_N_of.1) := ⟨List.mem_append_right _ (List.mem_of_getElem? (i := 116) (by decide +kernel)), rfl⟩
theorem ts_N_of : InT (.selects m_N_of.1.cls m_N_of.1 m_N_of.1) := ⟨List.mem_append_right _ (List.mem_of_getElem? (i := 117) (by decide +kernel)), rfl⟩
theorem tc_D_dropDrafts : InT (.code m_D_dropDrafts.1 m_D_dropDrafts.2.1 m_D_dropDrafts.2.2.1 m_D_dropDrafts.2.2.2.1) := ⟨List.mem_append_right _ (List.mem_of_getElem? (i := 122) (by decide +kernel)), rfl⟩
theorem tm_D_dropDrafts : InT (.instanceMethod m_D_dropDrafts.1) := ⟨List.mem_append_right _ (List.mem_of_getElem? (i := 120) (by decide +kernel)), rfl⟩
theorem ts_D_dropDrafts : InT (.selects m_D_dropDrafts.1.cls m_D_dropDrafts.1 m_D_dropDrafts.1) := ⟨List.mem_append_right _ (List.mem_of_getElem? (i := 121) (by decide +kernel)), rfl⟩
theorem tc_D_cell : InT (.code m_D_cell.1 m_D_cell.2.1 m_D_cell.2.2.1 m_D_cell.2.2.2.1) := ⟨List.mem_append_right _ (List.mem_of_getElem? (i := 126) (by decide +kernel)), rfl⟩
theorem tm_D_cell : InT (.instanceMethod m_D_cell.1) := ⟨List.mem_append_right _ (List.mem_of_getElem? (i := 124) (by decide +kernel)), rfl⟩
theorem ts_D_cell : InT (.selects m_D_cell.1.cls m_D_cell.1 m_D_cell.1) := ⟨List.mem_append_right _ (List.mem_of_getElem? (i := 125) (by decide +kernel)), rfl⟩
theorem tc_N_type : InT (.code m_N_type.1 m_N_type.2.1 m_N_type.2.2.1 m_N_type.2.2.2.1) := ⟨List.mem_append_right _ (List.mem_of_getElem? (i := 130) (by decide +kernel)), rfl⟩
theorem tm_N_type : InT (.instanceMethod m_N_type.1) := ⟨List.mem_append_right _ (List.mem_of_getElem? (i := 128) (by decide +kernel)), rfl⟩
theorem ts_N_type : InT (.selects m_N_type.1.cls m_N_type.1 m_N_type.1) := ⟨List.mem_append_right _ (List.mem_of_getElem? (i := 129) (by decide +kernel)), rfl⟩
theorem tc_W_size : InT (.code m_W_size.1 m_W_size.2.1 m_W_size.2.2.1 m_W_size.2.2.2.1) := ⟨List.mem_append_right _ (List.mem_of_getElem? (i := 134) (by decide +kernel)), rfl⟩
theorem tm_W_size : InT (.instanceMethod m_W_size.1) := ⟨List.mem_append_right _ (List.mem_of_getElem? (i := 132) (by decide +kernel)), rfl⟩
theorem ts_W_size : InT (.selects m_W_size.1.cls m_W_size.1 m_W_size.1) := ⟨List.mem_append_right _ (List.mem_of_getElem? (i := 133) (by decide +kernel)), rfl⟩
theorem tc_N_isTypeable : InT (.code m_N_isTypeable.1 m_N_isTypeable.2.1 m_N_isTypeable.2.2.1 m_N_isTypeable.2.2.2.1) := ⟨List.mem_append_right _ (List.mem_of_getElem? (i := 137) (by decide +kernel)), rfl⟩
theorem tm_N_isTypeable : InT (.static m_N_isTypeable.1) := ⟨List.mem_append_right _ (List.mem_of_getElem? (i := 136) (by decide +kernel)), rfl⟩
theorem tc_W_add : InT (.code m_W_add.1 m_W_add.2.1 m_W_add.2.2.1 m_W_add.2.2.2.1) := ⟨List.mem_append_right _ (List.mem_of_getElem? (i := 141) (by decide +kernel)), rfl⟩
theorem tm_W_add : InT (.instanceMethod m_W_add.1) := ⟨List.mem_append_right _ (List.mem_of_getElem? (i := 139) (by decide +kernel)), rfl⟩
theorem ts_W_add : InT (.selects m_W_add.1.cls m_W_add.1 m_W_add.1) := ⟨List.mem_append_right _ (List.mem_of_getElem? (i := 140) (by decide +kernel)), rfl⟩
theorem tc_W_cut : InT (.code m_W_cut.1 m_W_cut.2.1 m_W_cut.2.2.1 m_W_cut.2.2.2.1) := ⟨List.mem_append_right _ (List.mem_of_getElem? (i := 145) (by decide +kernel)), rfl⟩
theorem tm_W_cut : InT (.instanceMethod m_W_cut.1) := ⟨List.mem_append_right _ (List.mem_of_getElem? (i := 143) (by decide +kernel)), rfl⟩
theorem ts_W_cut : InT (.selects m_W_cut.1.cls m_W_cut.1 m_W_cut.1) := ⟨List.mem_append_right _ (List.mem_of_getElem? (i := 144) (by decide +kernel)), rfl⟩
theorem tc_N_wipe : InT (.code m_N_wipe.1 m_N_wipe.2.1 m_N_wipe.2.2.1 m_N_wipe.2.2.2.1) := ⟨List.mem_append_right _ (List.mem_of_getElem? (i := 155) (by decide +kernel)), rfl⟩
theorem tm_N_wipe : InT (.instanceMethod m_N_wipe.1) := ⟨List.mem_append_right _ (List.mem_of_getElem? (i := 153) (by decide +kernel)), rfl⟩
theorem ts_N_wipe : InT (.selects m_N_wipe.1.cls m_N_wipe.1 m_N_wipe.1) := ⟨List.mem_append_right _ (List.mem_of_getElem? (i := 154) (by decide +kernel)), rfl⟩
theorem tc_N_text : InT (.code m_N_text.1 m_N_text.2.1 m_N_text.2.2.1 m_N_text.2.2.2.1) := ⟨List.mem_append_right _ (List.mem_of_getElem? (i := 159) (by decide +kernel)), rfl⟩
theorem tm_N_text : InT (.instanceMethod m_N_text.1) := ⟨List.mem_append_right _ (List.mem_of_getElem? (i := 157) (by decide +kernel)), rfl⟩
theorem ts_N_text : InT (.selects m_N_text.1.cls m_N_text.1 m_N_text.1) := ⟨List.mem_append_right _ (List.mem_of_getElem? (i := 158) (by decide +kernel)), rfl⟩
theorem tc_W_at : InT (.code m_W_at.1 m_W_at.2.1 m_W_at.2.2.1 m_W_at.2.2.2.1) := ⟨List.mem_append_right _ (List.mem_of_getElem? (i := 163) (by decide +kernel)), rfl⟩
theorem tm_W_at : InT (.instanceMethod m_W_at.1) := ⟨List.mem_append_right _ (List.mem_of_getElem? (i := 161) (by decide +kernel)), rfl⟩
theorem ts_W_at : InT (.selects m_W_at.1.cls m_W_at.1 m_W_at.1) := ⟨List.mem_append_right _ (List.mem_of_getElem? (i := 162) (by decide +kernel)), rfl⟩
theorem tc_N_table : InT (.code m_N_table.1 m_N_table.2.1 m_N_table.2.2.1 m_N_table.2.2.2.1) := ⟨List.mem_append_right _ (List.mem_of_getElem? (i := 167) (by decide +kernel)), rfl⟩
theorem tm_N_table : InT (.instanceMethod m_N_table.1) := ⟨List.mem_append_right _ (List.mem_of_getElem? (i := 165) (by decide +kernel)), rfl⟩
theorem ts_N_table : InT (.selects m_N_table.1.cls m_N_table.1 m_N_table.1) := ⟨List.mem_append_right _ (List.mem_of_getElem? (i := 166) (by decide +kernel)), rfl⟩
theorem tc_N_look : InT (.code m_N_look.1 m_N_look.2.1 m_N_look.2.2.1 m_N_look.2.2.2.1) := ⟨List.mem_append_right _ (List.mem_of_getElem? (i := 171) (by decide +kernel)), rfl⟩
theorem tm_N_look : InT (.instanceMethod m_N_look.1) := ⟨List.mem_append_right _ (List.mem_of_getElem? (i := 169) (by decide +kernel)), rfl⟩
theorem ts_N_look : InT (.selects m_N_look.1.cls m_N_look.1 m_N_look.1) := ⟨List.mem_append_right _ (List.mem_of_getElem? (i := 170) (by decide +kernel)), rfl⟩
theorem tc_D_kept : InT (.code m_D_kept.1 m_D_kept.2.1 m_D_kept.2.2.1 m_D_kept.2.2.2.1) := ⟨List.mem_append_right _ (List.mem_of_getElem? (i := 175) (by decide +kernel)), rfl⟩
theorem tm_D_kept : InT (.instanceMethod m_D_kept.1) := ⟨List.mem_append_right _ (List.mem_of_getElem? (i := 173) (by decide +kernel)), rfl⟩
theorem ts_D_kept : InT (.selects m_D_kept.1.cls m_D_kept.1 m_D_kept.1) := ⟨List.mem_append_right _ (List.mem_of_getElem? (i := 174) (by decide +kernel)), rfl⟩
theorem tc_L_builtin : InT (.codeWith m_L_builtin.1 m_L_builtin.2.1 m_L_builtin.2.2.1 m_L_builtin.2.2.2.1 m_L_builtin.2.2.2.2) := ⟨List.mem_append_right _ (List.mem_of_getElem? (i := 178) (by decide +kernel)), rfl⟩
theorem tm_L_builtin : InT (.static m_L_builtin.1) := ⟨List.mem_append_right _ (List.mem_of_getElem? (i := 177) (by decide +kernel)), rfl⟩
theorem tc_N_builtin : InT (.code m_N_builtin.1 m_N_builtin.2.1 m_N_builtin.2.2.1 m_N_builtin.2.2.2.1) := ⟨List.mem_append_right _ (List.mem_of_getElem? (i := 184) (by decide +kernel)), rfl⟩
theorem tm_N_builtin : InT (.instanceMethod m_N_builtin.1) := ⟨List.mem_append_right _ (List.mem_of_getElem? (i := 182) (by decide +kernel)), rfl⟩
theorem ts_N_builtin : InT (.selects m_N_builtin.1.cls m_N_builtin.1 m_N_builtin.1) := ⟨List.mem_append_right _ (List.mem_of_getElem? (i := 183) (by decide +kernel)), rfl⟩
theorem tc_D_addBuiltin : InT (.code m_D_addBuiltin.1 m_D_addBuiltin.2.1 m_D_addBuiltin.2.2.1 m_D_addBuiltin.2.2.2.1) := ⟨List.mem_append_right _ (List.mem_of_getElem? (i := 188) (by decide +kernel)), rfl⟩
theorem tm_D_addBuiltin : InT (.instanceMethod m_D_addBuiltin.1) := ⟨List.mem_append_right _ (List.mem_of_getElem? (i := 186) (by decide +kernel)), rfl⟩
theorem ts_D_addBuiltin : InT (.selects m_D_addBuiltin.1.cls m_D_addBuiltin.1 m_D_addBuiltin.1) := ⟨List.mem_append_right _ (List.mem_of_getElem? (i := 187) (by decide +kernel)), rfl⟩
theorem tc_D_add : InT (.code m_D_add.1 m_D_add.2.1 m_D_add.2.2.1 m_D_add.2.2.2.1) := ⟨List.mem_append_right _ (List.mem_of_getElem? (i := 271) (by decide +kernel)), rfl⟩
theorem tm_D_add : InT (.instanceMethod m_D_add.1) := ⟨List.mem_append_right _ (List.mem_of_getElem? (i := 270) (by decide +kernel)), rfl⟩
theorem ts_D_add : InT (.selects m_D_add.1.cls m_D_add.1 m_D_add.1) := ⟨List.mem_append_left _ (List.mem_of_getElem? (i := 1) (by decide +kernel)), rfl⟩
theorem tc_D_depthOf : InT (.code m_D_depthOf.1 m_D_depthOf.2.1 m_D_depthOf.2.2.1 m_D_depthOf.2.2.2.1) := ⟨List.mem_append_right _ (List.mem_of_getElem? (i := 275) (by decide +kernel)), rfl⟩
theorem tm_D_depthOf : InT (.instanceMethod m_D_depthOf.1) := ⟨List.mem_append_right _ (List.mem_of_getElem? (i := 274) (by decide +kernel)), rfl⟩
theorem ts_D_depthOf : InT (.selects m_D_depthOf.1.cls m_D_depthOf.1 m_D_depthOf.1) := ⟨List.mem_append_left _ (List.mem_of_getElem? (i := 2) (by decide +kernel)), rfl⟩
theorem tc_D_areAlike : InT (.code m_D_areAlike.1 m_D_areAlike.2.1 m_D_areAlike.2.2.1 m_D_areAlike.2.2.2.1) := ⟨List.mem_append_right _ (List.mem_of_getElem? (i := 298) (by decide +kernel)), rfl⟩
theorem tm_D_areAlike : InT (.instanceMethod m_D_areAlike.1) := ⟨List.mem_append_right _ (List.mem_of_getElem? (i := 297) (by decide +kernel)), rfl⟩
theorem ts_D_areAlike : InT (.selects m_D_areAlike.1.cls m_D_areAlike.1 m_D_areAlike.1) := ⟨List.mem_append_left _ (List.mem_of_getElem? (i := 3) (by decide +kernel)), rfl⟩
theorem tc_D_keepDrafts : InT (.code m_D_keepDrafts.1 m_D_keepDrafts.2.1 m_D_keepDrafts.2.2.1 m_D_keepDrafts.2.2.2.1) := ⟨List.mem_append_right _ (List.mem_of_getElem? (i := 302) (by decide +kernel)), rfl⟩
theorem tm_D_keepDrafts : InT (.instanceMethod m_D_keepDrafts.1) := ⟨List.mem_append_right _ (List.mem_of_getElem? (i := 300) (by decide +kernel)), rfl⟩
theorem ts_D_keepDrafts : InT (.selects m_D_keepDrafts.1.cls m_D_keepDrafts.1 m_D_keepDrafts.1) := ⟨List.mem_append_right _ (List.mem_of_getElem? (i := 301) (by decide +kernel)), rfl⟩
theorem tc_L_name : InT (.codeWith m_L_name.1 m_L_name.2.1 m_L_name.2.2.1 m_L_name.2.2.2.1 m_L_name.2.2.2.2) := ⟨List.mem_append_right _ (List.mem_of_getElem? (i := 306) (by decide +kernel)), rfl⟩
theorem tm_L_name : InT (.static m_L_name.1) := ⟨List.mem_append_right _ (List.mem_of_getElem? (i := 305) (by decide +kernel)), rfl⟩
theorem tc_N_name : InT (.code m_N_name.1 m_N_name.2.1 m_N_name.2.2.1 m_N_name.2.2.2.1) := ⟨List.mem_append_right _ (List.mem_of_getElem? (i := 310) (by decide +kernel)), rfl⟩
theorem tm_N_name : InT (.instanceMethod m_N_name.1) := ⟨List.mem_append_right _ (List.mem_of_getElem? (i := 308) (by decide +kernel)), rfl⟩
theorem ts_N_name : InT (.selects m_N_name.1.cls m_N_name.1 m_N_name.1) := ⟨List.mem_append_right _ (List.mem_of_getElem? (i := 309) (by decide +kernel)), rfl⟩
theorem tc_D_addName : InT (.code m_D_addName.1 m_D_addName.2.1 m_D_addName.2.2.1 m_D_addName.2.2.2.1) := ⟨List.mem_append_right _ (List.mem_of_getElem? (i := 314) (by decide +kernel)), rfl⟩
theorem tm_D_addName : InT (.instanceMethod m_D_addName.1) := ⟨List.mem_append_right _ (List.mem_of_getElem? (i := 312) (by decide +kernel)), rfl⟩
theorem ts_D_addName : InT (.selects m_D_addName.1.cls m_D_addName.1 m_D_addName.1) := ⟨List.mem_append_right _ (List.mem_of_getElem? (i := 313) (by decide +kernel)), rfl⟩
theorem tc_D_needId : InT (.code m_D_needId.1 m_D_needId.2.1 m_D_needId.2.2.1 m_D_needId.2.2.2.1) := ⟨List.mem_append_right _ (List.mem_of_getElem? (i := 317) (by decide +kernel)), rfl⟩
theorem tm_D_needId : InT (.static m_D_needId.1) := ⟨List.mem_append_right _ (List.mem_of_getElem? (i := 316) (by decide +kernel)), rfl⟩
theorem tc_N_isId : InT (.code m_N_isId.1 m_N_isId.2.1 m_N_isId.2.2.1 m_N_isId.2.2.2.1) := ⟨List.mem_append_right _ (List.mem_of_getElem? (i := 320) (by decide +kernel)), rfl⟩
theorem tm_N_isId : InT (.static m_N_isId.1) := ⟨List.mem_append_right _ (List.mem_of_getElem? (i := 319) (by decide +kernel)), rfl⟩
theorem tc_N_lengthOfId : InT (.code m_N_lengthOfId.1 m_N_lengthOfId.2.1 m_N_lengthOfId.2.2.1 m_N_lengthOfId.2.2.2.1) := ⟨List.mem_append_right _ (List.mem_of_getElem? (i := 323) (by decide +kernel)), rfl⟩
theorem tm_N_lengthOfId : InT (.static m_N_lengthOfId.1) := ⟨List.mem_append_right _ (List.mem_of_getElem? (i := 322) (by decide +kernel)), rfl⟩
theorem tc_N_isSmallLetter : InT (.code m_N_isSmallLetter.1 m_N_isSmallLetter.2.1 m_N_isSmallLetter.2.2.1 m_N_isSmallLetter.2.2.2.1) := ⟨List.mem_append_right _ (List.mem_of_getElem? (i := 326) (by decide +kernel)), rfl⟩
theorem tm_N_isSmallLetter : InT (.static m_N_isSmallLetter.1) := ⟨List.mem_append_right _ (List.mem_of_getElem? (i := 325) (by decide +kernel)), rfl⟩
theorem tc_L_member : InT (.codeWith m_L_member.1 m_L_member.2.1 m_L_member.2.2.1 m_L_member.2.2.2.1 m_L_member.2.2.2.2) := ⟨List.mem_append_right _ (List.mem_of_getElem? (i := 330) (by decide +kernel)), rfl⟩
theorem tm_L_member : InT (.static m_L_member.1) := ⟨List.mem_append_right _ (List.mem_of_getElem? (i := 329) (by decide +kernel)), rfl⟩
theorem tc_N_member : InT (.code m_N_member.1 m_N_member.2.1 m_N_member.2.2.1 m_N_member.2.2.2.1) := ⟨List.mem_append_right _ (List.mem_of_getElem? (i := 334) (by decide +kernel)), rfl⟩
theorem tm_N_member : InT (.instanceMethod m_N_member.1) := ⟨List.mem_append_right _ (List.mem_of_getElem? (i := 332) (by decide +kernel)), rfl⟩
theorem ts_N_member : InT (.selects m_N_member.1.cls m_N_member.1 m_N_member.1) := ⟨List.mem_append_right _ (List.mem_of_getElem? (i := 333) (by decide +kernel)), rfl⟩
theorem tc_D_addMember : InT (.code m_D_addMember.1 m_D_addMember.2.1 m_D_addMember.2.2.1 m_D_addMember.2.2.2.1) := ⟨List.mem_append_right _ (List.mem_of_getElem? (i := 338) (by decide +kernel)), rfl⟩
theorem tm_D_addMember : InT (.instanceMethod m_D_addMember.1) := ⟨List.mem_append_right _ (List.mem_of_getElem? (i := 336) (by decide +kernel)), rfl⟩
theorem ts_D_addMember : InT (.selects m_D_addMember.1.cls m_D_addMember.1 m_D_addMember.1) := ⟨List.mem_append_right _ (List.mem_of_getElem? (i := 337) (by decide +kernel)), rfl⟩
theorem tc_D_needPrefix : InT (.code m_D_needPrefix.1 m_D_needPrefix.2.1 m_D_needPrefix.2.2.1 m_D_needPrefix.2.2.2.1) := ⟨List.mem_append_right _ (List.mem_of_getElem? (i := 342) (by decide +kernel)), rfl⟩
theorem tm_D_needPrefix : InT (.instanceMethod m_D_needPrefix.1) := ⟨List.mem_append_right _ (List.mem_of_getElem? (i := 341) (by decide +kernel)), rfl⟩
theorem ts_D_needPrefix : InT (.selects m_D_needPrefix.1.cls m_D_needPrefix.1 m_D_needPrefix.1) := ⟨List.mem_append_left _ (List.mem_of_getElem? (i := 4) (by decide +kernel)), rfl⟩
theorem tc_D_kindOf : InT (.code m_D_kindOf.1 m_D_kindOf.2.1 m_D_kindOf.2.2.1 m_D_kindOf.2.2.2.1) := ⟨List.mem_append_right _ (List.mem_of_getElem? (i := 346) (by decide +kernel)), rfl⟩
theorem tm_D_kindOf : InT (.instanceMethod m_D_kindOf.1) := ⟨List.mem_append_right _ (List.mem_of_getElem? (i := 344) (by decide +kernel)), rfl⟩
theorem ts_D_kindOf : InT (.selects m_D_kindOf.1.cls m_D_kindOf.1 m_D_kindOf.1) := ⟨List.mem_append_right _ (List.mem_of_getElem? (i := 345) (by decide +kernel)), rfl⟩
theorem tc_L_fill : InT (.codeWith m_L_fill.1 m_L_fill.2.1 m_L_fill.2.2.1 m_L_fill.2.2.2.1 m_L_fill.2.2.2.2) := ⟨List.mem_append_right _ (List.mem_of_getElem? (i := 350) (by decide +kernel)), rfl⟩
theorem tm_L_fill : InT (.static m_L_fill.1) := ⟨List.mem_append_right _ (List.mem_of_getElem? (i := 349) (by decide +kernel)), rfl⟩
theorem tc_N_fill : InT (.code m_N_fill.1 m_N_fill.2.1 m_N_fill.2.2.1 m_N_fill.2.2.2.1) := ⟨List.mem_append_right _ (List.mem_of_getElem? (i := 354) (by decide +kernel)), rfl⟩
theorem tm_N_fill : InT (.instanceMethod m_N_fill.1) := ⟨List.mem_append_right _ (List.mem_of_getElem? (i := 352) (by decide +kernel)), rfl⟩
theorem ts_N_fill : InT (.selects m_N_fill.1.cls m_N_fill.1 m_N_fill.1) := ⟨List.mem_append_right _ (List.mem_of_getElem? (i := 353) (by decide +kernel)), rfl⟩
theorem tc_D_addFilled : InT (.code m_D_addFilled.1 m_D_addFilled.2.1 m_D_addFilled.2.2.1 m_D_addFilled.2.2.2.1) := ⟨List.mem_append_right _ (List.mem_of_getElem? (i := 358) (by decide +kernel)), rfl⟩
theorem tm_D_addFilled : InT (.instanceMethod m_D_addFilled.1) := ⟨List.mem_append_right _ (List.mem_of_getElem? (i := 356) (by decide +kernel)), rfl⟩
theorem ts_D_addFilled : InT (.selects m_D_addFilled.1.cls m_D_addFilled.1 m_D_addFilled.1) := ⟨List.mem_append_right _ (List.mem_of_getElem? (i := 357) (by decide +kernel)), rfl⟩
theorem tc_D_isArgumentOrNone : InT (.code m_D_isArgumentOrNone.1 m_D_isArgumentOrNone.2.1 m_D_isArgumentOrNone.2.2.1 m_D_isArgumentOrNone.2.2.2.1) := ⟨List.mem_append_right _ (List.mem_of_getElem? (i := 363) (by decide +kernel)), rfl⟩
theorem tm_D_isArgumentOrNone : InT (.instanceMethod m_D_isArgumentOrNone.1) := ⟨List.mem_append_right _ (List.mem_of_getElem? (i := 362) (by decide +kernel)), rfl⟩
theorem ts_D_isArgumentOrNone : InT (.selects m_D_isArgumentOrNone.1.cls m_D_isArgumentOrNone.1 m_D_isArgumentOrNone.1) := ⟨List.mem_append_left _ (List.mem_of_getElem? (i := 5) (by decide +kernel)), rfl⟩
theorem tc_D_isType : InT (.code m_D_isType.1 m_D_isType.2.1 m_D_isType.2.2.1 m_D_isType.2.2.2.1) := ⟨List.mem_append_right _ (List.mem_of_getElem? (i := 367) (by decide +kernel)), rfl⟩
theorem tm_D_isType : InT (.instanceMethod m_D_isType.1) := ⟨List.mem_append_right _ (List.mem_of_getElem? (i := 366) (by decide +kernel)), rfl⟩
theorem ts_D_isType : InT (.selects m_D_isType.1.cls m_D_isType.1 m_D_isType.1) := ⟨List.mem_append_left _ (List.mem_of_getElem? (i := 6) (by decide +kernel)), rfl⟩
theorem tc_D_hasGap : InT (.code m_D_hasGap.1 m_D_hasGap.2.1 m_D_hasGap.2.2.1 m_D_hasGap.2.2.2.1) := ⟨List.mem_append_right _ (List.mem_of_getElem? (i := 370) (by decide +kernel)), rfl⟩
theorem tm_D_hasGap : InT (.static m_D_hasGap.1) := ⟨List.mem_append_right _ (List.mem_of_getElem? (i := 369) (by decide +kernel)), rfl⟩
theorem tc_L_wrap : InT (.codeWith m_L_wrap.1 m_L_wrap.2.1 m_L_wrap.2.2.1 m_L_wrap.2.2.2.1 m_L_wrap.2.2.2.2) := ⟨List.mem_append_right _ (List.mem_of_getElem? (i := 374) (by decide +kernel)), rfl⟩
theorem tm_L_wrap : InT (.static m_L_wrap.1) := ⟨List.mem_append_right _ (List.mem_of_getElem? (i := 373) (by decide +kernel)), rfl⟩
theorem tc_N_wrap : InT (.code m_N_wrap.1 m_N_wrap.2.1 m_N_wrap.2.2.1 m_N_wrap.2.2.2.1) := ⟨List.mem_append_right _ (List.mem_of_getElem? (i := 378) (by decide +kernel)), rfl⟩
theorem tm_N_wrap : InT (.instanceMethod m_N_wrap.1) := ⟨List.mem_append_right _ (List.mem_of_getElem? (i := 376) (by decide +kernel)), rfl⟩
theorem ts_N_wrap : InT (.selects m_N_wrap.1.cls m_N_wrap.1 m_N_wrap.1) := ⟨List.mem_append_right _ (List.mem_of_getElem? (i := 377) (by decide +kernel)), rfl⟩
theorem tc_D_addWrapped : InT (.code m_D_addWrapped.1 m_D_addWrapped.2.1 m_D_addWrapped.2.2.1 m_D_addWrapped.2.2.2.1) := ⟨List.mem_append_right _ (List.mem_of_getElem? (i := 382) (by decide +kernel)), rfl⟩
theorem tm_D_addWrapped : InT (.instanceMethod m_D_addWrapped.1) := ⟨List.mem_append_right _ (List.mem_of_getElem? (i := 380) (by decide +kernel)), rfl⟩
theorem ts_D_addWrapped : InT (.selects m_D_addWrapped.1.cls m_D_addWrapped.1 m_D_addWrapped.1) := ⟨List.mem_append_right _ (List.mem_of_getElem? (i := 381) (by decide +kernel)), rfl⟩
theorem tc_D_needType : InT (.code m_D_needType.1 m_D_needType.2.1 m_D_needType.2.2.1 m_D_needType.2.2.2.1) := ⟨List.mem_append_right _ (List.mem_of_getElem? (i := 387) (by decide +kernel)), rfl⟩
theorem tm_D_needType : InT (.instanceMethod m_D_needType.1) := ⟨List.mem_append_right _ (List.mem_of_getElem? (i := 386) (by decide +kernel)), rfl⟩
theorem ts_D_needType : InT (.selects m_D_needType.1.cls m_D_needType.1 m_D_needType.1) := ⟨List.mem_append_left _ (List.mem_of_getElem? (i := 7) (by decide +kernel)), rfl⟩
theorem tc_L_array : InT (.codeWith m_L_array.1 m_L_array.2.1 m_L_array.2.2.1 m_L_array.2.2.2.1 m_L_array.2.2.2.2) := ⟨List.mem_append_right _ (List.mem_of_getElem? (i := 392) (by decide +kernel)), rfl⟩
theorem tm_L_array : InT (.static m_L_array.1) := ⟨List.mem_append_right _ (List.mem_of_getElem? (i := 391) (by decide +kernel)), rfl⟩
theorem tc_N_array : InT (.code m_N_array.1 m_N_array.2.1 m_N_array.2.2.1 m_N_array.2.2.2.1) := ⟨List.mem_append_right _ (List.mem_of_getElem? (i := 396) (by decide +kernel)), rfl⟩
theorem tm_N_array : InT (.instanceMethod m_N_array.1) := ⟨List.mem_append_right _ (List.mem_of_getElem? (i := 394) (by decide +kernel)), rfl⟩
theorem ts_N_array : InT (.selects m_N_array.1.cls m_N_array.1 m_N_array.1) := ⟨List.mem_append_right _ (List.mem_of_getElem? (i := 395) (by decide +kernel)), rfl⟩
theorem tc_D_addArray : InT (.code m_D_addArray.1 m_D_addArray.2.1 m_D_addArray.2.2.1 m_D_addArray.2.2.2.1) := ⟨List.mem_append_right _ (List.mem_of_getElem? (i := 400) (by decide +kernel)), rfl⟩
theorem tm_D_addArray : InT (.instanceMethod m_D_addArray.1) := ⟨List.mem_append_right _ (List.mem_of_getElem? (i := 398) (by decide +kernel)), rfl⟩
theorem ts_D_addArray : InT (.selects m_D_addArray.1.cls m_D_addArray.1 m_D_addArray.1) := ⟨List.mem_append_right _ (List.mem_of_getElem? (i := 399) (by decide +kernel)), rfl⟩
theorem tc_L_function : InT (.codeWith m_L_function.1 m_L_function.2.1 m_L_function.2.2.1 m_L_function.2.2.2.1 m_L_function.2.2.2.2) := ⟨List.mem_append_right _ (List.mem_of_getElem? (i := 404) (by decide +kernel)), rfl⟩
theorem tm_L_function : InT (.static m_L_function.1) := ⟨List.mem_append_right _ (List.mem_of_getElem? (i := 403) (by decide +kernel)), rfl⟩
theorem tc_N_function : InT (.code m_N_function.1 m_N_function.2.1 m_N_function.2.2.1 m_N_function.2.2.2.1) := ⟨List.mem_append_right _ (List.mem_of_getElem? (i := 408) (by decide +kernel)), rfl⟩
theorem tm_N_function : InT (.instanceMethod m_N_function.1) := ⟨List.mem_append_right _ (List.mem_of_getElem? (i := 406) (by decide +kernel)), rfl⟩
theorem ts_N_function : InT (.selects m_N_function.1.cls m_N_function.1 m_N_function.1) := ⟨List.mem_append_right _ (List.mem_of_getElem? (i := 407) (by decide +kernel)), rfl⟩
theorem tc_D_addFunction : InT (.code m_D_addFunction.1 m_D_addFunction.2.1 m_D_addFunction.2.2.1 m_D_addFunction.2.2.2.1) := ⟨List.mem_append_right _ (List.mem_of_getElem? (i := 412) (by decide +kernel)), rfl⟩
theorem tm_D_addFunction : InT (.instanceMethod m_D_addFunction.1) := ⟨List.mem_append_right _ (List.mem_of_getElem? (i := 410) (by decide +kernel)), rfl⟩
theorem ts_D_addFunction : InT (.selects m_D_addFunction.1.cls m_D_addFunction.1 m_D_addFunction.1) := ⟨List.mem_append_right _ (List.mem_of_getElem? (i := 411) (by decide +kernel)), rfl⟩
theorem tc_D_needParameters : InT (.code m_D_needParameters.1 m_D_needParameters.2.1 m_D_needParameters.2.2.1 m_D_needParameters.2.2.2.1) := ⟨List.mem_append_right _ (List.mem_of_getElem? (i := 416) (by decide +kernel)), rfl⟩
theorem tm_D_needParameters : InT (.instanceMethod m_D_needParameters.1) := ⟨List.mem_append_right _ (List.mem_of_getElem? (i := 415) (by decide +kernel)), rfl⟩
theorem ts_D_needParameters : InT (.selects m_D_needParameters.1.cls m_D_needParameters.1 m_D_needParameters.1) := ⟨List.mem_append_left _ (List.mem_of_getElem? (i := 8) (by decide +kernel)), rfl⟩
theorem tc_D_isParameterOrNone : InT (.code m_D_isParameterOrNone.1 m_D_isParameterOrNone.2.1 m_D_isParameterOrNone.2.2.1 m_D_isParameterOrNone.2.2.2.1) := ⟨List.mem_append_right _ (List.mem_of_getElem? (i := 420) (by decide +kernel)), rfl⟩
theorem tm_D_isParameterOrNone : InT (.instanceMethod m_D_isParameterOrNone.1) := ⟨List.mem_append_right _ (List.mem_of_getElem? (i := 419) (by decide +kernel)), rfl⟩
theorem ts_D_isParameterOrNone : InT (.selects m_D_isParameterOrNone.1.cls m_D_isParameterOrNone.1 m_D_isParameterOrNone.1) := ⟨List.mem_append_left _ (List.mem_of_getElem? (i := 9) (by decide +kernel)), rfl⟩
theorem tc_L_literal : InT (.codeWith m_L_literal.1 m_L_literal.2.1 m_L_literal.2.2.1 m_L_literal.2.2.2.1 m_L_literal.2.2.2.2) := ⟨List.mem_append_right _ (List.mem_of_getElem? (i := 424) (by decide +kernel)), rfl⟩
theorem tm_L_literal : InT (.static m_L_literal.1) := ⟨List.mem_append_right _ (List.mem_of_getElem? (i := 423) (by decide +kernel)), rfl⟩
theorem tc_N_literal : InT (.code m_N_literal.1 m_N_literal.2.1 m_N_literal.2.2.1 m_N_literal.2.2.2.1) := ⟨List.mem_append_right _ (List.mem_of_getElem? (i := 428) (by decide +kernel)), rfl⟩
theorem tm_N_literal : InT (.instanceMethod m_N_literal.1) := ⟨List.mem_append_right _ (List.mem_of_getElem? (i := 426) (by decide +kernel)), rfl⟩
theorem ts_N_literal : InT (.selects m_N_literal.1.cls m_N_literal.1 m_N_literal.1) := ⟨List.mem_append_right _ (List.mem_of_getElem? (i := 427) (by decide +kernel)), rfl⟩
theorem tc_D_addLiteral : InT (.code m_D_addLiteral.1 m_D_addLiteral.2.1 m_D_addLiteral.2.2.1 m_D_addLiteral.2.2.2.1) := ⟨List.mem_append_right _ (List.mem_of_getElem? (i := 432) (by decide +kernel)), rfl⟩
theorem tm_D_addLiteral : InT (.instanceMethod m_D_addLiteral.1) := ⟨List.mem_append_right _ (List.mem_of_getElem? (i := 430) (by decide +kernel)), rfl⟩
theorem ts_D_addLiteral : InT (.selects m_D_addLiteral.1.cls m_D_addLiteral.1 m_D_addLiteral.1) := ⟨List.mem_append_right _ (List.mem_of_getElem? (i := 431) (by decide +kernel)), rfl⟩
theorem tc_L_entity : InT (.codeWith m_L_entity.1 m_L_entity.2.1 m_L_entity.2.2.1 m_L_entity.2.2.2.1 m_L_entity.2.2.2.2) := ⟨List.mem_append_right _ (List.mem_of_getElem? (i := 439) (by decide +kernel)), rfl⟩
theorem tm_L_entity : InT (.static m_L_entity.1) := ⟨List.mem_append_right _ (List.mem_of_getElem? (i := 438) (by decide +kernel)), rfl⟩
theorem tc_N_entity : InT (.code m_N_entity.1 m_N_entity.2.1 m_N_entity.2.2.1 m_N_entity.2.2.2.1) := ⟨List.mem_append_right _ (List.mem_of_getElem? (i := 443) (by decide +kernel)), rfl⟩
theorem tm_N_entity : InT (.instanceMethod m_N_entity.1) := ⟨List.mem_append_right _ (List.mem_of_getElem? (i := 441) (by decide +kernel)), rfl⟩
theorem ts_N_entity : InT (.selects m_N_entity.1.cls m_N_entity.1 m_N_entity.1) := ⟨List.mem_append_right _ (List.mem_of_getElem? (i := 442) (by decide +kernel)), rfl⟩
theorem tc_D_addEntity : InT (.code m_D_addEntity.1 m_D_addEntity.2.1 m_D_addEntity.2.2.1 m_D_addEntity.2.2.2.1) := ⟨List.mem_append_right _ (List.mem_of_getElem? (i := 447) (by decide +kernel)), rfl⟩
theorem tm_D_addEntity : InT (.instanceMethod m_D_addEntity.1) := ⟨List.mem_append_right _ (List.mem_of_getElem? (i := 445) (by decide +kernel)), rfl⟩
theorem ts_D_addEntity : InT (.selects m_D_addEntity.1.cls m_D_addEntity.1 m_D_addEntity.1) := ⟨List.mem_append_right _ (List.mem_of_getElem? (i := 446) (by decide +kernel)), rfl⟩
theorem tc_L_write : InT (.codeWith m_L_write.1 m_L_write.2.1 m_L_write.2.2.1 m_L_write.2.2.2.1 m_L_write.2.2.2.2) := ⟨List.mem_append_right _ (List.mem_of_getElem? (i := 451) (by decide +kernel)), rfl⟩
theorem tm_L_write : InT (.static m_L_write.1) := ⟨List.mem_append_right _ (List.mem_of_getElem? (i := 450) (by decide +kernel)), rfl⟩
theorem tc_N_write : InT (.code m_N_write.1 m_N_write.2.1 m_N_write.2.2.1 m_N_write.2.2.2.1) := ⟨List.mem_append_right _ (List.mem_of_getElem? (i := 456) (by decide +kernel)), rfl⟩
theorem tm_N_write : InT (.instanceMethod m_N_write.1) := ⟨List.mem_append_right _ (List.mem_of_getElem? (i := 454) (by decide +kernel)), rfl⟩
theorem ts_N_write : InT (.selects m_N_write.1.cls m_N_write.1 m_N_write.1) := ⟨List.mem_append_right _ (List.mem_of_getElem? (i := 455) (by decide +kernel)), rfl⟩
theorem tc_P_putEntity : InT (.code m_P_putEntity.1 m_P_putEntity.2.1 m_P_putEntity.2.2.1 m_P_putEntity.2.2.2.1) := ⟨List.mem_append_right _ (List.mem_of_getElem? (i := 464) (by decide +kernel)), rfl⟩
theorem tm_P_putEntity : InT (.instanceMethod m_P_putEntity.1) := ⟨List.mem_append_right _ (List.mem_of_getElem? (i := 462) (by decide +kernel)), rfl⟩
theorem ts_P_putEntity : InT (.selects m_P_putEntity.1.cls m_P_putEntity.1 m_P_putEntity.1) := ⟨List.mem_append_right _ (List.mem_of_getElem? (i := 463) (by decide +kernel)), rfl⟩
theorem tc_P_put : InT (.code m_P_put.1 m_P_put.2.1 m_P_put.2.2.1 m_P_put.2.2.2.1) := ⟨List.mem_append_right _ (List.mem_of_getElem? (i := 469) (by decide +kernel)), rfl⟩
theorem tm_P_put : InT (.instanceMethod m_P_put.1) := ⟨List.mem_append_right _ (List.mem_of_getElem? (i := 468) (by decide +kernel)), rfl⟩
theorem ts_P_put : InT (.selects m_P_put.1.cls m_P_put.1 m_P_put.1) := ⟨List.mem_append_left _ (List.mem_of_getElem? (i := 10) (by decide +kernel)), rfl⟩
theorem tc_P_putUntold : InT (.code m_P_putUntold.1 m_P_putUntold.2.1 m_P_putUntold.2.2.1 m_P_putUntold.2.2.2.1) := ⟨List.mem_append_right _ (List.mem_of_getElem? (i := 491) (by decide +kernel)), rfl⟩
theorem tm_P_putUntold : InT (.instanceMethod m_P_putUntold.1) := ⟨List.mem_append_right _ (List.mem_of_getElem? (i := 490) (by decide +kernel)), rfl⟩
theorem ts_P_putUntold : InT (.selects m_P_putUntold.1.cls m_P_putUntold.1 m_P_putUntold.1) := ⟨List.mem_append_left _ (List.mem_of_getElem? (i := 11) (by decide +kernel)), rfl⟩
theorem tc_P_needLevel : InT (.code m_P_needLevel.1 m_P_needLevel.2.1 m_P_needLevel.2.2.1 m_P_needLevel.2.2.2.1) := ⟨List.mem_append_right _ (List.mem_of_getElem? (i := 494) (by decide +kernel)), rfl⟩
theorem tm_P_needLevel : InT (.static m_P_needLevel.1) := ⟨List.mem_append_right _ (List.mem_of_getElem? (i := 493) (by decide +kernel)), rfl⟩
theorem tc_P_putPrefix : InT (.code m_P_putPrefix.1 m_P_putPrefix.2.1 m_P_putPrefix.2.2.1 m_P_putPrefix.2.2.2.1) := ⟨List.mem_append_right _ (List.mem_of_getElem? (i := 500) (by decide +kernel)), rfl⟩
theorem tm_P_putPrefix : InT (.instanceMethod m_P_putPrefix.1) := ⟨List.mem_append_right _ (List.mem_of_getElem? (i := 499) (by decide +kernel)), rfl⟩
theorem ts_P_putPrefix : InT (.selects m_P_putPrefix.1.cls m_P_putPrefix.1 m_P_putPrefix.1) := ⟨List.mem_append_left _ (List.mem_of_getElem? (i := 12) (by decide +kernel)), rfl⟩
theorem tc_P_putTold : InT (.code m_P_putTold.1 m_P_putTold.2.1 m_P_putTold.2.2.1 m_P_putTold.2.2.2.1) := ⟨List.mem_append_right _ (List.mem_of_getElem? (i := 504) (by decide +kernel)), rfl⟩
theorem tm_P_putTold : InT (.instanceMethod m_P_putTold.1) := ⟨List.mem_append_right _ (List.mem_of_getElem? (i := 503) (by decide +kernel)), rfl⟩
theorem ts_P_putTold : InT (.selects m_P_putTold.1.cls m_P_putTold.1 m_P_putTold.1) := ⟨List.mem_append_left _ (List.mem_of_getElem? (i := 13) (by decide +kernel)), rfl⟩
theorem tc_W_find : InT (.code m_W_find.1 m_W_find.2.1 m_W_find.2.2.1 m_W_find.2.2.2.1) := ⟨List.mem_append_right _ (List.mem_of_getElem? (i := 508) (by decide +kernel)), rfl⟩
theorem tm_W_find : InT (.instanceMethod m_W_find.1) := ⟨List.mem_append_right _ (List.mem_of_getElem? (i := 506) (by decide +kernel)), rfl⟩
theorem ts_W_find : InT (.selects m_W_find.1.cls m_W_find.1 m_W_find.1) := ⟨List.mem_append_right _ (List.mem_of_getElem? (i := 507) (by decide +kernel)), rfl⟩
theorem tc_P_putBase36Digit : InT (.code m_P_putBase36Digit.1 m_P_putBase36Digit.2.1 m_P_putBase36Digit.2.2.1 m_P_putBase36Digit.2.2.2.1) := ⟨List.mem_append_right _ (List.mem_of_getElem? (i := 512) (by decide +kernel)), rfl⟩
theorem tm_P_putBase36Digit : InT (.instanceMethod m_P_putBase36Digit.1) := ⟨List.mem_append_right _ (List.mem_of_getElem? (i := 511) (by decide +kernel)), rfl⟩
theorem ts_P_putBase36Digit : InT (.selects m_P_putBase36Digit.1.cls m_P_putBase36Digit.1 m_P_putBase36Digit.1) := ⟨List.mem_append_left _ (List.mem_of_getElem? (i := 14) (by decide +kernel)), rfl⟩
theorem tc_P_putId : InT (.code m_P_putId.1 m_P_putId.2.1 m_P_putId.2.2.1 m_P_putId.2.2.2.1) := ⟨List.mem_append_right _ (List.mem_of_getElem? (i := 516) (by decide +kernel)), rfl⟩
theorem tm_P_putId : InT (.instanceMethod m_P_putId.1) := ⟨List.mem_append_right _ (List.mem_of_getElem? (i := 515) (by decide +kernel)), rfl⟩
theorem ts_P_putId : InT (.selects m_P_putId.1.cls m_P_putId.1 m_P_putId.1) := ⟨List.mem_append_left _ (List.mem_of_getElem? (i := 15) (by decide +kernel)), rfl⟩
theorem tc_P_putArguments : InT (.code m_P_putArguments.1 m_P_putArguments.2.1 m_P_putArguments.2.2.1 m_P_putArguments.2.2.2.1) := ⟨List.mem_append_right _ (List.mem_of_getElem? (i := 521) (by decide +kernel)), rfl⟩
theorem tm_P_putArguments : InT (.instanceMethod m_P_putArguments.1) := ⟨List.mem_append_right _ (List.mem_of_getElem? (i := 520) (by decide +kernel)), rfl⟩
theorem ts_P_putArguments : InT (.selects m_P_putArguments.1.cls m_P_putArguments.1 m_P_putArguments.1) := ⟨List.mem_append_left _ (List.mem_of_getElem? (i := 16) (by decide +kernel)), rfl⟩
theorem tc_P_putLiteral : InT (.code m_P_putLiteral.1 m_P_putLiteral.2.1 m_P_putLiteral.2.2.1 m_P_putLiteral.2.2.2.1) := ⟨List.mem_append_right _ (List.mem_of_getElem? (i := 525) (by decide +kernel)), rfl⟩
theorem tm_P_putLiteral : InT (.instanceMethod m_P_putLiteral.1) := ⟨List.mem_append_right _ (List.mem_of_getElem? (i := 524) (by decide +kernel)), rfl⟩
theorem ts_P_putLiteral : InT (.selects m_P_putLiteral.1.cls m_P_putLiteral.1 m_P_putLiteral.1) := ⟨List.mem_append_left _ (List.mem_of_getElem? (i := 17) (by decide +kernel)), rfl⟩
theorem tc_P_putBuiltin : InT (.code m_P_putBuiltin.1 m_P_putBuiltin.2.1 m_P_putBuiltin.2.2.1 m_P_putBuiltin.2.2.2.1) := ⟨List.mem_append_right _ (List.mem_of_getElem? (i := 529) (by decide +kernel)), rfl⟩
theorem tm_P_putBuiltin : InT (.instanceMethod m_P_putBuiltin.1) := ⟨List.mem_append_right _ (List.mem_of_getElem? (i := 528) (by decide +kernel)), rfl⟩
theorem ts_P_putBuiltin : InT (.selects m_P_putBuiltin.1.cls m_P_putBuiltin.1 m_P_putBuiltin.1) := ⟨List.mem_append_left _ (List.mem_of_getElem? (i := 18) (by decide +kernel)), rfl⟩
theorem tc_P_putDecimal : InT (.code m_P_putDecimal.1 m_P_putDecimal.2.1 m_P_putDecimal.2.2.1 m_P_putDecimal.2.2.2.1) := ⟨List.mem_append_right _ (List.mem_of_getElem? (i := 576) (by decide +kernel)), rfl⟩
theorem tm_P_putDecimal : InT (.instanceMethod m_P_putDecimal.1) := ⟨List.mem_append_right _ (List.mem_of_getElem? (i := 575) (by decide +kernel)), rfl⟩
theorem ts_P_putDecimal : InT (.selects m_P_putDecimal.1.cls m_P_putDecimal.1 m_P_putDecimal.1) := ⟨List.mem_append_left _ (List.mem_of_getElem? (i := 19) (by decide +kernel)), rfl⟩
theorem tc_P_putType : InT (.code m_P_putType.1 m_P_putType.2.1 m_P_putType.2.2.1 m_P_putType.2.2.2.1) := ⟨List.mem_append_right _ (List.mem_of_getElem? (i := 581) (by decide +kernel)), rfl⟩
theorem tm_P_putType : InT (.instanceMethod m_P_putType.1) := ⟨List.mem_append_right _ (List.mem_of_getElem? (i := 580) (by decide +kernel)), rfl⟩
theorem ts_P_putType : InT (.selects m_P_putType.1.cls m_P_putType.1 m_P_putType.1) := ⟨List.mem_append_left _ (List.mem_of_getElem? (i := 20) (by decide +kernel)), rfl⟩
theorem tc_P_putFilled : InT (.code m_P_putFilled.1 m_P_putFilled.2.1 m_P_putFilled.2.2.1 m_P_putFilled.2.2.2.1) := ⟨List.mem_append_right _ (List.mem_of_getElem? (i := 585) (by decide +kernel)), rfl⟩
theorem tm_P_putFilled : InT (.instanceMethod m_P_putFilled.1) := ⟨List.mem_append_right _ (List.mem_of_getElem? (i := 584) (by decide +kernel)), rfl⟩
theorem ts_P_putFilled : InT (.selects m_P_putFilled.1.cls m_P_putFilled.1 m_P_putFilled.1) := ⟨List.mem_append_left _ (List.mem_of_getElem? (i := 21) (by decide +kernel)), rfl⟩
theorem tc_P_putWrapping : InT (.code m_P_putWrapping.1 m_P_putWrapping.2.1 m_P_putWrapping.2.2.1 m_P_putWrapping.2.2.2.1) := ⟨List.mem_append_right _ (List.mem_of_getElem? (i := 589) (by decide +kernel)), rfl⟩
theorem tm_P_putWrapping : InT (.instanceMethod m_P_putWrapping.1) := ⟨List.mem_append_right _ (List.mem_of_getElem? (i := 588) (by decide +kernel)), rfl⟩
theorem ts_P_putWrapping : InT (.selects m_P_putWrapping.1.cls m_P_putWrapping.1 m_P_putWrapping.1) := ⟨List.mem_append_left _ (List.mem_of_getElem? (i := 22) (by decide +kernel)), rfl⟩
theorem tc_P_putParameters : InT (.code m_P_putParameters.1 m_P_putParameters.2.1 m_P_putParameters.2.2.1 m_P_putParameters.2.2.2.1) := ⟨List.mem_append_right _ (List.mem_of_getElem? (i := 594) (by decide +kernel)), rfl⟩
theorem tm_P_putParameters : InT (.instanceMethod m_P_putParameters.1) := ⟨List.mem_append_right _ (List.mem_of_getElem? (i := 593) (by decide +kernel)), rfl⟩
theorem ts_P_putParameters : InT (.selects m_P_putParameters.1.cls m_P_putParameters.1 m_P_putParameters.1) := ⟨List.mem_append_left _ (List.mem_of_getElem? (i := 23) (by decide +kernel)), rfl⟩
theorem tc_W_take : InT (.code m_W_take.1 m_W_take.2.1 m_W_take.2.2.1 m_W_take.2.2.2.1) := ⟨List.mem_append_right _ (List.mem_of_getElem? (i := 598) (by decide +kernel)), rfl⟩
theorem tm_W_take : InT (.instanceMethod m_W_take.1) := ⟨List.mem_append_right _ (List.mem_of_getElem? (i := 596) (by decide +kernel)), rfl⟩
theorem ts_W_take : InT (.selects m_W_take.1.cls m_W_take.1 m_W_take.1) := ⟨List.mem_append_right _ (List.mem_of_getElem? (i := 597) (by decide +kernel)), rfl⟩
theorem tc_L_read : InT (.codeWith m_L_read.1 m_L_read.2.1 m_L_read.2.2.1 m_L_read.2.2.2.1 m_L_read.2.2.2.2) := ⟨List.mem_append_right _ (List.mem_of_getElem? (i := 604) (by decide +kernel)), rfl⟩
theorem tm_L_read : InT (.static m_L_read.1) := ⟨List.mem_append_right _ (List.mem_of_getElem? (i := 603) (by decide +kernel)), rfl⟩
theorem tc_N_read : InT (.code m_N_read.1 m_N_read.2.1 m_N_read.2.2.1 m_N_read.2.2.2.1) := ⟨List.mem_append_right _ (List.mem_of_getElem? (i := 608) (by decide +kernel)), rfl⟩
theorem tm_N_read : InT (.instanceMethod m_N_read.1) := ⟨List.mem_append_right _ (List.mem_of_getElem? (i := 606) (by decide +kernel)), rfl⟩
theorem ts_N_read : InT (.selects m_N_read.1.cls m_N_read.1 m_N_read.1) := ⟨List.mem_append_right _ (List.mem_of_getElem? (i := 607) (by decide +kernel)), rfl⟩
theorem tc_R_readEntity : InT (.code m_R_readEntity.1 m_R_readEntity.2.1 m_R_readEntity.2.2.1 m_R_readEntity.2.2.2.1) := ⟨List.mem_append_right _ (List.mem_of_getElem? (i := 612) (by decide +kernel)), rfl⟩
theorem tm_R_readEntity : InT (.instanceMethod m_R_readEntity.1) := ⟨List.mem_append_right _ (List.mem_of_getElem? (i := 610) (by decide +kernel)), rfl⟩
theorem ts_R_readEntity : InT (.selects m_R_readEntity.1.cls m_R_readEntity.1 m_R_readEntity.1) := ⟨List.mem_append_right _ (List.mem_of_getElem? (i := 611) (by decide +kernel)), rfl⟩
theorem tc_R_pass : InT (.code m_R_pass.1 m_R_pass.2.1 m_R_pass.2.2.1 m_R_pass.2.2.2.1) := ⟨List.mem_append_right _ (List.mem_of_getElem? (i := 617) (by decide +kernel)), rfl⟩
theorem tm_R_pass : InT (.instanceMethod m_R_pass.1) := ⟨List.mem_append_right _ (List.mem_of_getElem? (i := 616) (by decide +kernel)), rfl⟩
theorem ts_R_pass : InT (.selects m_R_pass.1.cls m_R_pass.1 m_R_pass.1) := ⟨List.mem_append_left _ (List.mem_of_getElem? (i := 24) (by decide +kernel)), rfl⟩
theorem tc_R_next : InT (.code m_R_next.1 m_R_next.2.1 m_R_next.2.2.1 m_R_next.2.2.2.1) := ⟨List.mem_append_right _ (List.mem_of_getElem? (i := 621) (by decide +kernel)), rfl⟩
theorem tm_R_next : InT (.instanceMethod m_R_next.1) := ⟨List.mem_append_right _ (List.mem_of_getElem? (i := 620) (by decide +kernel)), rfl⟩
theorem ts_R_next : InT (.selects m_R_next.1.cls m_R_next.1 m_R_next.1) := ⟨List.mem_append_left _ (List.mem_of_getElem? (i := 25) (by decide +kernel)), rfl⟩
theorem tc_R_need : InT (.code m_R_need.1 m_R_need.2.1 m_R_need.2.2.1 m_R_need.2.2.2.1) := ⟨List.mem_append_right _ (List.mem_of_getElem? (i := 625) (by decide +kernel)), rfl⟩
theorem tm_R_need : InT (.static m_R_need.1) := ⟨List.mem_append_right _ (List.mem_of_getElem? (i := 624) (by decide +kernel)), rfl⟩
theorem tc_R_readScoped : InT (.code m_R_readScoped.1 m_R_readScoped.2.1 m_R_readScoped.2.2.1 m_R_readScoped.2.2.2.1) := ⟨List.mem_append_right _ (List.mem_of_getElem? (i := 632) (by decide +kernel)), rfl⟩
theorem tm_R_readScoped : InT (.instanceMethod m_R_readScoped.1) := ⟨List.mem_append_right _ (List.mem_of_getElem? (i := 631) (by decide +kernel)), rfl⟩
theorem ts_R_readScoped : InT (.selects m_R_readScoped.1.cls m_R_readScoped.1 m_R_readScoped.1) := ⟨List.mem_append_left _ (List.mem_of_getElem? (i := 26) (by decide +kernel)), rfl⟩
theorem tc_R_readNested : InT (.code m_R_readNested.1 m_R_readNested.2.1 m_R_readNested.2.2.1 m_R_readNested.2.2.2.1) := ⟨List.mem_append_right _ (List.mem_of_getElem? (i := 636) (by decide +kernel)), rfl⟩
theorem tm_R_readNested : InT (.instanceMethod m_R_readNested.1) := ⟨List.mem_append_right _ (List.mem_of_getElem? (i := 635) (by decide +kernel)), rfl⟩
theorem ts_R_readNested : InT (.selects m_R_readNested.1.cls m_R_readNested.1 m_R_readNested.1) := ⟨List.mem_append_left _ (List.mem_of_getElem? (i := 27) (by decide +kernel)), rfl⟩
theorem tc_R_readNestedStart : InT (.code m_R_readNestedStart.1 m_R_readNestedStart.2.1 m_R_readNestedStart.2.2.1 m_R_readNestedStart.2.2.2.1) := ⟨List.mem_append_right _ (List.mem_of_getElem? (i := 640) (by decide +kernel)), rfl⟩
theorem tm_R_readNestedStart : InT (.instanceMethod m_R_readNestedStart.1) := ⟨List.mem_append_right _ (List.mem_of_getElem? (i := 639) (by decide +kernel)), rfl⟩
theorem ts_R_readNestedStart : InT (.selects m_R_readNestedStart.1.cls m_R_readNestedStart.1 m_R_readNestedStart.1) := ⟨List.mem_append_left _ (List.mem_of_getElem? (i := 28) (by decide +kernel)), rfl⟩
theorem tc_R_readTold : InT (.code m_R_readTold.1 m_R_readTold.2.1 m_R_readTold.2.2.1 m_R_readTold.2.2.2.1) := ⟨List.mem_append_right _ (List.mem_of_getElem? (i := 644) (by decide +kernel)), rfl⟩
theorem tm_R_readTold : InT (.instanceMethod m_R_readTold.1) := ⟨List.mem_append_right _ (List.mem_of_getElem? (i := 643) (by decide +kernel)), rfl⟩
theorem ts_R_readTold : InT (.selects m_R_readTold.1.cls m_R_readTold.1 m_R_readTold.1) := ⟨List.mem_append_left _ (List.mem_of_getElem? (i := 29) (by decide +kernel)), rfl⟩
theorem tc_R_readNumber : InT (.code m_R_readNumber.1 m_R_readNumber.2.1 m_R_readNumber.2.2.1 m_R_readNumber.2.2.2.1) := ⟨List.mem_append_right _ (List.mem_of_getElem? (i := 648) (by decide +kernel)), rfl⟩
theorem tm_R_readNumber : InT (.instanceMethod m_R_readNumber.1) := ⟨List.mem_append_right _ (List.mem_of_getElem? (i := 647) (by decide +kernel)), rfl⟩
theorem ts_R_readNumber : InT (.selects m_R_readNumber.1.cls m_R_readNumber.1 m_R_readNumber.1) := ⟨List.mem_append_left _ (List.mem_of_getElem? (i := 30) (by decide +kernel)), rfl⟩
theorem tc_R_digitOf : InT (.code m_R_digitOf.1 m_R_digitOf.2.1 m_R_digitOf.2.2.1 m_R_digitOf.2.2.2.1) := ⟨List.mem_append_right _ (List.mem_of_getElem? (i := 651) (by decide +kernel)), rfl⟩
theorem tm_R_digitOf : InT (.static m_R_digitOf.1) := ⟨List.mem_append_right _ (List.mem_of_getElem? (i := 650) (by decide +kernel)), rfl⟩
theorem tc_R_readId : InT (.code m_R_readId.1 m_R_readId.2.1 m_R_readId.2.2.1 m_R_readId.2.2.2.1) := ⟨List.mem_append_right _ (List.mem_of_getElem? (i := 655) (by decide +kernel)), rfl⟩
theorem tm_R_readId : InT (.instanceMethod m_R_readId.1) := ⟨List.mem_append_right _ (List.mem_of_getElem? (i := 654) (by decide +kernel)), rfl⟩
theorem ts_R_readId : InT (.selects m_R_readId.1.cls m_R_readId.1 m_R_readId.1) := ⟨List.mem_append_left _ (List.mem_of_getElem? (i := 31) (by decide +kernel)), rfl⟩
theorem tc_R_readNestedStep : InT (.code m_R_readNestedStep.1 m_R_readNestedStep.2.1 m_R_readNestedStep.2.2.1 m_R_readNestedStep.2.2.2.1) := ⟨List.mem_append_right _ (List.mem_of_getElem? (i := 662) (by decide +kernel)), rfl⟩
theorem tm_R_readNestedStep : InT (.instanceMethod m_R_readNestedStep.1) := ⟨List.mem_append_right _ (List.mem_of_getElem? (i := 661) (by decide +kernel)), rfl⟩
theorem ts_R_readNestedStep : InT (.selects m_R_readNestedStep.1.cls m_R_readNestedStep.1 m_R_readNestedStep.1) := ⟨List.mem_append_left _ (List.mem_of_getElem? (i := 32) (by decide +kernel)), rfl⟩
theorem tc_R_readFilled : InT (.code m_R_readFilled.1 m_R_readFilled.2.1 m_R_readFilled.2.2.1 m_R_readFilled.2.2.2.1) := ⟨List.mem_append_right _ (List.mem_of_getElem? (i := 666) (by decide +kernel)), rfl⟩
theorem tm_R_readFilled : InT (.instanceMethod m_R_readFilled.1) := ⟨List.mem_append_right _ (List.mem_of_getElem? (i := 665) (by decide +kernel)), rfl⟩
theorem ts_R_readFilled : InT (.selects m_R_readFilled.1.cls m_R_readFilled.1 m_R_readFilled.1) := ⟨List.mem_append_left _ (List.mem_of_getElem? (i := 33) (by decide +kernel)), rfl⟩
theorem tc_R_readArgument : InT (.code m_R_readArgument.1 m_R_readArgument.2.1 m_R_readArgument.2.2.1 m_R_readArgument.2.2.2.1) := ⟨List.mem_append_right _ (List.mem_of_getElem? (i := 670) (by decide +kernel)), rfl⟩
theorem tm_R_readArgument : InT (.instanceMethod m_R_readArgument.1) := ⟨List.mem_append_right _ (List.mem_of_getElem? (i := 669) (by decide +kernel)), rfl⟩
theorem ts_R_readArgument : InT (.selects m_R_readArgument.1.cls m_R_readArgument.1 m_R_readArgument.1) := ⟨List.mem_append_left _ (List.mem_of_getElem? (i := 34) (by decide +kernel)), rfl⟩
theorem tc_R_readLiteral : InT (.code m_R_readLiteral.1 m_R_readLiteral.2.1 m_R_readLiteral.2.2.1 m_R_readLiteral.2.2.2.1) := ⟨List.mem_append_right _ (List.mem_of_getElem? (i := 674) (by decide +kernel)), rfl⟩
theorem tm_R_readLiteral : InT (.instanceMethod m_R_readLiteral.1) := ⟨List.mem_append_right _ (List.mem_of_getElem? (i := 673) (by decide +kernel)), rfl⟩
theorem ts_R_readLiteral : InT (.selects m_R_readLiteral.1.cls m_R_readLiteral.1 m_R_readLiteral.1) := ⟨List.mem_append_left _ (List.mem_of_getElem? (i := 35) (by decide +kernel)), rfl⟩
theorem tc_N_builtinOfLetter : InT (.code m_N_builtinOfLetter.1 m_N_builtinOfLetter.2.1 m_N_builtinOfLetter.2.2.1 m_N_builtinOfLetter.2.2.2.1) := ⟨List.mem_append_right _ (List.mem_of_getElem? (i := 677) (by decide +kernel)), rfl⟩
theorem tm_N_builtinOfLetter : InT (.static m_N_builtinOfLetter.1) := ⟨List.mem_append_right _ (List.mem_of_getElem? (i := 676) (by decide +kernel)), rfl⟩
theorem tc_R_readType : InT (.code m_R_readType.1 m_R_readType.2.1 m_R_readType.2.2.1 m_R_readType.2.2.2.1) := ⟨List.mem_append_right _ (List.mem_of_getElem? (i := 686) (by decide +kernel)), rfl⟩
theorem tm_R_readType : InT (.instanceMethod m_R_readType.1) := ⟨List.mem_append_right _ (List.mem_of_getElem? (i := 685) (by decide +kernel)), rfl⟩
theorem ts_R_readType : InT (.selects m_R_readType.1.cls m_R_readType.1 m_R_readType.1) := ⟨List.mem_append_left _ (List.mem_of_getElem? (i := 36) (by decide +kernel)), rfl⟩
theorem tc_R_readToldType : InT (.code m_R_readToldType.1 m_R_readToldType.2.1 m_R_readToldType.2.2.1 m_R_readToldType.2.2.2.1) := ⟨List.mem_append_right _ (List.mem_of_getElem? (i := 690) (by decide +kernel)), rfl⟩
theorem tm_R_readToldType : InT (.instanceMethod m_R_readToldType.1) := ⟨List.mem_append_right _ (List.mem_of_getElem? (i := 689) (by decide +kernel)), rfl⟩
theorem ts_R_readToldType : InT (.selects m_R_readToldType.1.cls m_R_readToldType.1 m_R_readToldType.1) := ⟨List.mem_append_left _ (List.mem_of_getElem? (i := 37) (by decide +kernel)), rfl⟩
theorem tc_R_readUntold : InT (.code m_R_readUntold.1 m_R_readUntold.2.1 m_R_readUntold.2.2.1 m_R_readUntold.2.2.2.1) := ⟨List.mem_append_right _ (List.mem_of_getElem? (i := 695) (by decide +kernel)), rfl⟩
theorem tm_R_readUntold : InT (.instanceMethod m_R_readUntold.1) := ⟨List.mem_append_right _ (List.mem_of_getElem? (i := 694) (by decide +kernel)), rfl⟩
theorem ts_R_readUntold : InT (.selects m_R_readUntold.1.cls m_R_readUntold.1 m_R_readUntold.1) := ⟨List.mem_append_left _ (List.mem_of_getElem? (i := 38) (by decide +kernel)), rfl⟩
theorem tc_R_readWrapped : InT (.code m_R_readWrapped.1 m_R_readWrapped.2.1 m_R_readWrapped.2.2.1 m_R_readWrapped.2.2.2.1) := ⟨List.mem_append_right _ (List.mem_of_getElem? (i := 699) (by decide +kernel)), rfl⟩
theorem tm_R_readWrapped : InT (.instanceMethod m_R_readWrapped.1) := ⟨List.mem_append_right _ (List.mem_of_getElem? (i := 698) (by decide +kernel)), rfl⟩
theorem ts_R_readWrapped : InT (.selects m_R_readWrapped.1.cls m_R_readWrapped.1 m_R_readWrapped.1) := ⟨List.mem_append_left _ (List.mem_of_getElem? (i := 39) (by decide +kernel)), rfl⟩
theorem tc_R_readArray : InT (.code m_R_readArray.1 m_R_readArray.2.1 m_R_readArray.2.2.1 m_R_readArray.2.2.2.1) := ⟨List.mem_append_right _ (List.mem_of_getElem? (i := 704) (by decide +kernel)), rfl⟩
theorem tm_R_readArray : InT (.instanceMethod m_R_readArray.1) := ⟨List.mem_append_right _ (List.mem_of_getElem? (i := 703) (by decide +kernel)), rfl⟩
theorem ts_R_readArray : InT (.selects m_R_readArray.1.cls m_R_readArray.1 m_R_readArray.1) := ⟨List.mem_append_left _ (List.mem_of_getElem? (i := 40) (by decide +kernel)), rfl⟩
theorem tc_R_readFunction : InT (.code m_R_readFunction.1 m_R_readFunction.2.1 m_R_readFunction.2.2.1 m_R_readFunction.2.2.2.1) := ⟨List.mem_append_right _ (List.mem_of_getElem? (i := 709) (by decide +kernel)), rfl⟩
theorem tm_R_readFunction : InT (.instanceMethod m_R_readFunction.1) := ⟨List.mem_append_right _ (List.mem_of_getElem? (i := 708) (by decide +kernel)), rfl⟩
theorem ts_R_readFunction : InT (.selects m_R_readFunction.1.cls m_R_readFunction.1 m_R_readFunction.1) := ⟨List.mem_append_left _ (List.mem_of_getElem? (i := 41) (by decide +kernel)), rfl⟩
theorem tc_R_readFirstParameter : InT (.code m_R_readFirstParameter.1 m_R_readFirstParameter.2.1 m_R_readFirstParameter.2.2.1 m_R_readFirstParameter.2.2.2.1) := ⟨List.mem_append_right _ (List.mem_of_getElem? (i := 713) (by decide +kernel)), rfl⟩
theorem tm_R_readFirstParameter : InT (.instanceMethod m_R_readFirstParameter.1) := ⟨List.mem_append_right _ (List.mem_of_getElem? (i := 712) (by decide +kernel)), rfl⟩
theorem ts_R_readFirstParameter : InT (.selects m_R_readFirstParameter.1.cls m_R_readFirstParameter.1 m_R_readFirstParameter.1) := ⟨List.mem_append_left _ (List.mem_of_getElem? (i := 42) (by decide +kernel)), rfl⟩
theorem tc_R_readNextParameter : InT (.code m_R_readNextParameter.1 m_R_readNextParameter.2.1 m_R_readNextParameter.2.2.1 m_R_readNextParameter.2.2.2.1) := ⟨List.mem_append_right _ (List.mem_of_getElem? (i := 717) (by decide +kernel)), rfl⟩
theorem tm_R_readNextParameter : InT (.instanceMethod m_R_readNextParameter.1) := ⟨List.mem_append_right _ (List.mem_of_getElem? (i := 716) (by decide +kernel)), rfl⟩
theorem ts_R_readNextParameter : InT (.selects m_R_readNextParameter.1.cls m_R_readNextParameter.1 m_R_readNextParameter.1) := ⟨List.mem_append_left _ (List.mem_of_getElem? (i := 43) (by decide +kernel)), rfl⟩
theorem tc_M_init : InT (.code m_M_init.1 m_M_init.2.1 m_M_init.2.2.1 m_M_init.2.2.2.1) := ⟨List.mem_append_right _ (List.mem_of_getElem? (i := 727) (by decide +kernel)), rfl⟩
theorem tm_M_init : InT (.instanceMethod m_M_init.1) := ⟨List.mem_append_right _ (List.mem_of_getElem? (i := 726) (by decide +kernel)), rfl⟩
theorem tc_M_thrown : InT (.code m_M_thrown.1 m_M_thrown.2.1 m_M_thrown.2.2.1 m_M_thrown.2.2.2.1) := ⟨List.mem_append_right _ (List.mem_of_getElem? (i := 811) (by decide +kernel)), rfl⟩
theorem tm_M_thrown : InT (.instanceMethod m_M_thrown.1) := ⟨List.mem_append_right _ (List.mem_of_getElem? (i := 809) (by decide +kernel)), rfl⟩
theorem ts_M_thrown : InT (.selects m_M_thrown.1.cls m_M_thrown.1 m_M_thrown.1) := ⟨List.mem_append_right _ (List.mem_of_getElem? (i := 810) (by decide +kernel)), rfl⟩
theorem tc_M_builtin : InT (.code m_M_builtin.1 m_M_builtin.2.1 m_M_builtin.2.2.1 m_M_builtin.2.2.2.1) := ⟨List.mem_append_right _ (List.mem_of_getElem? (i := 815) (by decide +kernel)), rfl⟩
theorem tm_M_builtin : InT (.instanceMethod m_M_builtin.1) := ⟨List.mem_append_right _ (List.mem_of_getElem? (i := 813) (by decide +kernel)), rfl⟩
theorem ts_M_builtin : InT (.selects m_M_builtin.1.cls m_M_builtin.1 m_M_builtin.1) := ⟨List.mem_append_right _ (List.mem_of_getElem? (i := 814) (by decide +kernel)), rfl⟩
theorem tc_M_give : InT (.code m_M_give.1 m_M_give.2.1 m_M_give.2.2.1 m_M_give.2.2.2.1) := ⟨List.mem_append_right _ (List.mem_of_getElem? (i := 819) (by decide +kernel)), rfl⟩
theorem tm_M_give : InT (.instanceMethod m_M_give.1) := ⟨List.mem_append_right _ (List.mem_of_getElem? (i := 818) (by decide +kernel)), rfl⟩
theorem ts_M_give : InT (.selects m_M_give.1.cls m_M_give.1 m_M_give.1) := ⟨List.mem_append_left _ (List.mem_of_getElem? (i := 44) (by decide +kernel)), rfl⟩
theorem tc_M_node : InT (.code m_M_node.1 m_M_node.2.1 m_M_node.2.2.1 m_M_node.2.2.2.1) := ⟨List.mem_append_right _ (List.mem_of_getElem? (i := 823) (by decide +kernel)), rfl⟩
theorem tm_M_node : InT (.instanceMethod m_M_node.1) := ⟨List.mem_append_right _ (List.mem_of_getElem? (i := 822) (by decide +kernel)), rfl⟩
theorem ts_M_node : InT (.selects m_M_node.1.cls m_M_node.1 m_M_node.1) := ⟨List.mem_append_left _ (List.mem_of_getElem? (i := 45) (by decide +kernel)), rfl⟩
theorem tc_M_deeper : InT (.code m_M_deeper.1 m_M_deeper.2.1 m_M_deeper.2.2.1 m_M_deeper.2.2.2.1) := ⟨List.mem_append_right _ (List.mem_of_getElem? (i := 827) (by decide +kernel)), rfl⟩
theorem tm_M_deeper : InT (.instanceMethod m_M_deeper.1) := ⟨List.mem_append_right _ (List.mem_of_getElem? (i := 826) (by decide +kernel)), rfl⟩
theorem ts_M_deeper : InT (.selects m_M_deeper.1.cls m_M_deeper.1 m_M_deeper.1) := ⟨List.mem_append_left _ (List.mem_of_getElem? (i := 46) (by decide +kernel)), rfl⟩
theorem tc_M_name : InT (.code m_M_name.1 m_M_name.2.1 m_M_name.2.2.1 m_M_name.2.2.2.1) := ⟨List.mem_append_right _ (List.mem_of_getElem? (i := 831) (by decide +kernel)), rfl⟩
theorem tm_M_name : InT (.instanceMethod m_M_name.1) := ⟨List.mem_append_right _ (List.mem_of_getElem? (i := 829) (by decide +kernel)), rfl⟩
theorem ts_M_name : InT (.selects m_M_name.1.cls m_M_name.1 m_M_name.1) := ⟨List.mem_append_right _ (List.mem_of_getElem? (i := 830) (by decide +kernel)), rfl⟩
theorem tc_M_isId : InT (.code m_M_isId.1 m_M_isId.2.1 m_M_isId.2.2.1 m_M_isId.2.2.2.1) := ⟨List.mem_append_right _ (List.mem_of_getElem? (i := 834) (by decide +kernel)), rfl⟩
theorem tm_M_isId : InT (.static m_M_isId.1) := ⟨List.mem_append_right _ (List.mem_of_getElem? (i := 833) (by decide +kernel)), rfl⟩
theorem tc_M_member : InT (.code m_M_member.1 m_M_member.2.1 m_M_member.2.2.1 m_M_member.2.2.2.1) := ⟨List.mem_append_right _ (List.mem_of_getElem? (i := 838) (by decide +kernel)), rfl⟩
theorem tm_M_member : InT (.instanceMethod m_M_member.1) := ⟨List.mem_append_right _ (List.mem_of_getElem? (i := 836) (by decide +kernel)), rfl⟩
theorem ts_M_member : InT (.selects m_M_member.1.cls m_M_member.1 m_M_member.1) := ⟨List.mem_append_right _ (List.mem_of_getElem? (i := 837) (by decide +kernel)), rfl⟩
theorem tc_M_isScoped : InT (.code m_M_isScoped.1 m_M_isScoped.2.1 m_M_isScoped.2.2.1 m_M_isScoped.2.2.2.1) := ⟨List.mem_append_right _ (List.mem_of_getElem? (i := 842) (by decide +kernel)), rfl⟩
theorem tm_M_isScoped : InT (.instanceMethod m_M_isScoped.1) := ⟨List.mem_append_right _ (List.mem_of_getElem? (i := 841) (by decide +kernel)), rfl⟩
theorem ts_M_isScoped : InT (.selects m_M_isScoped.1.cls m_M_isScoped.1 m_M_isScoped.1) := ⟨List.mem_append_left _ (List.mem_of_getElem? (i := 47) (by decide +kernel)), rfl⟩
theorem tc_M_isNode : InT (.code m_M_isNode.1 m_M_isNode.2.1 m_M_isNode.2.2.1 m_M_isNode.2.2.2.1) := ⟨List.mem_append_right _ (List.mem_of_getElem? (i := 846) (by decide +kernel)), rfl⟩
theorem tm_M_isNode : InT (.instanceMethod m_M_isNode.1) := ⟨List.mem_append_right _ (List.mem_of_getElem? (i := 845) (by decide +kernel)), rfl⟩
theorem ts_M_isNode : InT (.selects m_M_isNode.1.cls m_M_isNode.1 m_M_isNode.1) := ⟨List.mem_append_left _ (List.mem_of_getElem? (i := 48) (by decide +kernel)), rfl⟩
theorem tc_M_fill : InT (.code m_M_fill.1 m_M_fill.2.1 m_M_fill.2.2.1 m_M_fill.2.2.2.1) := ⟨List.mem_append_right _ (List.mem_of_getElem? (i := 850) (by decide +kernel)), rfl⟩
theorem tm_M_fill : InT (.instanceMethod m_M_fill.1) := ⟨List.mem_append_right _ (List.mem_of_getElem? (i := 848) (by decide +kernel)), rfl⟩
theorem ts_M_fill : InT (.selects m_M_fill.1.cls m_M_fill.1 m_M_fill.1) := ⟨List.mem_append_right _ (List.mem_of_getElem? (i := 849) (by decide +kernel)), rfl⟩
theorem tc_M_isArgument : InT (.code m_M_isArgument.1 m_M_isArgument.2.1 m_M_isArgument.2.2.1 m_M_isArgument.2.2.2.1) := ⟨List.mem_append_right _ (List.mem_of_getElem? (i := 854) (by decide +kernel)), rfl⟩
theorem tm_M_isArgument : InT (.instanceMethod m_M_isArgument.1) := ⟨List.mem_append_right _ (List.mem_of_getElem? (i := 853) (by decide +kernel)), rfl⟩
theorem ts_M_isArgument : InT (.selects m_M_isArgument.1.cls m_M_isArgument.1 m_M_isArgument.1) := ⟨List.mem_append_left _ (List.mem_of_getElem? (i := 49) (by decide +kernel)), rfl⟩
theorem tc_M_isType : InT (.code m_M_isType.1 m_M_isType.2.1 m_M_isType.2.2.1 m_M_isType.2.2.2.1) := ⟨List.mem_append_right _ (List.mem_of_getElem? (i := 858) (by decide +kernel)), rfl⟩
theorem tm_M_isType : InT (.instanceMethod m_M_isType.1) := ⟨List.mem_append_right _ (List.mem_of_getElem? (i := 857) (by decide +kernel)), rfl⟩
theorem ts_M_isType : InT (.selects m_M_isType.1.cls m_M_isType.1 m_M_isType.1) := ⟨List.mem_append_left _ (List.mem_of_getElem? (i := 50) (by decide +kernel)), rfl⟩
theorem tc_M_wrap : InT (.code m_M_wrap.1 m_M_wrap.2.1 m_M_wrap.2.2.1 m_M_wrap.2.2.2.1) := ⟨List.mem_append_right _ (List.mem_of_getElem? (i := 862) (by decide +kernel)), rfl⟩
theorem tm_M_wrap : InT (.instanceMethod m_M_wrap.1) := ⟨List.mem_append_right _ (List.mem_of_getElem? (i := 860) (by decide +kernel)), rfl⟩
theorem ts_M_wrap : InT (.selects m_M_wrap.1.cls m_M_wrap.1 m_M_wrap.1) := ⟨List.mem_append_right _ (List.mem_of_getElem? (i := 861) (by decide +kernel)), rfl⟩
theorem tc_M_array : InT (.code m_M_array.1 m_M_array.2.1 m_M_array.2.2.1 m_M_array.2.2.2.1) := ⟨List.mem_append_right _ (List.mem_of_getElem? (i := 866) (by decide +kernel)), rfl⟩
theorem tm_M_array : InT (.instanceMethod m_M_array.1) := ⟨List.mem_append_right _ (List.mem_of_getElem? (i := 864) (by decide +kernel)), rfl⟩
theorem ts_M_array : InT (.selects m_M_array.1.cls m_M_array.1 m_M_array.1) := ⟨List.mem_append_right _ (List.mem_of_getElem? (i := 865) (by decide +kernel)), rfl⟩
theorem tc_M_function : InT (.code m_M_function.1 m_M_function.2.1 m_M_function.2.2.1 m_M_function.2.2.2.1) := ⟨List.mem_append_right _ (List.mem_of_getElem? (i := 870) (by decide +kernel)), rfl⟩
theorem tm_M_function : InT (.instanceMethod m_M_function.1) := ⟨List.mem_append_right _ (List.mem_of_getElem? (i := 868) (by decide +kernel)), rfl⟩
theorem ts_M_function : InT (.selects m_M_function.1.cls m_M_function.1 m_M_function.1) := ⟨List.mem_append_right _ (List.mem_of_getElem? (i := 869) (by decide +kernel)), rfl⟩
theorem tc_M_areParameters : InT (.code m_M_areParameters.1 m_M_areParameters.2.1 m_M_areParameters.2.2.1 m_M_areParameters.2.2.2.1) := ⟨List.mem_append_right _ (List.mem_of_getElem? (i := 874) (by decide +kernel)), rfl⟩
theorem tm_M_areParameters : InT (.instanceMethod m_M_areParameters.1) := ⟨List.mem_append_right _ (List.mem_of_getElem? (i := 873) (by decide +kernel)), rfl⟩
theorem ts_M_areParameters : InT (.selects m_M_areParameters.1.cls m_M_areParameters.1 m_M_areParameters.1) := ⟨List.mem_append_left _ (List.mem_of_getElem? (i := 51) (by decide +kernel)), rfl⟩
theorem tc_M_isParameter : InT (.code m_M_isParameter.1 m_M_isParameter.2.1 m_M_isParameter.2.2.1 m_M_isParameter.2.2.2.1) := ⟨List.mem_append_right _ (List.mem_of_getElem? (i := 878) (by decide +kernel)), rfl⟩
theorem tm_M_isParameter : InT (.instanceMethod m_M_isParameter.1) := ⟨List.mem_append_right _ (List.mem_of_getElem? (i := 877) (by decide +kernel)), rfl⟩
theorem ts_M_isParameter : InT (.selects m_M_isParameter.1.cls m_M_isParameter.1 m_M_isParameter.1) := ⟨List.mem_append_left _ (List.mem_of_getElem? (i := 52) (by decide +kernel)), rfl⟩
theorem tc_M_literal : InT (.code m_M_literal.1 m_M_literal.2.1 m_M_literal.2.2.1 m_M_literal.2.2.2.1) := ⟨List.mem_append_right _ (List.mem_of_getElem? (i := 882) (by decide +kernel)), rfl⟩
theorem tm_M_literal : InT (.instanceMethod m_M_literal.1) := ⟨List.mem_append_right _ (List.mem_of_getElem? (i := 880) (by decide +kernel)), rfl⟩
theorem ts_M_literal : InT (.selects m_M_literal.1.cls m_M_literal.1 m_M_literal.1) := ⟨List.mem_append_right _ (List.mem_of_getElem? (i := 881) (by decide +kernel)), rfl⟩
theorem tc_M_entity : InT (.code m_M_entity.1 m_M_entity.2.1 m_M_entity.2.2.1 m_M_entity.2.2.2.1) := ⟨List.mem_append_right _ (List.mem_of_getElem? (i := 888) (by decide +kernel)), rfl⟩
theorem tm_M_entity : InT (.instanceMethod m_M_entity.1) := ⟨List.mem_append_right _ (List.mem_of_getElem? (i := 886) (by decide +kernel)), rfl⟩
theorem ts_M_entity : InT (.selects m_M_entity.1.cls m_M_entity.1 m_M_entity.1) := ⟨List.mem_append_right _ (List.mem_of_getElem? (i := 887) (by decide +kernel)), rfl⟩
theorem tc_M_of : InT (.code m_M_of.1 m_M_of.2.1 m_M_of.2.2.1 m_M_of.2.2.2.1) := ⟨List.mem_append_right _ (List.mem_of_getElem? (i := 892) (by decide +kernel)), rfl⟩
theorem tm_M_of : InT (.instanceMethod m_M_of.1) := ⟨List.mem_append_right _ (List.mem_of_getElem? (i := 890) (by decide +kernel)), rfl⟩
theorem ts_M_of : InT (.selects m_M_of.1.cls m_M_of.1 m_M_of.1) := ⟨List.mem_append_right _ (List.mem_of_getElem? (i := 891) (by decide +kernel)), rfl⟩
theorem tc_M_write : InT (.code m_M_write.1 m_M_write.2.1 m_M_write.2.2.1 m_M_write.2.2.2.1) := ⟨List.mem_append_right _ (List.mem_of_getElem? (i := 896) (by decide +kernel)), rfl⟩
theorem tm_M_write : InT (.instanceMethod m_M_write.1) := ⟨List.mem_append_right _ (List.mem_of_getElem? (i := 894) (by decide +kernel)), rfl⟩
theorem ts_M_write : InT (.selects m_M_write.1.cls m_M_write.1 m_M_write.1) := ⟨List.mem_append_right _ (List.mem_of_getElem? (i := 895) (by decide +kernel)), rfl⟩
theorem tc_M_emit : InT (.code m_M_emit.1 m_M_emit.2.1 m_M_emit.2.2.1 m_M_emit.2.2.2.1) := ⟨List.mem_append_right _ (List.mem_of_getElem? (i := 900) (by decide +kernel)), rfl⟩
theorem tm_M_emit : InT (.instanceMethod m_M_emit.1) := ⟨List.mem_append_right _ (List.mem_of_getElem? (i := 899) (by decide +kernel)), rfl⟩
theorem ts_M_emit : InT (.selects m_M_emit.1.cls m_M_emit.1 m_M_emit.1) := ⟨List.mem_append_left _ (List.mem_of_getElem? (i := 53) (by decide +kernel)), rfl⟩
theorem tc_M_push : InT (.code m_M_push.1 m_M_push.2.1 m_M_push.2.2.1 m_M_push.2.2.2.1) := ⟨List.mem_append_right _ (List.mem_of_getElem? (i := 904) (by decide +kernel)), rfl⟩
theorem tm_M_push : InT (.instanceMethod m_M_push.1) := ⟨List.mem_append_right _ (List.mem_of_getElem? (i := 903) (by decide +kernel)), rfl⟩
theorem ts_M_push : InT (.selects m_M_push.1.cls m_M_push.1 m_M_push.1) := ⟨List.mem_append_left _ (List.mem_of_getElem? (i := 54) (by decide +kernel)), rfl⟩
theorem tc_M_plain : InT (.code m_M_plain.1 m_M_plain.2.1 m_M_plain.2.2.1 m_M_plain.2.2.2.1) := ⟨List.mem_append_right _ (List.mem_of_getElem? (i := 908) (by decide +kernel)), rfl⟩
theorem tm_M_plain : InT (.instanceMethod m_M_plain.1) := ⟨List.mem_append_right _ (List.mem_of_getElem? (i := 907) (by decide +kernel)), rfl⟩
theorem ts_M_plain : InT (.selects m_M_plain.1.cls m_M_plain.1 m_M_plain.1) := ⟨List.mem_append_left _ (List.mem_of_getElem? (i := 55) (by decide +kernel)), rfl⟩
theorem tc_M_emitId : InT (.code m_M_emitId.1 m_M_emitId.2.1 m_M_emitId.2.2.1 m_M_emitId.2.2.2.1) := ⟨List.mem_append_right _ (List.mem_of_getElem? (i := 912) (by decide +kernel)), rfl⟩
theorem tm_M_emitId : InT (.instanceMethod m_M_emitId.1) := ⟨List.mem_append_right _ (List.mem_of_getElem? (i := 911) (by decide +kernel)), rfl⟩
theorem ts_M_emitId : InT (.selects m_M_emitId.1.cls m_M_emitId.1 m_M_emitId.1) := ⟨List.mem_append_left _ (List.mem_of_getElem? (i := 56) (by decide +kernel)), rfl⟩
theorem tc_M_emitNumber : InT (.code m_M_emitNumber.1 m_M_emitNumber.2.1 m_M_emitNumber.2.2.1 m_M_emitNumber.2.2.2.1) := ⟨List.mem_append_right _ (List.mem_of_getElem? (i := 917) (by decide +kernel)), rfl⟩
theorem tm_M_emitNumber : InT (.instanceMethod m_M_emitNumber.1) := ⟨List.mem_append_right _ (List.mem_of_getElem? (i := 916) (by decide +kernel)), rfl⟩
theorem ts_M_emitNumber : InT (.selects m_M_emitNumber.1.cls m_M_emitNumber.1 m_M_emitNumber.1) := ⟨List.mem_append_left _ (List.mem_of_getElem? (i := 57) (by decide +kernel)), rfl⟩
theorem tc_M_doTask : InT (.code m_M_doTask.1 m_M_doTask.2.1 m_M_doTask.2.2.1 m_M_doTask.2.2.2.1) := ⟨List.mem_append_right _ (List.mem_of_getElem? (i := 921) (by decide +kernel)), rfl⟩
theorem tm_M_doTask : InT (.instanceMethod m_M_doTask.1) := ⟨List.mem_append_right _ (List.mem_of_getElem? (i := 920) (by decide +kernel)), rfl⟩
theorem ts_M_doTask : InT (.selects m_M_doTask.1.cls m_M_doTask.1 m_M_doTask.1) := ⟨List.mem_append_left _ (List.mem_of_getElem? (i := 58) (by decide +kernel)), rfl⟩
theorem tc_M_pushParts : InT (.code m_M_pushParts.1 m_M_pushParts.2.1 m_M_pushParts.2.2.1 m_M_pushParts.2.2.2.1) := ⟨List.mem_append_right _ (List.mem_of_getElem? (i := 925) (by decide +kernel)), rfl⟩
theorem tm_M_pushParts : InT (.instanceMethod m_M_pushParts.1) := ⟨List.mem_append_right _ (List.mem_of_getElem? (i := 924) (by decide +kernel)), rfl⟩
theorem ts_M_pushParts : InT (.selects m_M_pushParts.1.cls m_M_pushParts.1 m_M_pushParts.1) := ⟨List.mem_append_left _ (List.mem_of_getElem? (i := 59) (by decide +kernel)), rfl⟩
theorem tc_M_params : InT (.code m_M_params.1 m_M_params.2.1 m_M_params.2.2.1 m_M_params.2.2.2.1) := ⟨List.mem_append_right _ (List.mem_of_getElem? (i := 929) (by decide +kernel)), rfl⟩
theorem tm_M_params : InT (.instanceMethod m_M_params.1) := ⟨List.mem_append_right _ (List.mem_of_getElem? (i := 928) (by decide +kernel)), rfl⟩
theorem ts_M_params : InT (.selects m_M_params.1.cls m_M_params.1 m_M_params.1) := ⟨List.mem_append_left _ (List.mem_of_getElem? (i := 60) (by decide +kernel)), rfl⟩
theorem tc_M_told : InT (.code m_M_told.1 m_M_told.2.1 m_M_told.2.2.1 m_M_told.2.2.2.1) := ⟨List.mem_append_right _ (List.mem_of_getElem? (i := 933) (by decide +kernel)), rfl⟩
theorem tm_M_told : InT (.instanceMethod m_M_told.1) := ⟨List.mem_append_right _ (List.mem_of_getElem? (i := 932) (by decide +kernel)), rfl⟩
theorem ts_M_told : InT (.selects m_M_told.1.cls m_M_told.1 m_M_told.1) := ⟨List.mem_append_left _ (List.mem_of_getElem? (i := 61) (by decide +kernel)), rfl⟩
theorem tc_M_placeOf : InT (.code m_M_placeOf.1 m_M_placeOf.2.1 m_M_placeOf.2.2.1 m_M_placeOf.2.2.2.1) := ⟨List.mem_append_right _ (List.mem_of_getElem? (i := 937) (by decide +kernel)), rfl⟩
theorem tm_M_placeOf : InT (.instanceMethod m_M_placeOf.1) := ⟨List.mem_append_right _ (List.mem_of_getElem? (i := 936) (by decide +kernel)), rfl⟩
theorem ts_M_placeOf : InT (.selects m_M_placeOf.1.cls m_M_placeOf.1 m_M_placeOf.1) := ⟨List.mem_append_left _ (List.mem_of_getElem? (i := 62) (by decide +kernel)), rfl⟩
theorem tc_M_sign36 : InT (.code m_M_sign36.1 m_M_sign36.2.1 m_M_sign36.2.2.1 m_M_sign36.2.2.2.1) := ⟨List.mem_append_right _ (List.mem_of_getElem? (i := 940) (by decide +kernel)), rfl⟩
theorem tm_M_sign36 : InT (.static m_M_sign36.1) := ⟨List.mem_append_right _ (List.mem_of_getElem? (i := 939) (by decide +kernel)), rfl⟩
theorem tc_M_prefix : InT (.code m_M_prefix.1 m_M_prefix.2.1 m_M_prefix.2.2.1 m_M_prefix.2.2.2.1) := ⟨List.mem_append_right _ (List.mem_of_getElem? (i := 944) (by decide +kernel)), rfl⟩
theorem tm_M_prefix : InT (.instanceMethod m_M_prefix.1) := ⟨List.mem_append_right _ (List.mem_of_getElem? (i := 943) (by decide +kernel)), rfl⟩
theorem ts_M_prefix : InT (.selects m_M_prefix.1.cls m_M_prefix.1 m_M_prefix.1) := ⟨List.mem_append_left _ (List.mem_of_getElem? (i := 63) (by decide +kernel)), rfl⟩
theorem tc_M_letter : InT (.code m_M_letter.1 m_M_letter.2.1 m_M_letter.2.2.1 m_M_letter.2.2.2.1) := ⟨List.mem_append_right _ (List.mem_of_getElem? (i := 947) (by decide +kernel)), rfl⟩
theorem tm_M_letter : InT (.static m_M_letter.1) := ⟨List.mem_append_right _ (List.mem_of_getElem? (i := 946) (by decide +kernel)), rfl⟩
theorem tc_M_literalOf : InT (.code m_M_literalOf.1 m_M_literalOf.2.1 m_M_literalOf.2.2.1 m_M_literalOf.2.2.2.1) := ⟨List.mem_append_right _ (List.mem_of_getElem? (i := 951) (by decide +kernel)), rfl⟩
theorem tm_M_literalOf : InT (.instanceMethod m_M_literalOf.1) := ⟨List.mem_append_right _ (List.mem_of_getElem? (i := 950) (by decide +kernel)), rfl⟩
theorem ts_M_literalOf : InT (.selects m_M_literalOf.1.cls m_M_literalOf.1 m_M_literalOf.1) := ⟨List.mem_append_left _ (List.mem_of_getElem? (i := 64) (by decide +kernel)), rfl⟩
theorem tc_M_show : InT (.code m_M_show.1 m_M_show.2.1 m_M_show.2.2.1 m_M_show.2.2.2.1) := ⟨List.mem_append_right _ (List.mem_of_getElem? (i := 955) (by decide +kernel)), rfl⟩
theorem tm_M_show : InT (.instanceMethod m_M_show.1) := ⟨List.mem_append_right _ (List.mem_of_getElem? (i := 954) (by decide +kernel)), rfl⟩
theorem ts_M_show : InT (.selects m_M_show.1.cls m_M_show.1 m_M_show.1) := ⟨List.mem_append_left _ (List.mem_of_getElem? (i := 65) (by decide +kernel)), rfl⟩
theorem tc_M_type : InT (.code m_M_type.1 m_M_type.2.1 m_M_type.2.2.1 m_M_type.2.2.2.1) := ⟨List.mem_append_right _ (List.mem_of_getElem? (i := 959) (by decide +kernel)), rfl⟩
theorem tm_M_type : InT (.instanceMethod m_M_type.1) := ⟨List.mem_append_right _ (List.mem_of_getElem? (i := 957) (by decide +kernel)), rfl⟩
theorem ts_M_type : InT (.selects m_M_type.1.cls m_M_type.1 m_M_type.1) := ⟨List.mem_append_right _ (List.mem_of_getElem? (i := 958) (by decide +kernel)), rfl⟩
theorem tc_M_wipe : InT (.code m_M_wipe.1 m_M_wipe.2.1 m_M_wipe.2.2.1 m_M_wipe.2.2.2.1) := ⟨List.mem_append_right _ (List.mem_of_getElem? (i := 964) (by decide +kernel)), rfl⟩
theorem tm_M_wipe : InT (.instanceMethod m_M_wipe.1) := ⟨List.mem_append_right _ (List.mem_of_getElem? (i := 962) (by decide +kernel)), rfl⟩
theorem ts_M_wipe : InT (.selects m_M_wipe.1.cls m_M_wipe.1 m_M_wipe.1) := ⟨List.mem_append_right _ (List.mem_of_getElem? (i := 963) (by decide +kernel)), rfl⟩
theorem tc_M_text : InT (.code m_M_text.1 m_M_text.2.1 m_M_text.2.2.1 m_M_text.2.2.2.1) := ⟨List.mem_append_right _ (List.mem_of_getElem? (i := 968) (by decide +kernel)), rfl⟩
theorem tm_M_text : InT (.instanceMethod m_M_text.1) := ⟨List.mem_append_right _ (List.mem_of_getElem? (i := 966) (by decide +kernel)), rfl⟩
theorem ts_M_text : InT (.selects m_M_text.1.cls m_M_text.1 m_M_text.1) := ⟨List.mem_append_right _ (List.mem_of_getElem? (i := 967) (by decide +kernel)), rfl⟩
theorem tc_M_read : InT (.code m_M_read.1 m_M_read.2.1 m_M_read.2.2.1 m_M_read.2.2.2.1) := ⟨List.mem_append_right _ (List.mem_of_getElem? (i := 972) (by decide +kernel)), rfl⟩
theorem tm_M_read : InT (.instanceMethod m_M_read.1) := ⟨List.mem_append_right _ (List.mem_of_getElem? (i := 970) (by decide +kernel)), rfl⟩
theorem ts_M_read : InT (.selects m_M_read.1.cls m_M_read.1 m_M_read.1) := ⟨List.mem_append_right _ (List.mem_of_getElem? (i := 971) (by decide +kernel)), rfl⟩
theorem tc_M_readEntity : InT (.code m_M_readEntity.1 m_M_readEntity.2.1 m_M_readEntity.2.2.1 m_M_readEntity.2.2.2.1) := ⟨List.mem_append_right _ (List.mem_of_getElem? (i := 976) (by decide +kernel)), rfl⟩
theorem tm_M_readEntity : InT (.instanceMethod m_M_readEntity.1) := ⟨List.mem_append_right _ (List.mem_of_getElem? (i := 975) (by decide +kernel)), rfl⟩
theorem ts_M_readEntity : InT (.selects m_M_readEntity.1.cls m_M_readEntity.1 m_M_readEntity.1) := ⟨List.mem_append_left _ (List.mem_of_getElem? (i := 66) (by decide +kernel)), rfl⟩
theorem tc_M_expect : InT (.code m_M_expect.1 m_M_expect.2.1 m_M_expect.2.2.1 m_M_expect.2.2.2.1) := ⟨List.mem_append_right _ (List.mem_of_getElem? (i := 980) (by decide +kernel)), rfl⟩
theorem tm_M_expect : InT (.instanceMethod m_M_expect.1) := ⟨List.mem_append_right _ (List.mem_of_getElem? (i := 979) (by decide +kernel)), rfl⟩
theorem ts_M_expect : InT (.selects m_M_expect.1.cls m_M_expect.1 m_M_expect.1) := ⟨List.mem_append_left _ (List.mem_of_getElem? (i := 67) (by decide +kernel)), rfl⟩
theorem tc_M_peek : InT (.code m_M_peek.1 m_M_peek.2.1 m_M_peek.2.2.1 m_M_peek.2.2.2.1) := ⟨List.mem_append_right _ (List.mem_of_getElem? (i := 984) (by decide +kernel)), rfl⟩
theorem tm_M_peek : InT (.instanceMethod m_M_peek.1) := ⟨List.mem_append_right _ (List.mem_of_getElem? (i := 983) (by decide +kernel)), rfl⟩
theorem ts_M_peek : InT (.selects m_M_peek.1.cls m_M_peek.1 m_M_peek.1) := ⟨List.mem_append_left _ (List.mem_of_getElem? (i := 68) (by decide +kernel)), rfl⟩
theorem tc_M_begin : InT (.code m_M_begin.1 m_M_begin.2.1 m_M_begin.2.2.1 m_M_begin.2.2.2.1) := ⟨List.mem_append_right _ (List.mem_of_getElem? (i := 988) (by decide +kernel)), rfl⟩
theorem tm_M_begin : InT (.instanceMethod m_M_begin.1) := ⟨List.mem_append_right _ (List.mem_of_getElem? (i := 987) (by decide +kernel)), rfl⟩
theorem ts_M_begin : InT (.selects m_M_begin.1.cls m_M_begin.1 m_M_begin.1) := ⟨List.mem_append_left _ (List.mem_of_getElem? (i := 69) (by decide +kernel)), rfl⟩
theorem tc_M_scoped : InT (.code m_M_scoped.1 m_M_scoped.2.1 m_M_scoped.2.2.1 m_M_scoped.2.2.2.1) := ⟨List.mem_append_right _ (List.mem_of_getElem? (i := 992) (by decide +kernel)), rfl⟩
theorem tm_M_scoped : InT (.instanceMethod m_M_scoped.1) := ⟨List.mem_append_right _ (List.mem_of_getElem? (i := 991) (by decide +kernel)), rfl⟩
theorem ts_M_scoped : InT (.selects m_M_scoped.1.cls m_M_scoped.1 m_M_scoped.1) := ⟨List.mem_append_left _ (List.mem_of_getElem? (i := 70) (by decide +kernel)), rfl⟩
theorem tc_M_beginNest : InT (.code m_M_beginNest.1 m_M_beginNest.2.1 m_M_beginNest.2.2.1 m_M_beginNest.2.2.2.1) := ⟨List.mem_append_right _ (List.mem_of_getElem? (i := 996) (by decide +kernel)), rfl⟩
theorem tm_M_beginNest : InT (.instanceMethod m_M_beginNest.1) := ⟨List.mem_append_right _ (List.mem_of_getElem? (i := 995) (by decide +kernel)), rfl⟩
theorem ts_M_beginNest : InT (.selects m_M_beginNest.1.cls m_M_beginNest.1 m_M_beginNest.1) := ⟨List.mem_append_left _ (List.mem_of_getElem? (i := 71) (by decide +kernel)), rfl⟩
theorem tc_M_readTold : InT (.code m_M_readTold.1 m_M_readTold.2.1 m_M_readTold.2.2.1 m_M_readTold.2.2.2.1) := ⟨List.mem_append_right _ (List.mem_of_getElem? (i := 1000) (by decide +kernel)), rfl⟩
theorem tm_M_readTold : InT (.instanceMethod m_M_readTold.1) := ⟨List.mem_append_right _ (List.mem_of_getElem? (i := 999) (by decide +kernel)), rfl⟩
theorem ts_M_readTold : InT (.selects m_M_readTold.1.cls m_M_readTold.1 m_M_readTold.1) := ⟨List.mem_append_left _ (List.mem_of_getElem? (i := 72) (by decide +kernel)), rfl⟩
theorem tc_M_value36 : InT (.code m_M_value36.1 m_M_value36.2.1 m_M_value36.2.2.1 m_M_value36.2.2.2.1) := ⟨List.mem_append_right _ (List.mem_of_getElem? (i := 1003) (by decide +kernel)), rfl⟩
theorem tm_M_value36 : InT (.static m_M_value36.1) := ⟨List.mem_append_right _ (List.mem_of_getElem? (i := 1002) (by decide +kernel)), rfl⟩
theorem tc_M_isDigit : InT (.code m_M_isDigit.1 m_M_isDigit.2.1 m_M_isDigit.2.2.1 m_M_isDigit.2.2.2.1) := ⟨List.mem_append_right _ (List.mem_of_getElem? (i := 1006) (by decide +kernel)), rfl⟩
theorem tm_M_isDigit : InT (.static m_M_isDigit.1) := ⟨List.mem_append_right _ (List.mem_of_getElem? (i := 1005) (by decide +kernel)), rfl⟩
theorem tc_M_readId : InT (.code m_M_readId.1 m_M_readId.2.1 m_M_readId.2.2.1 m_M_readId.2.2.2.1) := ⟨List.mem_append_right _ (List.mem_of_getElem? (i := 1010) (by decide +kernel)), rfl⟩
theorem tm_M_readId : InT (.instanceMethod m_M_readId.1) := ⟨List.mem_append_right _ (List.mem_of_getElem? (i := 1009) (by decide +kernel)), rfl⟩
theorem ts_M_readId : InT (.selects m_M_readId.1.cls m_M_readId.1 m_M_readId.1) := ⟨List.mem_append_left _ (List.mem_of_getElem? (i := 73) (by decide +kernel)), rfl⟩
theorem tc_M_readNumber : InT (.code m_M_readNumber.1 m_M_readNumber.2.1 m_M_readNumber.2.2.1 m_M_readNumber.2.2.2.1) := ⟨List.mem_append_right _ (List.mem_of_getElem? (i := 1014) (by decide +kernel)), rfl⟩
theorem tm_M_readNumber : InT (.instanceMethod m_M_readNumber.1) := ⟨List.mem_append_right _ (List.mem_of_getElem? (i := 1013) (by decide +kernel)), rfl⟩
theorem ts_M_readNumber : InT (.selects m_M_readNumber.1.cls m_M_readNumber.1 m_M_readNumber.1) := ⟨List.mem_append_left _ (List.mem_of_getElem? (i := 74) (by decide +kernel)), rfl⟩
theorem tc_M_makeName : InT (.code m_M_makeName.1 m_M_makeName.2.1 m_M_makeName.2.2.1 m_M_makeName.2.2.2.1) := ⟨List.mem_append_right _ (List.mem_of_getElem? (i := 1018) (by decide +kernel)), rfl⟩
theorem tm_M_makeName : InT (.instanceMethod m_M_makeName.1) := ⟨List.mem_append_right _ (List.mem_of_getElem? (i := 1017) (by decide +kernel)), rfl⟩
theorem ts_M_makeName : InT (.selects m_M_makeName.1.cls m_M_makeName.1 m_M_makeName.1) := ⟨List.mem_append_left _ (List.mem_of_getElem? (i := 75) (by decide +kernel)), rfl⟩
theorem tc_M_make : InT (.code m_M_make.1 m_M_make.2.1 m_M_make.2.2.1 m_M_make.2.2.2.1) := ⟨List.mem_append_right _ (List.mem_of_getElem? (i := 1022) (by decide +kernel)), rfl⟩
theorem tm_M_make : InT (.instanceMethod m_M_make.1) := ⟨List.mem_append_right _ (List.mem_of_getElem? (i := 1021) (by decide +kernel)), rfl⟩
theorem ts_M_make : InT (.selects m_M_make.1.cls m_M_make.1 m_M_make.1) := ⟨List.mem_append_left _ (List.mem_of_getElem? (i := 76) (by decide +kernel)), rfl⟩
theorem tc_M_nextNested : InT (.code m_M_nextNested.1 m_M_nextNested.2.1 m_M_nextNested.2.2.1 m_M_nextNested.2.2.2.1) := ⟨List.mem_append_right _ (List.mem_of_getElem? (i := 1026) (by decide +kernel)), rfl⟩
theorem tm_M_nextNested : InT (.instanceMethod m_M_nextNested.1) := ⟨List.mem_append_right _ (List.mem_of_getElem? (i := 1025) (by decide +kernel)), rfl⟩
theorem ts_M_nextNested : InT (.selects m_M_nextNested.1.cls m_M_nextNested.1 m_M_nextNested.1) := ⟨List.mem_append_left _ (List.mem_of_getElem? (i := 77) (by decide +kernel)), rfl⟩
theorem tc_M_enter : InT (.code m_M_enter.1 m_M_enter.2.1 m_M_enter.2.2.1 m_M_enter.2.2.2.1) := ⟨List.mem_append_right _ (List.mem_of_getElem? (i := 1030) (by decide +kernel)), rfl⟩
theorem tm_M_enter : InT (.instanceMethod m_M_enter.1) := ⟨List.mem_append_right _ (List.mem_of_getElem? (i := 1029) (by decide +kernel)), rfl⟩
theorem ts_M_enter : InT (.selects m_M_enter.1.cls m_M_enter.1 m_M_enter.1) := ⟨List.mem_append_left _ (List.mem_of_getElem? (i := 78) (by decide +kernel)), rfl⟩
theorem tc_M_beginArgs : InT (.code m_M_beginArgs.1 m_M_beginArgs.2.1 m_M_beginArgs.2.2.1 m_M_beginArgs.2.2.2.1) := ⟨List.mem_append_right _ (List.mem_of_getElem? (i := 1034) (by decide +kernel)), rfl⟩
theorem tm_M_beginArgs : InT (.instanceMethod m_M_beginArgs.1) := ⟨List.mem_append_right _ (List.mem_of_getElem? (i := 1033) (by decide +kernel)), rfl⟩
theorem ts_M_beginArgs : InT (.selects m_M_beginArgs.1.cls m_M_beginArgs.1 m_M_beginArgs.1) := ⟨List.mem_append_left _ (List.mem_of_getElem? (i := 79) (by decide +kernel)), rfl⟩
theorem tc_M_nextArgument : InT (.code m_M_nextArgument.1 m_M_nextArgument.2.1 m_M_nextArgument.2.2.1 m_M_nextArgument.2.2.2.1) := ⟨List.mem_append_right _ (List.mem_of_getElem? (i := 1038) (by decide +kernel)), rfl⟩
theorem tm_M_nextArgument : InT (.instanceMethod m_M_nextArgument.1) := ⟨List.mem_append_right _ (List.mem_of_getElem? (i := 1037) (by decide +kernel)), rfl⟩
theorem ts_M_nextArgument : InT (.selects m_M_nextArgument.1.cls m_M_nextArgument.1 m_M_nextArgument.1) := ⟨List.mem_append_left _ (List.mem_of_getElem? (i := 80) (by decide +kernel)), rfl⟩
theorem tc_M_builtinOf : InT (.code m_M_builtinOf.1 m_M_builtinOf.2.1 m_M_builtinOf.2.2.1 m_M_builtinOf.2.2.2.1) := ⟨List.mem_append_right _ (List.mem_of_getElem? (i := 1041) (by decide +kernel)), rfl⟩
theorem tm_M_builtinOf : InT (.static m_M_builtinOf.1) := ⟨List.mem_append_right _ (List.mem_of_getElem? (i := 1040) (by decide +kernel)), rfl⟩
theorem tc_M_makeBuiltin : InT (.code m_M_makeBuiltin.1 m_M_makeBuiltin.2.1 m_M_makeBuiltin.2.2.1 m_M_makeBuiltin.2.2.2.1) := ⟨List.mem_append_right _ (List.mem_of_getElem? (i := 1045) (by decide +kernel)), rfl⟩
theorem tm_M_makeBuiltin : InT (.instanceMethod m_M_makeBuiltin.1) := ⟨List.mem_append_right _ (List.mem_of_getElem? (i := 1044) (by decide +kernel)), rfl⟩
theorem ts_M_makeBuiltin : InT (.selects m_M_makeBuiltin.1.cls m_M_makeBuiltin.1 m_M_makeBuiltin.1) := ⟨List.mem_append_left _ (List.mem_of_getElem? (i := 81) (by decide +kernel)), rfl⟩
theorem tc_M_filled : InT (.code m_M_filled.1 m_M_filled.2.1 m_M_filled.2.2.1 m_M_filled.2.2.2.1) := ⟨List.mem_append_right _ (List.mem_of_getElem? (i := 1049) (by decide +kernel)), rfl⟩
theorem tm_M_filled : InT (.instanceMethod m_M_filled.1) := ⟨List.mem_append_right _ (List.mem_of_getElem? (i := 1048) (by decide +kernel)), rfl⟩
theorem ts_M_filled : InT (.selects m_M_filled.1.cls m_M_filled.1 m_M_filled.1) := ⟨List.mem_append_left _ (List.mem_of_getElem? (i := 82) (by decide +kernel)), rfl⟩
theorem tc_M_settle : InT (.code m_M_settle.1 m_M_settle.2.1 m_M_settle.2.2.1 m_M_settle.2.2.2.1) := ⟨List.mem_append_right _ (List.mem_of_getElem? (i := 1053) (by decide +kernel)), rfl⟩
theorem tm_M_settle : InT (.instanceMethod m_M_settle.1) := ⟨List.mem_append_right _ (List.mem_of_getElem? (i := 1052) (by decide +kernel)), rfl⟩
theorem ts_M_settle : InT (.selects m_M_settle.1.cls m_M_settle.1 m_M_settle.1) := ⟨List.mem_append_left _ (List.mem_of_getElem? (i := 83) (by decide +kernel)), rfl⟩
theorem tc_M_readType : InT (.code m_M_readType.1 m_M_readType.2.1 m_M_readType.2.2.1 m_M_readType.2.2.2.1) := ⟨List.mem_append_right _ (List.mem_of_getElem? (i := 1057) (by decide +kernel)), rfl⟩
theorem tm_M_readType : InT (.instanceMethod m_M_readType.1) := ⟨List.mem_append_right _ (List.mem_of_getElem? (i := 1056) (by decide +kernel)), rfl⟩
theorem ts_M_readType : InT (.selects m_M_readType.1.cls m_M_readType.1 m_M_readType.1) := ⟨List.mem_append_left _ (List.mem_of_getElem? (i := 84) (by decide +kernel)), rfl⟩
theorem tc_M_take : InT (.code m_M_take.1 m_M_take.2.1 m_M_take.2.2.1 m_M_take.2.2.2.1) := ⟨List.mem_append_right _ (List.mem_of_getElem? (i := 1061) (by decide +kernel)), rfl⟩
theorem tm_M_take : InT (.instanceMethod m_M_take.1) := ⟨List.mem_append_right _ (List.mem_of_getElem? (i := 1060) (by decide +kernel)), rfl⟩
theorem ts_M_take : InT (.selects m_M_take.1.cls m_M_take.1 m_M_take.1) := ⟨List.mem_append_left _ (List.mem_of_getElem? (i := 85) (by decide +kernel)), rfl⟩
theorem tc_M_wholeType : InT (.code m_M_wholeType.1 m_M_wholeType.2.1 m_M_wholeType.2.2.1 m_M_wholeType.2.2.2.1) := ⟨List.mem_append_right _ (List.mem_of_getElem? (i := 1065) (by decide +kernel)), rfl⟩
theorem tm_M_wholeType : InT (.instanceMethod m_M_wholeType.1) := ⟨List.mem_append_right _ (List.mem_of_getElem? (i := 1064) (by decide +kernel)), rfl⟩
theorem ts_M_wholeType : InT (.selects m_M_wholeType.1.cls m_M_wholeType.1 m_M_wholeType.1) := ⟨List.mem_append_left _ (List.mem_of_getElem? (i := 86) (by decide +kernel)), rfl⟩
theorem tc_M_table : InT (.code m_M_table.1 m_M_table.2.1 m_M_table.2.2.1 m_M_table.2.2.2.1) := ⟨List.mem_append_right _ (List.mem_of_getElem? (i := 1069) (by decide +kernel)), rfl⟩
theorem tm_M_table : InT (.instanceMethod m_M_table.1) := ⟨List.mem_append_right _ (List.mem_of_getElem? (i := 1067) (by decide +kernel)), rfl⟩
theorem ts_M_table : InT (.selects m_M_table.1.cls m_M_table.1 m_M_table.1) := ⟨List.mem_append_right _ (List.mem_of_getElem? (i := 1068) (by decide +kernel)), rfl⟩
theorem tc_M_look : InT (.code m_M_look.1 m_M_look.2.1 m_M_look.2.2.1 m_M_look.2.2.2.1) := ⟨List.mem_append_right _ (List.mem_of_getElem? (i := 1073) (by decide +kernel)), rfl⟩
theorem tm_M_look : InT (.instanceMethod m_M_look.1) := ⟨List.mem_append_right _ (List.mem_of_getElem? (i := 1071) (by decide +kernel)), rfl⟩
theorem ts_M_look : InT (.selects m_M_look.1.cls m_M_look.1 m_M_look.1) := ⟨List.mem_append_right _ (List.mem_of_getElem? (i := 1072) (by decide +kernel)), rfl⟩
theorem lk_N_1 : InT (.methodLink "NameWriter" 1 ⟨"java/lang/Object", "<init>", "()V"⟩) := ⟨List.mem_append_right _ (List.mem_of_getElem? (i := 24) (by decide +kernel)), rfl⟩
theorem lc_N_7 : InT (.classLink "NameWriter" 7 "NameWriter$Nodes") := ⟨List.mem_append_right _ (List.mem_of_getElem? (i := 27) (by decide +kernel)), rfl⟩
theorem lk_N_9 : InT (.methodLinkNest "NameWriter" 9 m_D_init.1 "NameWriter") := ⟨List.mem_append_right _ (List.mem_of_getElem? (i := 29) (by decide +kernel)), rfl⟩
theorem lc_N_10 : InT (.classLink "NameWriter" 10 "NameWriter$Row") := ⟨List.mem_append_right _ (List.mem_of_getElem? (i := 44) (by decide +kernel)), rfl⟩
theorem lk_N_12 : InT (.methodLinkNest "NameWriter" 12 m_W_init.1 "NameWriter") := ⟨List.mem_append_right _ (List.mem_of_getElem? (i := 46) (by decide +kernel)), rfl⟩
theorem lf_N_13 : InT (.fieldLink "NameWriter" 13 "NameWriter" "nodes" "LNameWriter$Nodes;") := ⟨List.mem_append_right _ (List.mem_of_getElem? (i := 99) (by decide +kernel)), rfl⟩
theorem lf_N_19 : InT (.fieldLink "NameWriter" 19 "NameWriter" "text" "LNameWriter$Row;") := ⟨List.mem_append_right _ (List.mem_of_getElem? (i := 100) (by decide +kernel)), rfl⟩
theorem lf_N_23 : InT (.fieldLink "NameWriter" 23 "NameWriter" "table" "LNameWriter$Row;") := ⟨List.mem_append_right _ (List.mem_of_getElem? (i := 101) (by decide +kernel)), rfl⟩
theorem lc_N_26 : InT (.classLink "NameWriter" 26 "NameWriter$Writer") := ⟨List.mem_append_right _ (List.mem_of_getElem? (i := 57) (by decide +kernel)), rfl⟩
theorem lk_N_28 : InT (.methodLink "NameWriter" 28 m_P_init.1) := ⟨List.mem_append_right _ (List.mem_of_getElem? (i := 59) (by decide +kernel)), rfl⟩
theorem lf_N_31 : InT (.fieldLink "NameWriter" 31 "NameWriter" "writer" "LNameWriter$Writer;") := ⟨List.mem_append_right _ (List.mem_of_getElem? (i := 102) (by decide +kernel)), rfl⟩
theorem lc_N_35 : InT (.classLink "NameWriter" 35 "NameWriter$Reader") := ⟨List.mem_append_right _ (List.mem_of_getElem? (i := 77) (by decide +kernel)), rfl⟩
theorem lk_N_37 : InT (.methodLink "NameWriter" 37 m_R_init.1) := ⟨List.mem_append_right _ (List.mem_of_getElem? (i := 79) (by decide +kernel)), rfl⟩
theorem lf_N_40 : InT (.fieldLink "NameWriter" 40 "NameWriter" "reader" "LNameWriter$Reader;") := ⟨List.mem_append_right _ (List.mem_of_getElem? (i := 103) (by decide +kernel)), rfl⟩
theorem lk_N_44 : InT (.methodLink "NameWriter" 44 m_D_dropDrafts.1) := ⟨List.mem_append_right _ (List.mem_of_getElem? (i := 119) (by decide +kernel)), rfl⟩
theorem lk_N_47 : InT (.methodLink "NameWriter" 47 m_D_addBuiltin.1) := ⟨List.mem_append_right _ (List.mem_of_getElem? (i := 185) (by decide +kernel)), rfl⟩
theorem lk_N_51 : InT (.methodLink "NameWriter" 51 m_D_keepDrafts.1) := ⟨List.mem_append_right _ (List.mem_of_getElem? (i := 299) (by decide +kernel)), rfl⟩
theorem lk_N_54 : InT (.methodLink "NameWriter" 54 m_D_addName.1) := ⟨List.mem_append_right _ (List.mem_of_getElem? (i := 311) (by decide +kernel)), rfl⟩
theorem lk_N_57 : InT (.methodLink "NameWriter" 57 m_D_addMember.1) := ⟨List.mem_append_right _ (List.mem_of_getElem? (i := 335) (by decide +kernel)), rfl⟩
theorem lk_N_61 : InT (.methodLink "NameWriter" 61 m_D_addFilled.1) := ⟨List.mem_append_right _ (List.mem_of_getElem? (i := 355) (by decide +kernel)), rfl⟩
theorem lk_N_65 : InT (.methodLink "NameWriter" 65 m_D_addWrapped.1) := ⟨List.mem_append_right _ (List.mem_of_getElem? (i := 379) (by decide +kernel)), rfl⟩
theorem lk_N_68 : InT (.methodLink "NameWriter" 68 m_D_addArray.1) := ⟨List.mem_append_right _ (List.mem_of_getElem? (i := 397) (by decide +kernel)), rfl⟩
theorem lk_N_71 : InT (.methodLink "NameWriter" 71 m_D_addFunction.1) := ⟨List.mem_append_right _ (List.mem_of_getElem? (i := 409) (by decide +kernel)), rfl⟩
theorem lk_N_74 : InT (.methodLink "NameWriter" 74 m_D_addLiteral.1) := ⟨List.mem_append_right _ (List.mem_of_getElem? (i := 429) (by decide +kernel)), rfl⟩
theorem lk_N_77 : InT (.methodLink "NameWriter" 77 m_D_addEntity.1) := ⟨List.mem_append_right _ (List.mem_of_getElem? (i := 444) (by decide +kernel)), rfl⟩
theorem lk_N_81 : InT (.methodLink "NameWriter" 81 m_D_cell.1) := ⟨List.mem_append_right _ (List.mem_of_getElem? (i := 123) (by decide +kernel)), rfl⟩
theorem lk_N_84 : InT (.methodLink "NameWriter" 84 m_D_kindOf.1) := ⟨List.mem_append_right _ (List.mem_of_getElem? (i := 457) (by decide +kernel)), rfl⟩
theorem lc_N_87 : InT (.classLink "NameWriter" 87 "java/lang/IllegalArgumentException") := ⟨List.mem_append_right _ (List.mem_of_getElem? (i := 458) (by decide +kernel)), rfl⟩
theorem lk_N_91 : InT (.methodLink "NameWriter" 91 ⟨"java/lang/IllegalArgumentException", "<init>", "(Ljava/lang/String;)V"⟩) := ⟨List.mem_append_right _ (List.mem_of_getElem? (i := 460) (by decide +kernel)), rfl⟩
theorem lk_N_94 : InT (.methodLink "NameWriter" 94 m_P_putEntity.1) := ⟨List.mem_append_right _ (List.mem_of_getElem? (i := 461) (by decide +kernel)), rfl⟩
theorem lf_N_98 : InT (.fieldLink "NameWriter" 98 "NameWriter$Writer" "letters" "LNameWriter$Row;") := ⟨List.mem_append_right _ (List.mem_of_getElem? (i := 66) (by decide +kernel)), rfl⟩
theorem lk_N_101 : InT (.methodLink "NameWriter" 101 m_W_take.1) := ⟨List.mem_append_right _ (List.mem_of_getElem? (i := 595) (by decide +kernel)), rfl⟩
theorem lf_N_105 : InT (.fieldLink "NameWriter" 105 "NameWriter$Writer" "told" "LNameWriter$Row;") := ⟨List.mem_append_right _ (List.mem_of_getElem? (i := 68) (by decide +kernel)), rfl⟩
theorem lk_N_108 : InT (.methodLink "NameWriter" 108 m_W_size.1) := ⟨List.mem_append_right _ (List.mem_of_getElem? (i := 131) (by decide +kernel)), rfl⟩
theorem lk_N_112 : InT (.methodLink "NameWriter" 112 m_N_isTypeable.1) := ⟨List.mem_append_right _ (List.mem_of_getElem? (i := 135) (by decide +kernel)), rfl⟩
theorem lk_N_116 : InT (.methodLink "NameWriter" 116 m_W_add.1) := ⟨List.mem_append_right _ (List.mem_of_getElem? (i := 138) (by decide +kernel)), rfl⟩
theorem lk_N_119 : InT (.methodLink "NameWriter" 119 m_W_cut.1) := ⟨List.mem_append_right _ (List.mem_of_getElem? (i := 142) (by decide +kernel)), rfl⟩
theorem lk_N_122 : InT (.methodLink "NameWriter" 122 m_W_at.1) := ⟨List.mem_append_right _ (List.mem_of_getElem? (i := 160) (by decide +kernel)), rfl⟩
theorem lk_N_125 : InT (.methodLink "NameWriter" 125 m_R_readEntity.1) := ⟨List.mem_append_right _ (List.mem_of_getElem? (i := 609) (by decide +kernel)), rfl⟩
theorem lf_N_128 : InT (.fieldLink "NameWriter" 128 "NameWriter$Reader" "told" "LNameWriter$Row;") := ⟨List.mem_append_right _ (List.mem_of_getElem? (i := 86) (by decide +kernel)), rfl⟩
theorem lk_N_129 : InT (.methodLink "NameWriter" 129 m_D_kept.1) := ⟨List.mem_append_right _ (List.mem_of_getElem? (i := 172) (by decide +kernel)), rfl⟩
theorem lk_N_132 : InT (.methodLink "NameWriter" 132 m_N_lengthOfId.1) := ⟨List.mem_append_right _ (List.mem_of_getElem? (i := 321) (by decide +kernel)), rfl⟩
theorem lk_N_135 : InT (.methodLink "NameWriter" 135 m_N_isSmallLetter.1) := ⟨List.mem_append_right _ (List.mem_of_getElem? (i := 324) (by decide +kernel)), rfl⟩
theorem lk_N_140 : InT (.methodLink "NameWriter" 140 ⟨"java/lang/String", "length", "()I"⟩) := ⟨List.mem_append_right _ (List.mem_of_getElem? (i := 679) (by decide +kernel)), rfl⟩
theorem lk_N_145 : InT (.methodLink "NameWriter" 145 ⟨"java/lang/String", "charAt", "(I)C"⟩) := ⟨List.mem_append_right _ (List.mem_of_getElem? (i := 680) (by decide +kernel)), rfl⟩
theorem lk_D_3 : InT (.methodLink "NameWriter$Nodes" 3 ⟨"java/lang/Object", "<init>", "()V"⟩) := ⟨List.mem_append_right _ (List.mem_of_getElem? (i := 32) (by decide +kernel)), rfl⟩
theorem lf_D_11 : InT (.fieldLink "NameWriter$Nodes" 11 "NameWriter$Nodes" "cells" "[I") := ⟨List.mem_append_right _ (List.mem_of_getElem? (i := 33) (by decide +kernel)), rfl⟩
theorem lf_D_15 : InT (.fieldLink "NameWriter$Nodes" 15 "NameWriter$Nodes" "kept" "I") := ⟨List.mem_append_right _ (List.mem_of_getElem? (i := 34) (by decide +kernel)), rfl⟩
theorem lf_D_19 : InT (.fieldLink "NameWriter$Nodes" 19 "NameWriter$Nodes" "drafted" "I") := ⟨List.mem_append_right _ (List.mem_of_getElem? (i := 35) (by decide +kernel)), rfl⟩
theorem lc_D_22 : InT (.classLink "NameWriter$Nodes" 22 "java/lang/IllegalStateException") := ⟨List.mem_append_right _ (List.mem_of_getElem? (i := 279) (by decide +kernel)), rfl⟩
theorem lk_D_26 : InT (.methodLink "NameWriter$Nodes" 26 ⟨"java/lang/IllegalStateException", "<init>", "(Ljava/lang/String;)V"⟩) := ⟨List.mem_append_right _ (List.mem_of_getElem? (i := 289) (by decide +kernel)), rfl⟩
theorem lk_D_31 : InT (.methodLink "NameWriter$Nodes" 31 ⟨"java/lang/String", "length", "()I"⟩) := ⟨List.mem_append_right _ (List.mem_of_getElem? (i := 190) (by decide +kernel)), rfl⟩
theorem lc_D_37 : InT (.classLink "NameWriter$Nodes" 37 "java/lang/IllegalArgumentException") := ⟨List.mem_append_right _ (List.mem_of_getElem? (i := 200) (by decide +kernel)), rfl⟩
theorem lk_D_41 : InT (.methodLink "NameWriter$Nodes" 41 ⟨"java/lang/IllegalArgumentException", "<init>", "(Ljava/lang/String;)V"⟩) := ⟨List.mem_append_right _ (List.mem_of_getElem? (i := 242) (by decide +kernel)), rfl⟩
theorem lk_D_42 : InT (.methodLink "NameWriter$Nodes" 42 m_D_add.1) := ⟨List.mem_append_right _ (List.mem_of_getElem? (i := 268) (by decide +kernel)), rfl⟩
theorem lk_D_46 : InT (.methodLink "NameWriter$Nodes" 46 m_D_needId.1) := ⟨List.mem_append_right _ (List.mem_of_getElem? (i := 315) (by decide +kernel)), rfl⟩
theorem lk_D_50 : InT (.methodLink "NameWriter$Nodes" 50 m_D_needPrefix.1) := ⟨List.mem_append_right _ (List.mem_of_getElem? (i := 339) (by decide +kernel)), rfl⟩
theorem lk_D_53 : InT (.methodLink "NameWriter$Nodes" 53 m_D_kindOf.1) := ⟨List.mem_append_right _ (List.mem_of_getElem? (i := 343) (by decide +kernel)), rfl⟩
theorem lk_D_59 : InT (.methodLink "NameWriter$Nodes" 59 m_D_isArgumentOrNone.1) := ⟨List.mem_append_right _ (List.mem_of_getElem? (i := 360) (by decide +kernel)), rfl⟩
theorem lk_D_63 : InT (.methodLink "NameWriter$Nodes" 63 m_D_hasGap.1) := ⟨List.mem_append_right _ (List.mem_of_getElem? (i := 368) (by decide +kernel)), rfl⟩
theorem lk_D_71 : InT (.methodLink "NameWriter$Nodes" 71 m_D_needType.1) := ⟨List.mem_append_right _ (List.mem_of_getElem? (i := 384) (by decide +kernel)), rfl⟩
theorem lk_D_78 : InT (.methodLink "NameWriter$Nodes" 78 m_D_needParameters.1) := ⟨List.mem_append_right _ (List.mem_of_getElem? (i := 413) (by decide +kernel)), rfl⟩
theorem lk_D_82 : InT (.methodLink "NameWriter$Nodes" 82 m_D_cell.1) := ⟨List.mem_append_right _ (List.mem_of_getElem? (i := 276) (by decide +kernel)), rfl⟩
theorem ln_D_88 : InT (.constant "NameWriter$Nodes" 88 (-999999 : Int32)) := ⟨List.mem_append_right _ (List.mem_of_getElem? (i := 434) (by decide +kernel)), rfl⟩
theorem ln_D_89 : InT (.constant "NameWriter$Nodes" 89 (999999 : Int32)) := ⟨List.mem_append_right _ (List.mem_of_getElem? (i := 435) (by decide +kernel)), rfl⟩
theorem lk_D_94 : InT (.methodLinkNest "NameWriter$Nodes" 94 m_N_isId.1 "NameWriter") := ⟨List.mem_append_right _ (List.mem_of_getElem? (i := 318) (by decide +kernel)), rfl⟩
theorem lk_D_101 : InT (.methodLink "NameWriter$Nodes" 101 m_D_isType.1) := ⟨List.mem_append_right _ (List.mem_of_getElem? (i := 364) (by decide +kernel)), rfl⟩
theorem lk_D_106 : InT (.methodLink "NameWriter$Nodes" 106 m_D_isParameterOrNone.1) := ⟨List.mem_append_right _ (List.mem_of_getElem? (i := 417) (by decide +kernel)), rfl⟩
theorem lk_D_111 : InT (.methodLink "NameWriter$Nodes" 111 m_D_depthOf.1) := ⟨List.mem_append_right _ (List.mem_of_getElem? (i := 272) (by decide +kernel)), rfl⟩
theorem lk_D_114 : InT (.methodLink "NameWriter$Nodes" 114 ⟨"java/lang/Math", "max", "(II)I"⟩) := ⟨List.mem_append_right _ (List.mem_of_getElem? (i := 277) (by decide +kernel)), rfl⟩
theorem lk_D_123 : InT (.methodLink "NameWriter$Nodes" 123 m_D_areAlike.1) := ⟨List.mem_append_right _ (List.mem_of_getElem? (i := 295) (by decide +kernel)), rfl⟩
theorem lk_R_3 : InT (.methodLink "NameWriter$Reader" 3 ⟨"java/lang/Object", "<init>", "()V"⟩) := ⟨List.mem_append_right _ (List.mem_of_getElem? (i := 82) (by decide +kernel)), rfl⟩
theorem lc_R_9 : InT (.classLink "NameWriter$Reader" 9 "NameWriter$Row") := ⟨List.mem_append_right _ (List.mem_of_getElem? (i := 83) (by decide +kernel)), rfl⟩
theorem lk_R_11 : InT (.methodLinkNest "NameWriter$Reader" 11 m_W_init.1 "NameWriter") := ⟨List.mem_append_right _ (List.mem_of_getElem? (i := 84) (by decide +kernel)), rfl⟩
theorem lf_R_12 : InT (.fieldLink "NameWriter$Reader" 12 "NameWriter$Reader" "told" "LNameWriter$Row;") := ⟨List.mem_append_right _ (List.mem_of_getElem? (i := 85) (by decide +kernel)), rfl⟩
theorem lf_R_18 : InT (.fieldLink "NameWriter$Reader" 18 "NameWriter$Reader" "nodes" "LNameWriter$Nodes;") := ⟨List.mem_append_right _ (List.mem_of_getElem? (i := 87) (by decide +kernel)), rfl⟩
theorem lf_R_22 : InT (.fieldLink "NameWriter$Reader" 22 "NameWriter$Reader" "letters" "LNameWriter$Row;") := ⟨List.mem_append_right _ (List.mem_of_getElem? (i := 88) (by decide +kernel)), rfl⟩
theorem lf_R_25 : InT (.fieldLink "NameWriter$Reader" 25 "NameWriter$Reader" "place" "I") := ⟨List.mem_append_right _ (List.mem_of_getElem? (i := 89) (by decide +kernel)), rfl⟩
theorem lk_R_29 : InT (.methodLink "NameWriter$Reader" 29 m_W_cut.1) := ⟨List.mem_append_right _ (List.mem_of_getElem? (i := 613) (by decide +kernel)), rfl⟩
theorem lk_R_33 : InT (.methodLink "NameWriter$Reader" 33 m_R_pass.1) := ⟨List.mem_append_right _ (List.mem_of_getElem? (i := 614) (by decide +kernel)), rfl⟩
theorem lk_R_36 : InT (.methodLink "NameWriter$Reader" 36 m_R_readScoped.1) := ⟨List.mem_append_right _ (List.mem_of_getElem? (i := 629) (by decide +kernel)), rfl⟩
theorem lk_R_40 : InT (.methodLink "NameWriter$Reader" 40 m_D_kindOf.1) := ⟨List.mem_append_right _ (List.mem_of_getElem? (i := 691) (by decide +kernel)), rfl⟩
theorem lk_R_45 : InT (.methodLink "NameWriter$Reader" 45 m_R_readType.1) := ⟨List.mem_append_right _ (List.mem_of_getElem? (i := 683) (by decide +kernel)), rfl⟩
theorem lk_R_48 : InT (.methodLink "NameWriter$Reader" 48 m_R_readFirstParameter.1) := ⟨List.mem_append_right _ (List.mem_of_getElem? (i := 710) (by decide +kernel)), rfl⟩
theorem lk_R_51 : InT (.methodLink "NameWriter$Reader" 51 m_R_readNextParameter.1) := ⟨List.mem_append_right _ (List.mem_of_getElem? (i := 714) (by decide +kernel)), rfl⟩
theorem lk_R_55 : InT (.methodLink "NameWriter$Reader" 55 m_R_next.1) := ⟨List.mem_append_right _ (List.mem_of_getElem? (i := 618) (by decide +kernel)), rfl⟩
theorem lk_R_59 : InT (.methodLink "NameWriter$Reader" 59 m_R_need.1) := ⟨List.mem_append_right _ (List.mem_of_getElem? (i := 623) (by decide +kernel)), rfl⟩
theorem lk_R_63 : InT (.methodLink "NameWriter$Reader" 63 m_D_addEntity.1) := ⟨List.mem_append_right _ (List.mem_of_getElem? (i := 722) (by decide +kernel)), rfl⟩
theorem lc_R_67 : InT (.classLink "NameWriter$Reader" 67 "java/lang/IllegalArgumentException") := ⟨List.mem_append_right _ (List.mem_of_getElem? (i := 626) (by decide +kernel)), rfl⟩
theorem lk_R_71 : InT (.methodLink "NameWriter$Reader" 71 ⟨"java/lang/IllegalArgumentException", "<init>", "(Ljava/lang/String;)V"⟩) := ⟨List.mem_append_right _ (List.mem_of_getElem? (i := 628) (by decide +kernel)), rfl⟩
theorem lk_R_74 : InT (.methodLink "NameWriter$Reader" 74 m_W_at.1) := ⟨List.mem_append_right _ (List.mem_of_getElem? (i := 622) (by decide +kernel)), rfl⟩
theorem lk_R_77 : InT (.methodLinkNest "NameWriter$Reader" 77 m_N_builtinOfLetter.1 "NameWriter") := ⟨List.mem_append_right _ (List.mem_of_getElem? (i := 675) (by decide +kernel)), rfl⟩
theorem lk_R_80 : InT (.methodLink "NameWriter$Reader" 80 m_D_addBuiltin.1) := ⟨List.mem_append_right _ (List.mem_of_getElem? (i := 681) (by decide +kernel)), rfl⟩
theorem lk_R_83 : InT (.methodLink "NameWriter$Reader" 83 m_R_readToldType.1) := ⟨List.mem_append_right _ (List.mem_of_getElem? (i := 687) (by decide +kernel)), rfl⟩
theorem lk_R_86 : InT (.methodLink "NameWriter$Reader" 86 m_R_readUntold.1) := ⟨List.mem_append_right _ (List.mem_of_getElem? (i := 692) (by decide +kernel)), rfl⟩
theorem lk_R_89 : InT (.methodLink "NameWriter$Reader" 89 m_W_add.1) := ⟨List.mem_append_right _ (List.mem_of_getElem? (i := 658) (by decide +kernel)), rfl⟩
theorem lk_R_93 : InT (.methodLink "NameWriter$Reader" 93 m_R_readTold.1) := ⟨List.mem_append_right _ (List.mem_of_getElem? (i := 641) (by decide +kernel)), rfl⟩
theorem lk_R_96 : InT (.methodLink "NameWriter$Reader" 96 m_R_readFilled.1) := ⟨List.mem_append_right _ (List.mem_of_getElem? (i := 663) (by decide +kernel)), rfl⟩
theorem lk_R_100 : InT (.methodLink "NameWriter$Reader" 100 m_R_readWrapped.1) := ⟨List.mem_append_right _ (List.mem_of_getElem? (i := 696) (by decide +kernel)), rfl⟩
theorem lk_R_103 : InT (.methodLink "NameWriter$Reader" 103 m_R_readArray.1) := ⟨List.mem_append_right _ (List.mem_of_getElem? (i := 701) (by decide +kernel)), rfl⟩
theorem lk_R_106 : InT (.methodLink "NameWriter$Reader" 106 m_R_readFunction.1) := ⟨List.mem_append_right _ (List.mem_of_getElem? (i := 706) (by decide +kernel)), rfl⟩
theorem lk_R_109 : InT (.methodLink "NameWriter$Reader" 109 m_D_addWrapped.1) := ⟨List.mem_append_right _ (List.mem_of_getElem? (i := 700) (by decide +kernel)), rfl⟩
theorem lk_R_112 : InT (.methodLink "NameWriter$Reader" 112 m_R_readNumber.1) := ⟨List.mem_append_right _ (List.mem_of_getElem? (i := 645) (by decide +kernel)), rfl⟩
theorem lk_R_115 : InT (.methodLink "NameWriter$Reader" 115 m_D_addArray.1) := ⟨List.mem_append_right _ (List.mem_of_getElem? (i := 705) (by decide +kernel)), rfl⟩
theorem lk_R_118 : InT (.methodLink "NameWriter$Reader" 118 m_D_addFunction.1) := ⟨List.mem_append_right _ (List.mem_of_getElem? (i := 718) (by decide +kernel)), rfl⟩
theorem lk_R_122 : InT (.methodLink "NameWriter$Reader" 122 m_R_readNested.1) := ⟨List.mem_append_right _ (List.mem_of_getElem? (i := 633) (by decide +kernel)), rfl⟩
theorem lk_R_125 : InT (.methodLink "NameWriter$Reader" 125 m_R_readId.1) := ⟨List.mem_append_right _ (List.mem_of_getElem? (i := 652) (by decide +kernel)), rfl⟩
theorem lk_R_128 : InT (.methodLink "NameWriter$Reader" 128 m_D_addName.1) := ⟨List.mem_append_right _ (List.mem_of_getElem? (i := 657) (by decide +kernel)), rfl⟩
theorem lk_R_131 : InT (.methodLink "NameWriter$Reader" 131 m_R_readNestedStart.1) := ⟨List.mem_append_right _ (List.mem_of_getElem? (i := 637) (by decide +kernel)), rfl⟩
theorem lk_R_134 : InT (.methodLink "NameWriter$Reader" 134 m_R_readNestedStep.1) := ⟨List.mem_append_right _ (List.mem_of_getElem? (i := 659) (by decide +kernel)), rfl⟩
theorem lk_R_137 : InT (.methodLink "NameWriter$Reader" 137 m_D_cell.1) := ⟨List.mem_append_right _ (List.mem_of_getElem? (i := 721) (by decide +kernel)), rfl⟩
theorem lk_R_140 : InT (.methodLink "NameWriter$Reader" 140 m_D_addMember.1) := ⟨List.mem_append_right _ (List.mem_of_getElem? (i := 720) (by decide +kernel)), rfl⟩
theorem lk_R_143 : InT (.methodLink "NameWriter$Reader" 143 m_R_readArgument.1) := ⟨List.mem_append_right _ (List.mem_of_getElem? (i := 667) (by decide +kernel)), rfl⟩
theorem lk_R_146 : InT (.methodLink "NameWriter$Reader" 146 m_D_addFilled.1) := ⟨List.mem_append_right _ (List.mem_of_getElem? (i := 719) (by decide +kernel)), rfl⟩
theorem lk_R_149 : InT (.methodLink "NameWriter$Reader" 149 m_R_readLiteral.1) := ⟨List.mem_append_right _ (List.mem_of_getElem? (i := 671) (by decide +kernel)), rfl⟩
theorem lk_R_152 : InT (.methodLink "NameWriter$Reader" 152 m_D_addLiteral.1) := ⟨List.mem_append_right _ (List.mem_of_getElem? (i := 682) (by decide +kernel)), rfl⟩
theorem lk_R_155 : InT (.methodLinkNest "NameWriter$Reader" 155 m_N_isSmallLetter.1 "NameWriter") := ⟨List.mem_append_right _ (List.mem_of_getElem? (i := 656) (by decide +kernel)), rfl⟩
theorem lk_R_158 : InT (.methodLink "NameWriter$Reader" 158 m_R_digitOf.1) := ⟨List.mem_append_right _ (List.mem_of_getElem? (i := 649) (by decide +kernel)), rfl⟩
theorem lk_W_3 : InT (.methodLink "NameWriter$Row" 3 ⟨"java/lang/Object", "<init>", "()V"⟩) := ⟨List.mem_append_right _ (List.mem_of_getElem? (i := 49) (by decide +kernel)), rfl⟩
theorem lf_W_9 : InT (.fieldLink "NameWriter$Row" 9 "NameWriter$Row" "items" "[I") := ⟨List.mem_append_right _ (List.mem_of_getElem? (i := 50) (by decide +kernel)), rfl⟩
theorem lf_W_15 : InT (.fieldLink "NameWriter$Row" 15 "NameWriter$Row" "size" "I") := ⟨List.mem_append_right _ (List.mem_of_getElem? (i := 51) (by decide +kernel)), rfl⟩
theorem lk_W_19 : InT (.methodLink "NameWriter$Row" 19 ⟨"java/lang/Math", "min", "(II)I"⟩) := ⟨List.mem_append_right _ (List.mem_of_getElem? (i := 146) (by decide +kernel)), rfl⟩
theorem lk_W_25 : InT (.methodLink "NameWriter$Row" 25 ⟨"java/lang/Math", "max", "(II)I"⟩) := ⟨List.mem_append_right _ (List.mem_of_getElem? (i := 149) (by decide +kernel)), rfl⟩
theorem lk_W_28 : InT (.methodLink "NameWriter$Row" 28 ⟨"java/lang/System", "arraycopy", "(Ljava/lang/Object;ILjava/lang/Object;II)V"⟩) := ⟨List.mem_append_right _ (List.mem_of_getElem? (i := 599) (by decide +kernel)), rfl⟩
theorem lk_P_3 : InT (.methodLink "NameWriter$Writer" 3 ⟨"java/lang/Object", "<init>", "()V"⟩) := ⟨List.mem_append_right _ (List.mem_of_getElem? (i := 62) (by decide +kernel)), rfl⟩
theorem lc_P_9 : InT (.classLink "NameWriter$Writer" 9 "NameWriter$Row") := ⟨List.mem_append_right _ (List.mem_of_getElem? (i := 63) (by decide +kernel)), rfl⟩
theorem lk_P_11 : InT (.methodLinkNest "NameWriter$Writer" 11 m_W_init.1 "NameWriter") := ⟨List.mem_append_right _ (List.mem_of_getElem? (i := 64) (by decide +kernel)), rfl⟩
theorem lf_P_12 : InT (.fieldLink "NameWriter$Writer" 12 "NameWriter$Writer" "letters" "LNameWriter$Row;") := ⟨List.mem_append_right _ (List.mem_of_getElem? (i := 65) (by decide +kernel)), rfl⟩
theorem lf_P_18 : InT (.fieldLink "NameWriter$Writer" 18 "NameWriter$Writer" "told" "LNameWriter$Row;") := ⟨List.mem_append_right _ (List.mem_of_getElem? (i := 67) (by decide +kernel)), rfl⟩
theorem lf_P_21 : InT (.fieldLink "NameWriter$Writer" 21 "NameWriter$Writer" "nodes" "LNameWriter$Nodes;") := ⟨List.mem_append_right _ (List.mem_of_getElem? (i := 69) (by decide +kernel)), rfl⟩
theorem lk_P_25 : InT (.methodLink "NameWriter$Writer" 25 m_W_cut.1) := ⟨List.mem_append_right _ (List.mem_of_getElem? (i := 465) (by decide +kernel)), rfl⟩
theorem lk_P_29 : InT (.methodLink "NameWriter$Writer" 29 m_P_put.1) := ⟨List.mem_append_right _ (List.mem_of_getElem? (i := 466) (by decide +kernel)), rfl⟩
theorem lk_P_32 : InT (.methodLink "NameWriter$Writer" 32 m_D_cell.1) := ⟨List.mem_append_right _ (List.mem_of_getElem? (i := 487) (by decide +kernel)), rfl⟩
theorem lk_P_38 : InT (.methodLink "NameWriter$Writer" 38 m_P_putUntold.1) := ⟨List.mem_append_right _ (List.mem_of_getElem? (i := 488) (by decide +kernel)), rfl⟩
theorem lk_P_42 : InT (.methodLink "NameWriter$Writer" 42 m_P_putType.1) := ⟨List.mem_append_right _ (List.mem_of_getElem? (i := 578) (by decide +kernel)), rfl⟩
theorem lk_P_45 : InT (.methodLink "NameWriter$Writer" 45 m_P_putParameters.1) := ⟨List.mem_append_right _ (List.mem_of_getElem? (i := 591) (by decide +kernel)), rfl⟩
theorem lk_P_48 : InT (.methodLink "NameWriter$Writer" 48 m_W_add.1) := ⟨List.mem_append_right _ (List.mem_of_getElem? (i := 470) (by decide +kernel)), rfl⟩
theorem lc_P_52 : InT (.classLink "NameWriter$Writer" 52 "java/lang/UnsupportedOperationException") := ⟨List.mem_append_right _ (List.mem_of_getElem? (i := 471) (by decide +kernel)), rfl⟩
theorem lk_P_56 : InT (.methodLink "NameWriter$Writer" 56 ⟨"java/lang/UnsupportedOperationException", "<init>", "(Ljava/lang/String;)V"⟩) := ⟨List.mem_append_right _ (List.mem_of_getElem? (i := 481) (by decide +kernel)), rfl⟩
theorem lk_P_59 : InT (.methodLink "NameWriter$Writer" 59 m_D_kindOf.1) := ⟨List.mem_append_right _ (List.mem_of_getElem? (i := 496) (by decide +kernel)), rfl⟩
theorem lk_P_63 : InT (.methodLink "NameWriter$Writer" 63 m_P_putBuiltin.1) := ⟨List.mem_append_right _ (List.mem_of_getElem? (i := 526) (by decide +kernel)), rfl⟩
theorem lk_P_66 : InT (.methodLink "NameWriter$Writer" 66 m_P_putTold.1) := ⟨List.mem_append_right _ (List.mem_of_getElem? (i := 501) (by decide +kernel)), rfl⟩
theorem lk_P_69 : InT (.methodLink "NameWriter$Writer" 69 m_P_needLevel.1) := ⟨List.mem_append_right _ (List.mem_of_getElem? (i := 492) (by decide +kernel)), rfl⟩
theorem lk_P_72 : InT (.methodLink "NameWriter$Writer" 72 m_P_putPrefix.1) := ⟨List.mem_append_right _ (List.mem_of_getElem? (i := 497) (by decide +kernel)), rfl⟩
theorem lk_P_75 : InT (.methodLink "NameWriter$Writer" 75 m_P_putId.1) := ⟨List.mem_append_right _ (List.mem_of_getElem? (i := 513) (by decide +kernel)), rfl⟩
theorem lk_P_78 : InT (.methodLink "NameWriter$Writer" 78 m_P_putArguments.1) := ⟨List.mem_append_right _ (List.mem_of_getElem? (i := 518) (by decide +kernel)), rfl⟩
theorem lk_P_81 : InT (.methodLink "NameWriter$Writer" 81 m_P_putFilled.1) := ⟨List.mem_append_right _ (List.mem_of_getElem? (i := 582) (by decide +kernel)), rfl⟩
theorem lk_P_84 : InT (.methodLink "NameWriter$Writer" 84 m_P_putWrapping.1) := ⟨List.mem_append_right _ (List.mem_of_getElem? (i := 586) (by decide +kernel)), rfl⟩
theorem lk_P_87 : InT (.methodLink "NameWriter$Writer" 87 m_P_putDecimal.1) := ⟨List.mem_append_right _ (List.mem_of_getElem? (i := 573) (by decide +kernel)), rfl⟩
theorem lk_P_92 : InT (.methodLink "NameWriter$Writer" 92 m_P_putLiteral.1) := ⟨List.mem_append_right _ (List.mem_of_getElem? (i := 522) (by decide +kernel)), rfl⟩
theorem lk_P_95 : InT (.methodLink "NameWriter$Writer" 95 ⟨"java/lang/Math", "abs", "(I)I"⟩) := ⟨List.mem_append_right _ (List.mem_of_getElem? (i := 570) (by decide +kernel)), rfl⟩
theorem lk_P_102 : InT (.methodLink "NameWriter$Writer" 102 ⟨"java/lang/String", "length", "()I"⟩) := ⟨List.mem_append_right _ (List.mem_of_getElem? (i := 531) (by decide +kernel)), rfl⟩
theorem lk_P_108 : InT (.methodLink "NameWriter$Writer" 108 ⟨"java/lang/String", "charAt", "(I)C"⟩) := ⟨List.mem_append_right _ (List.mem_of_getElem? (i := 532) (by decide +kernel)), rfl⟩
theorem lk_P_114 : InT (.methodLinkNest "NameWriter$Writer" 114 m_N_lengthOfId.1 "NameWriter") := ⟨List.mem_append_right _ (List.mem_of_getElem? (i := 517) (by decide +kernel)), rfl⟩
theorem ln_P_117 : InT (.constant "NameWriter$Writer" 117 (100000 : Int32)) := ⟨List.mem_append_right _ (List.mem_of_getElem? (i := 577) (by decide +kernel)), rfl⟩
theorem lk_P_118 : InT (.methodLink "NameWriter$Writer" 118 m_W_find.1) := ⟨List.mem_append_right _ (List.mem_of_getElem? (i := 505) (by decide +kernel)), rfl⟩
theorem lk_P_121 : InT (.methodLink "NameWriter$Writer" 121 m_P_putBase36Digit.1) := ⟨List.mem_append_right _ (List.mem_of_getElem? (i := 509) (by decide +kernel)), rfl⟩
theorem lk_L_7 : InT (.methodLink "NameWriterLaw" 7 m_N_builtin.1) := ⟨List.mem_append_right _ (List.mem_of_getElem? (i := 181) (by decide +kernel)), rfl⟩
theorem lc_L_8 : InT (.classLink "NameWriterLaw" 8 "NameWriter") := ⟨List.mem_append_right _ (List.mem_of_getElem? (i := 19) (by decide +kernel)), rfl⟩
theorem lc_L_13 : InT (.classLink "NameWriterLaw" 13 "java/lang/IllegalArgumentException") := ⟨List.mem_append_right _ (List.mem_of_getElem? (i := 179) (by decide +kernel)), rfl⟩
theorem lc_L_15 : InT (.classLink "NameWriterLaw" 15 "java/lang/IllegalStateException") := ⟨List.mem_append_right _ (List.mem_of_getElem? (i := 180) (by decide +kernel)), rfl⟩
theorem lk_L_17 : InT (.methodLink "NameWriterLaw" 17 m_N_name.1) := ⟨List.mem_append_right _ (List.mem_of_getElem? (i := 307) (by decide +kernel)), rfl⟩
theorem lk_L_20 : InT (.methodLink "NameWriterLaw" 20 m_N_member.1) := ⟨List.mem_append_right _ (List.mem_of_getElem? (i := 331) (by decide +kernel)), rfl⟩
theorem lk_L_24 : InT (.methodLink "NameWriterLaw" 24 m_N_fill.1) := ⟨List.mem_append_right _ (List.mem_of_getElem? (i := 351) (by decide +kernel)), rfl⟩
theorem lk_L_28 : InT (.methodLink "NameWriterLaw" 28 m_N_wrap.1) := ⟨List.mem_append_right _ (List.mem_of_getElem? (i := 375) (by decide +kernel)), rfl⟩
theorem lk_L_31 : InT (.methodLink "NameWriterLaw" 31 m_N_array.1) := ⟨List.mem_append_right _ (List.mem_of_getElem? (i := 393) (by decide +kernel)), rfl⟩
theorem lk_L_34 : InT (.methodLink "NameWriterLaw" 34 m_N_function.1) := ⟨List.mem_append_right _ (List.mem_of_getElem? (i := 405) (by decide +kernel)), rfl⟩
theorem lk_L_37 : InT (.methodLink "NameWriterLaw" 37 m_N_literal.1) := ⟨List.mem_append_right _ (List.mem_of_getElem? (i := 425) (by decide +kernel)), rfl⟩
theorem lk_L_40 : InT (.methodLink "NameWriterLaw" 40 m_N_entity.1) := ⟨List.mem_append_right _ (List.mem_of_getElem? (i := 440) (by decide +kernel)), rfl⟩
theorem lk_L_44 : InT (.methodLink "NameWriterLaw" 44 m_N_write.1) := ⟨List.mem_append_right _ (List.mem_of_getElem? (i := 453) (by decide +kernel)), rfl⟩
theorem lc_L_47 : InT (.classLink "NameWriterLaw" 47 "java/lang/UnsupportedOperationException") := ⟨List.mem_append_right _ (List.mem_of_getElem? (i := 452) (by decide +kernel)), rfl⟩
theorem lk_L_49 : InT (.methodLink "NameWriterLaw" 49 m_N_read.1) := ⟨List.mem_append_right _ (List.mem_of_getElem? (i := 605) (by decide +kernel)), rfl⟩
theorem lk_L_53 : InT (.methodLink "NameWriterLaw" 53 m_N_init.1) := ⟨List.mem_append_right _ (List.mem_of_getElem? (i := 21) (by decide +kernel)), rfl⟩
theorem lc_L_54 : InT (.classLink "NameWriterLaw" 54 "NameWriterModel") := ⟨List.mem_append_right _ (List.mem_of_getElem? (i := 723) (by decide +kernel)), rfl⟩
theorem lk_L_56 : InT (.methodLink "NameWriterLaw" 56 m_M_init.1) := ⟨List.mem_append_right _ (List.mem_of_getElem? (i := 725) (by decide +kernel)), rfl⟩
theorem lk_L_57 : InT (.methodLink "NameWriterLaw" 57 m_L_builtin.1) := ⟨List.mem_append_right _ (List.mem_of_getElem? (i := 176) (by decide +kernel)), rfl⟩
theorem lk_L_62 : InT (.methodLink "NameWriterLaw" 62 m_M_builtin.1) := ⟨List.mem_append_right _ (List.mem_of_getElem? (i := 812) (by decide +kernel)), rfl⟩
theorem lk_L_63 : InT (.methodLink "NameWriterLaw" 63 m_M_thrown.1) := ⟨List.mem_append_right _ (List.mem_of_getElem? (i := 808) (by decide +kernel)), rfl⟩
theorem lk_L_66 : InT (.methodLink "NameWriterLaw" 66 m_L_name.1) := ⟨List.mem_append_right _ (List.mem_of_getElem? (i := 304) (by decide +kernel)), rfl⟩
theorem lk_L_68 : InT (.methodLink "NameWriterLaw" 68 m_M_name.1) := ⟨List.mem_append_right _ (List.mem_of_getElem? (i := 828) (by decide +kernel)), rfl⟩
theorem lk_L_69 : InT (.methodLink "NameWriterLaw" 69 m_L_member.1) := ⟨List.mem_append_right _ (List.mem_of_getElem? (i := 328) (by decide +kernel)), rfl⟩
theorem lk_L_72 : InT (.methodLink "NameWriterLaw" 72 m_M_member.1) := ⟨List.mem_append_right _ (List.mem_of_getElem? (i := 835) (by decide +kernel)), rfl⟩
theorem lk_L_73 : InT (.methodLink "NameWriterLaw" 73 m_L_fill.1) := ⟨List.mem_append_right _ (List.mem_of_getElem? (i := 348) (by decide +kernel)), rfl⟩
theorem lk_L_76 : InT (.methodLink "NameWriterLaw" 76 m_M_fill.1) := ⟨List.mem_append_right _ (List.mem_of_getElem? (i := 847) (by decide +kernel)), rfl⟩
theorem lk_L_77 : InT (.methodLink "NameWriterLaw" 77 m_L_wrap.1) := ⟨List.mem_append_right _ (List.mem_of_getElem? (i := 372) (by decide +kernel)), rfl⟩
theorem lk_L_79 : InT (.methodLink "NameWriterLaw" 79 m_M_wrap.1) := ⟨List.mem_append_right _ (List.mem_of_getElem? (i := 859) (by decide +kernel)), rfl⟩
theorem lk_L_80 : InT (.methodLink "NameWriterLaw" 80 m_L_array.1) := ⟨List.mem_append_right _ (List.mem_of_getElem? (i := 390) (by decide +kernel)), rfl⟩
theorem lk_L_82 : InT (.methodLink "NameWriterLaw" 82 m_M_array.1) := ⟨List.mem_append_right _ (List.mem_of_getElem? (i := 863) (by decide +kernel)), rfl⟩
theorem lk_L_83 : InT (.methodLink "NameWriterLaw" 83 m_L_function.1) := ⟨List.mem_append_right _ (List.mem_of_getElem? (i := 402) (by decide +kernel)), rfl⟩
theorem lk_L_85 : InT (.methodLink "NameWriterLaw" 85 m_M_function.1) := ⟨List.mem_append_right _ (List.mem_of_getElem? (i := 867) (by decide +kernel)), rfl⟩
theorem lk_L_86 : InT (.methodLink "NameWriterLaw" 86 m_L_literal.1) := ⟨List.mem_append_right _ (List.mem_of_getElem? (i := 422) (by decide +kernel)), rfl⟩
theorem lk_L_88 : InT (.methodLink "NameWriterLaw" 88 m_M_literal.1) := ⟨List.mem_append_right _ (List.mem_of_getElem? (i := 879) (by decide +kernel)), rfl⟩
theorem lk_L_89 : InT (.methodLink "NameWriterLaw" 89 m_L_entity.1) := ⟨List.mem_append_right _ (List.mem_of_getElem? (i := 437) (by decide +kernel)), rfl⟩
theorem lk_L_92 : InT (.methodLink "NameWriterLaw" 92 m_M_entity.1) := ⟨List.mem_append_right _ (List.mem_of_getElem? (i := 885) (by decide +kernel)), rfl⟩
theorem lk_L_93 : InT (.methodLink "NameWriterLaw" 93 m_N_of.1) := ⟨List.mem_append_right _ (List.mem_of_getElem? (i := 115) (by decide +kernel)), rfl⟩
theorem lk_L_96 : InT (.methodLink "NameWriterLaw" 96 m_M_of.1) := ⟨List.mem_append_right _ (List.mem_of_getElem? (i := 889) (by decide +kernel)), rfl⟩
theorem lk_L_97 : InT (.methodLink "NameWriterLaw" 97 m_L_write.1) := ⟨List.mem_append_right _ (List.mem_of_getElem? (i := 449) (by decide +kernel)), rfl⟩
theorem lk_L_99 : InT (.methodLink "NameWriterLaw" 99 m_M_write.1) := ⟨List.mem_append_right _ (List.mem_of_getElem? (i := 893) (by decide +kernel)), rfl⟩
theorem ln_L_100 : InT (.constantLong "NameWriterLaw" 100 (4294967295 : Int64)) := ⟨List.mem_append_right _ (List.mem_of_getElem? (i := 1074) (by decide +kernel)), rfl⟩
theorem lk_L_102 : InT (.methodLink "NameWriterLaw" 102 m_N_type.1) := ⟨List.mem_append_right _ (List.mem_of_getElem? (i := 127) (by decide +kernel)), rfl⟩
theorem lk_L_106 : InT (.methodLink "NameWriterLaw" 106 m_M_type.1) := ⟨List.mem_append_right _ (List.mem_of_getElem? (i := 956) (by decide +kernel)), rfl⟩
theorem lk_L_107 : InT (.methodLink "NameWriterLaw" 107 m_N_wipe.1) := ⟨List.mem_append_right _ (List.mem_of_getElem? (i := 152) (by decide +kernel)), rfl⟩
theorem lk_L_110 : InT (.methodLink "NameWriterLaw" 110 m_M_wipe.1) := ⟨List.mem_append_right _ (List.mem_of_getElem? (i := 961) (by decide +kernel)), rfl⟩
theorem lk_L_111 : InT (.methodLink "NameWriterLaw" 111 m_N_text.1) := ⟨List.mem_append_right _ (List.mem_of_getElem? (i := 156) (by decide +kernel)), rfl⟩
theorem lk_L_114 : InT (.methodLink "NameWriterLaw" 114 m_M_text.1) := ⟨List.mem_append_right _ (List.mem_of_getElem? (i := 965) (by decide +kernel)), rfl⟩
theorem lk_L_115 : InT (.methodLink "NameWriterLaw" 115 m_L_read.1) := ⟨List.mem_append_right _ (List.mem_of_getElem? (i := 602) (by decide +kernel)), rfl⟩
theorem lk_L_118 : InT (.methodLink "NameWriterLaw" 118 m_M_read.1) := ⟨List.mem_append_right _ (List.mem_of_getElem? (i := 969) (by decide +kernel)), rfl⟩
theorem lk_L_119 : InT (.methodLink "NameWriterLaw" 119 m_N_table.1) := ⟨List.mem_append_right _ (List.mem_of_getElem? (i := 164) (by decide +kernel)), rfl⟩
theorem lk_L_122 : InT (.methodLink "NameWriterLaw" 122 m_M_table.1) := ⟨List.mem_append_right _ (List.mem_of_getElem? (i := 1066) (by decide +kernel)), rfl⟩
theorem lk_L_123 : InT (.methodLink "NameWriterLaw" 123 m_N_look.1) := ⟨List.mem_append_right _ (List.mem_of_getElem? (i := 168) (by decide +kernel)), rfl⟩
theorem lk_L_126 : InT (.methodLink "NameWriterLaw" 126 m_M_look.1) := ⟨List.mem_append_right _ (List.mem_of_getElem? (i := 1070) (by decide +kernel)), rfl⟩
theorem lk_M_1 : InT (.methodLink "NameWriterModel" 1 ⟨"java/lang/Object", "<init>", "()V"⟩) := ⟨List.mem_append_right _ (List.mem_of_getElem? (i := 728) (by decide +kernel)), rfl⟩
theorem lf_M_7 : InT (.fieldLink "NameWriterModel" 7 "NameWriterModel" "kind" "[I") := ⟨List.mem_append_right _ (List.mem_of_getElem? (i := 732) (by decide +kernel)), rfl⟩
theorem lf_M_13 : InT (.fieldLink "NameWriterModel" 13 "NameWriterModel" "value" "[I") := ⟨List.mem_append_right _ (List.mem_of_getElem? (i := 733) (by decide +kernel)), rfl⟩
theorem lf_M_16 : InT (.fieldLink "NameWriterModel" 16 "NameWriterModel" "first" "[I") := ⟨List.mem_append_right _ (List.mem_of_getElem? (i := 734) (by decide +kernel)), rfl⟩
theorem lf_M_19 : InT (.fieldLink "NameWriterModel" 19 "NameWriterModel" "gives" "[I") := ⟨List.mem_append_right _ (List.mem_of_getElem? (i := 735) (by decide +kernel)), rfl⟩
theorem lf_M_22 : InT (.fieldLink "NameWriterModel" 22 "NameWriterModel" "parts" "[I") := ⟨List.mem_append_right _ (List.mem_of_getElem? (i := 736) (by decide +kernel)), rfl⟩
theorem lf_M_25 : InT (.fieldLink "NameWriterModel" 25 "NameWriterModel" "depth" "[I") := ⟨List.mem_append_right _ (List.mem_of_getElem? (i := 737) (by decide +kernel)), rfl⟩
theorem lf_M_28 : InT (.fieldLink "NameWriterModel" 28 "NameWriterModel" "text" "[I") := ⟨List.mem_append_right _ (List.mem_of_getElem? (i := 738) (by decide +kernel)), rfl⟩
theorem lf_M_31 : InT (.fieldLink "NameWriterModel" 31 "NameWriterModel" "out" "[I") := ⟨List.mem_append_right _ (List.mem_of_getElem? (i := 740) (by decide +kernel)), rfl⟩
theorem lf_M_34 : InT (.fieldLink "NameWriterModel" 34 "NameWriterModel" "seenTable" "[I") := ⟨List.mem_append_right _ (List.mem_of_getElem? (i := 744) (by decide +kernel)), rfl⟩
theorem lf_M_37 : InT (.fieldLink "NameWriterModel" 37 "NameWriterModel" "entry" "[I") := ⟨List.mem_append_right _ (List.mem_of_getElem? (i := 746) (by decide +kernel)), rfl⟩
theorem lf_M_40 : InT (.fieldLink "NameWriterModel" 40 "NameWriterModel" "task" "[I") := ⟨List.mem_append_right _ (List.mem_of_getElem? (i := 748) (by decide +kernel)), rfl⟩
theorem lf_M_43 : InT (.fieldLink "NameWriterModel" 43 "NameWriterModel" "of" "[I") := ⟨List.mem_append_right _ (List.mem_of_getElem? (i := 749) (by decide +kernel)), rfl⟩
theorem lf_M_46 : InT (.fieldLink "NameWriterModel" 46 "NameWriterModel" "number" "[I") := ⟨List.mem_append_right _ (List.mem_of_getElem? (i := 750) (by decide +kernel)), rfl⟩
theorem lf_M_49 : InT (.fieldLink "NameWriterModel" 49 "NameWriterModel" "list" "[I") := ⟨List.mem_append_right _ (List.mem_of_getElem? (i := 751) (by decide +kernel)), rfl⟩
theorem lf_M_52 : InT (.fieldLink "NameWriterModel" 52 "NameWriterModel" "thrown" "I") := ⟨List.mem_append_right _ (List.mem_of_getElem? (i := 729) (by decide +kernel)), rfl⟩
theorem lf_M_56 : InT (.fieldLink "NameWriterModel" 56 "NameWriterModel" "count" "I") := ⟨List.mem_append_right _ (List.mem_of_getElem? (i := 730) (by decide +kernel)), rfl⟩
theorem lk_M_59 : InT (.methodLink "NameWriterModel" 59 m_M_isNode.1) := ⟨List.mem_append_right _ (List.mem_of_getElem? (i := 843) (by decide +kernel)), rfl⟩
theorem lk_M_63 : InT (.methodLink "NameWriterModel" 63 m_M_isType.1) := ⟨List.mem_append_right _ (List.mem_of_getElem? (i := 855) (by decide +kernel)), rfl⟩
theorem lf_M_66 : InT (.fieldLink "NameWriterModel" 66 "NameWriterModel" "all" "I") := ⟨List.mem_append_right _ (List.mem_of_getElem? (i := 731) (by decide +kernel)), rfl⟩
theorem lk_M_69 : InT (.methodLink "NameWriterModel" 69 m_M_deeper.1) := ⟨List.mem_append_right _ (List.mem_of_getElem? (i := 824) (by decide +kernel)), rfl⟩
theorem lk_M_73 : InT (.methodLink "NameWriterModel" 73 m_M_node.1) := ⟨List.mem_append_right _ (List.mem_of_getElem? (i := 820) (by decide +kernel)), rfl⟩
theorem lk_M_77 : InT (.methodLink "NameWriterModel" 77 m_M_give.1) := ⟨List.mem_append_right _ (List.mem_of_getElem? (i := 816) (by decide +kernel)), rfl⟩
theorem lk_M_80 : InT (.methodLink "NameWriterModel" 80 m_M_isId.1) := ⟨List.mem_append_right _ (List.mem_of_getElem? (i := 832) (by decide +kernel)), rfl⟩
theorem lk_M_83 : InT (.methodLink "NameWriterModel" 83 m_M_isScoped.1) := ⟨List.mem_append_right _ (List.mem_of_getElem? (i := 839) (by decide +kernel)), rfl⟩
theorem lk_M_86 : InT (.methodLink "NameWriterModel" 86 m_M_isArgument.1) := ⟨List.mem_append_right _ (List.mem_of_getElem? (i := 851) (by decide +kernel)), rfl⟩
theorem lk_M_89 : InT (.methodLink "NameWriterModel" 89 m_M_isParameter.1) := ⟨List.mem_append_right _ (List.mem_of_getElem? (i := 875) (by decide +kernel)), rfl⟩
theorem lk_M_92 : InT (.methodLink "NameWriterModel" 92 m_M_areParameters.1) := ⟨List.mem_append_right _ (List.mem_of_getElem? (i := 871) (by decide +kernel)), rfl⟩
theorem ln_M_96 : InT (.constant "NameWriterModel" 96 (-999999 : Int32)) := ⟨List.mem_append_right _ (List.mem_of_getElem? (i := 883) (by decide +kernel)), rfl⟩
theorem ln_M_97 : InT (.constant "NameWriterModel" 97 (999999 : Int32)) := ⟨List.mem_append_right _ (List.mem_of_getElem? (i := 884) (by decide +kernel)), rfl⟩
theorem lf_M_98 : InT (.fieldLink "NameWriterModel" 98 "NameWriterModel" "over" "Z") := ⟨List.mem_append_right _ (List.mem_of_getElem? (i := 742) (by decide +kernel)), rfl⟩
theorem lf_M_102 : InT (.fieldLink "NameWriterModel" 102 "NameWriterModel" "outs" "I") := ⟨List.mem_append_right _ (List.mem_of_getElem? (i := 741) (by decide +kernel)), rfl⟩
theorem lk_M_105 : InT (.methodLink "NameWriterModel" 105 m_M_emit.1) := ⟨List.mem_append_right _ (List.mem_of_getElem? (i := 897) (by decide +kernel)), rfl⟩
theorem ln_M_109 : InT (.constant "NameWriterModel" 109 (65535 : Int32)) := ⟨List.mem_append_right _ (List.mem_of_getElem? (i := 913) (by decide +kernel)), rfl⟩
theorem lf_M_110 : InT (.fieldLink "NameWriterModel" 110 "NameWriterModel" "entries" "I") := ⟨List.mem_append_right _ (List.mem_of_getElem? (i := 745) (by decide +kernel)), rfl⟩
theorem lk_M_113 : InT (.methodLink "NameWriterModel" 113 m_M_placeOf.1) := ⟨List.mem_append_right _ (List.mem_of_getElem? (i := 934) (by decide +kernel)), rfl⟩
theorem lk_M_117 : InT (.methodLink "NameWriterModel" 117 m_M_sign36.1) := ⟨List.mem_append_right _ (List.mem_of_getElem? (i := 938) (by decide +kernel)), rfl⟩
theorem lf_M_120 : InT (.fieldLink "NameWriterModel" 120 "NameWriterModel" "top" "I") := ⟨List.mem_append_right _ (List.mem_of_getElem? (i := 747) (by decide +kernel)), rfl⟩
theorem lk_M_123 : InT (.methodLink "NameWriterModel" 123 m_M_push.1) := ⟨List.mem_append_right _ (List.mem_of_getElem? (i := 901) (by decide +kernel)), rfl⟩
theorem lk_M_127 : InT (.methodLink "NameWriterModel" 127 m_M_letter.1) := ⟨List.mem_append_right _ (List.mem_of_getElem? (i := 945) (by decide +kernel)), rfl⟩
theorem lk_M_130 : InT (.methodLink "NameWriterModel" 130 m_M_emitNumber.1) := ⟨List.mem_append_right _ (List.mem_of_getElem? (i := 914) (by decide +kernel)), rfl⟩
theorem lk_M_133 : InT (.methodLink "NameWriterModel" 133 m_M_emitId.1) := ⟨List.mem_append_right _ (List.mem_of_getElem? (i := 909) (by decide +kernel)), rfl⟩
theorem lk_M_136 : InT (.methodLink "NameWriterModel" 136 m_M_pushParts.1) := ⟨List.mem_append_right _ (List.mem_of_getElem? (i := 922) (by decide +kernel)), rfl⟩
theorem lk_M_139 : InT (.methodLink "NameWriterModel" 139 m_M_params.1) := ⟨List.mem_append_right _ (List.mem_of_getElem? (i := 926) (by decide +kernel)), rfl⟩
theorem lk_M_142 : InT (.methodLink "NameWriterModel" 142 m_M_told.1) := ⟨List.mem_append_right _ (List.mem_of_getElem? (i := 930) (by decide +kernel)), rfl⟩
theorem lk_M_145 : InT (.methodLink "NameWriterModel" 145 m_M_prefix.1) := ⟨List.mem_append_right _ (List.mem_of_getElem? (i := 941) (by decide +kernel)), rfl⟩
theorem lk_M_148 : InT (.methodLink "NameWriterModel" 148 m_M_literalOf.1) := ⟨List.mem_append_right _ (List.mem_of_getElem? (i := 948) (by decide +kernel)), rfl⟩
theorem lk_M_151 : InT (.methodLink "NameWriterModel" 151 m_M_plain.1) := ⟨List.mem_append_right _ (List.mem_of_getElem? (i := 905) (by decide +kernel)), rfl⟩
theorem lk_M_154 : InT (.methodLink "NameWriterModel" 154 m_M_doTask.1) := ⟨List.mem_append_right _ (List.mem_of_getElem? (i := 918) (by decide +kernel)), rfl⟩
theorem lf_M_157 : InT (.fieldLink "NameWriterModel" 157 "NameWriterModel" "size" "I") := ⟨List.mem_append_right _ (List.mem_of_getElem? (i := 739) (by decide +kernel)), rfl⟩
theorem lk_M_160 : InT (.methodLink "NameWriterModel" 160 m_M_show.1) := ⟨List.mem_append_right _ (List.mem_of_getElem? (i := 952) (by decide +kernel)), rfl⟩
theorem lf_M_163 : InT (.fieldLink "NameWriterModel" 163 "NameWriterModel" "seen" "I") := ⟨List.mem_append_right _ (List.mem_of_getElem? (i := 743) (by decide +kernel)), rfl⟩
theorem ln_M_166 : InT (.constantLong "NameWriterModel" 166 (255 : Int64)) := ⟨List.mem_append_right _ (List.mem_of_getElem? (i := 960) (by decide +kernel)), rfl⟩
theorem lf_M_168 : InT (.fieldLink "NameWriterModel" 168 "NameWriterModel" "at" "I") := ⟨List.mem_append_right _ (List.mem_of_getElem? (i := 752) (by decide +kernel)), rfl⟩
theorem lf_M_171 : InT (.fieldLink "NameWriterModel" 171 "NameWriterModel" "wrong" "Z") := ⟨List.mem_append_right _ (List.mem_of_getElem? (i := 753) (by decide +kernel)), rfl⟩
theorem lk_M_174 : InT (.methodLink "NameWriterModel" 174 m_M_peek.1) := ⟨List.mem_append_right _ (List.mem_of_getElem? (i := 981) (by decide +kernel)), rfl⟩
theorem lk_M_178 : InT (.methodLink "NameWriterModel" 178 m_M_isDigit.1) := ⟨List.mem_append_right _ (List.mem_of_getElem? (i := 1004) (by decide +kernel)), rfl⟩
theorem lk_M_181 : InT (.methodLink "NameWriterModel" 181 m_M_readNumber.1) := ⟨List.mem_append_right _ (List.mem_of_getElem? (i := 1011) (by decide +kernel)), rfl⟩
theorem lk_M_184 : InT (.methodLink "NameWriterModel" 184 m_M_expect.1) := ⟨List.mem_append_right _ (List.mem_of_getElem? (i := 977) (by decide +kernel)), rfl⟩
theorem lk_M_187 : InT (.methodLink "NameWriterModel" 187 m_M_value36.1) := ⟨List.mem_append_right _ (List.mem_of_getElem? (i := 1001) (by decide +kernel)), rfl⟩
theorem lk_M_190 : InT (.methodLink "NameWriterModel" 190 m_M_make.1) := ⟨List.mem_append_right _ (List.mem_of_getElem? (i := 1019) (by decide +kernel)), rfl⟩
theorem lk_M_193 : InT (.methodLink "NameWriterModel" 193 m_M_builtinOf.1) := ⟨List.mem_append_right _ (List.mem_of_getElem? (i := 1039) (by decide +kernel)), rfl⟩
theorem lk_M_196 : InT (.methodLink "NameWriterModel" 196 m_M_makeBuiltin.1) := ⟨List.mem_append_right _ (List.mem_of_getElem? (i := 1042) (by decide +kernel)), rfl⟩
theorem lk_M_199 : InT (.methodLink "NameWriterModel" 199 m_M_readTold.1) := ⟨List.mem_append_right _ (List.mem_of_getElem? (i := 997) (by decide +kernel)), rfl⟩
theorem lk_M_202 : InT (.methodLink "NameWriterModel" 202 m_M_beginArgs.1) := ⟨List.mem_append_right _ (List.mem_of_getElem? (i := 1031) (by decide +kernel)), rfl⟩
theorem lk_M_205 : InT (.methodLink "NameWriterModel" 205 m_M_readId.1) := ⟨List.mem_append_right _ (List.mem_of_getElem? (i := 1007) (by decide +kernel)), rfl⟩
theorem lk_M_208 : InT (.methodLink "NameWriterModel" 208 m_M_makeName.1) := ⟨List.mem_append_right _ (List.mem_of_getElem? (i := 1015) (by decide +kernel)), rfl⟩
theorem lk_M_211 : InT (.methodLink "NameWriterModel" 211 m_M_enter.1) := ⟨List.mem_append_right _ (List.mem_of_getElem? (i := 1027) (by decide +kernel)), rfl⟩
theorem lk_M_214 : InT (.methodLink "NameWriterModel" 214 m_M_beginNest.1) := ⟨List.mem_append_right _ (List.mem_of_getElem? (i := 993) (by decide +kernel)), rfl⟩
theorem lk_M_217 : InT (.methodLink "NameWriterModel" 217 m_M_begin.1) := ⟨List.mem_append_right _ (List.mem_of_getElem? (i := 985) (by decide +kernel)), rfl⟩
theorem lk_M_221 : InT (.methodLink "NameWriterModel" 221 m_M_nextArgument.1) := ⟨List.mem_append_right _ (List.mem_of_getElem? (i := 1035) (by decide +kernel)), rfl⟩
theorem lk_M_224 : InT (.methodLink "NameWriterModel" 224 m_M_filled.1) := ⟨List.mem_append_right _ (List.mem_of_getElem? (i := 1046) (by decide +kernel)), rfl⟩
theorem lf_M_227 : InT (.fieldLink "NameWriterModel" 227 "NameWriterModel" "nested" "Z") := ⟨List.mem_append_right _ (List.mem_of_getElem? (i := 754) (by decide +kernel)), rfl⟩
theorem lk_M_230 : InT (.methodLink "NameWriterModel" 230 m_M_nextNested.1) := ⟨List.mem_append_right _ (List.mem_of_getElem? (i := 1023) (by decide +kernel)), rfl⟩
theorem lk_M_233 : InT (.methodLink "NameWriterModel" 233 m_M_readType.1) := ⟨List.mem_append_right _ (List.mem_of_getElem? (i := 1054) (by decide +kernel)), rfl⟩
theorem lk_M_236 : InT (.methodLink "NameWriterModel" 236 m_M_settle.1) := ⟨List.mem_append_right _ (List.mem_of_getElem? (i := 1050) (by decide +kernel)), rfl⟩
theorem lk_M_239 : InT (.methodLink "NameWriterModel" 239 m_M_take.1) := ⟨List.mem_append_right _ (List.mem_of_getElem? (i := 1058) (by decide +kernel)), rfl⟩
theorem lk_M_242 : InT (.methodLink "NameWriterModel" 242 m_M_scoped.1) := ⟨List.mem_append_right _ (List.mem_of_getElem? (i := 989) (by decide +kernel)), rfl⟩
theorem lk_M_245 : InT (.methodLink "NameWriterModel" 245 m_M_wholeType.1) := ⟨List.mem_append_right _ (List.mem_of_getElem? (i := 1062) (by decide +kernel)), rfl⟩
theorem lk_M_248 : InT (.methodLink "NameWriterModel" 248 m_M_readEntity.1) := ⟨List.mem_append_right _ (List.mem_of_getElem? (i := 973) (by decide +kernel)), rfl⟩
theorem tk_N : InT (.instantiable "NameWriter" 5) := ⟨List.mem_append_right _ (List.mem_of_getElem? (i := 20) (by decide +kernel)), rfl⟩
theorem tk_D : InT (.instantiable "NameWriter$Nodes" 3) := ⟨List.mem_append_right _ (List.mem_of_getElem? (i := 28) (by decide +kernel)), rfl⟩
theorem ta_int : InT (.arrayClass .int) := ⟨List.mem_append_right _ (List.mem_of_getElem? (i := 43) (by decide +kernel)), rfl⟩
theorem tk_W : InT (.instantiable "NameWriter$Row" 2) := ⟨List.mem_append_right _ (List.mem_of_getElem? (i := 45) (by decide +kernel)), rfl⟩
theorem tk_P : InT (.instantiable "NameWriter$Writer" 3) := ⟨List.mem_append_right _ (List.mem_of_getElem? (i := 58) (by decide +kernel)), rfl⟩
theorem tk_R : InT (.instantiable "NameWriter$Reader" 4) := ⟨List.mem_append_right _ (List.mem_of_getElem? (i := 78) (by decide +kernel)), rfl⟩
theorem ta_byte : InT (.arrayClass .byte) := ⟨List.mem_append_right _ (List.mem_of_getElem? (i := 267) (by decide +kernel)), rfl⟩
theorem tk_M : InT (.instantiable "NameWriterModel" 26) := ⟨List.mem_append_right _ (List.mem_of_getElem? (i := 724) (by decide +kernel)), rfl⟩
theorem ta_long : InT (.arrayClass .long) := ⟨List.mem_append_right _ (List.mem_of_getElem? (i := 1075) (by decide +kernel)), rfl⟩
