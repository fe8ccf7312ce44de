section
def lw_okq (q : MethodName × Nat) : Prop := (q.1.cls ≠ "java/lang/invoke/MethodHandle" ∧ q.1.cls ≠ "java/lang/invoke/VarHandle") ∧ Cond.instantiable q.1.cls q.2 ∈ tables_1 ∧ Cond.privateMethod q.1 ∈ tables_1 ∧ Cond.instanceMethod q.1 ∈ tables_1
theorem lw_p0 : lw_okq (⟨"DviBytes$Reader", "bytesBehind", "()I"⟩, 14) := ⟨⟨by decide +kernel, by decide +kernel⟩, List.mem_of_getElem? (i := 236) (by decide +kernel), List.mem_of_getElem? (i := 380) (by decide +kernel), List.mem_of_getElem? (i := 381) (by decide +kernel)⟩
theorem lw_p1 : lw_okq (⟨"DviBytes$Reader", "fixedBytes", "()I"⟩, 14) := ⟨⟨by decide +kernel, by decide +kernel⟩, List.mem_of_getElem? (i := 236) (by decide +kernel), List.mem_of_getElem? (i := 384) (by decide +kernel), List.mem_of_getElem? (i := 385) (by decide +kernel)⟩
theorem lw_p2 : lw_okq (⟨"DviBytes$Reader", "isDefinition", "()Z"⟩, 14) := ⟨⟨by decide +kernel, by decide +kernel⟩, List.mem_of_getElem? (i := 236) (by decide +kernel), List.mem_of_getElem? (i := 388) (by decide +kernel), List.mem_of_getElem? (i := 389) (by decide +kernel)⟩
theorem lw_p3 : lw_okq (⟨"DviBytes$Reader", "bytesOfText", "(I)I"⟩, 14) := ⟨⟨by decide +kernel, by decide +kernel⟩, List.mem_of_getElem? (i := 236) (by decide +kernel), List.mem_of_getElem? (i := 392) (by decide +kernel), List.mem_of_getElem? (i := 393) (by decide +kernel)⟩
theorem lw_p4 : lw_okq (⟨"DviBytes$Reader", "canStand", "()Z"⟩, 14) := ⟨⟨by decide +kernel, by decide +kernel⟩, List.mem_of_getElem? (i := 236) (by decide +kernel), List.mem_of_getElem? (i := 401) (by decide +kernel), List.mem_of_getElem? (i := 402) (by decide +kernel)⟩
theorem lw_p5 : lw_okq (⟨"DviBytes$Reader", "obey", "()I"⟩, 14) := ⟨⟨by decide +kernel, by decide +kernel⟩, List.mem_of_getElem? (i := 236) (by decide +kernel), List.mem_of_getElem? (i := 405) (by decide +kernel), List.mem_of_getElem? (i := 406) (by decide +kernel)⟩
theorem lw_p6 : lw_okq (⟨"DviBytes$Reader", "obeyMove", "()I"⟩, 14) := ⟨⟨by decide +kernel, by decide +kernel⟩, List.mem_of_getElem? (i := 236) (by decide +kernel), List.mem_of_getElem? (i := 409) (by decide +kernel), List.mem_of_getElem? (i := 410) (by decide +kernel)⟩
theorem lw_p7 : lw_okq (⟨"DviBytes$Reader", "grow", "(II)Z"⟩, 14) := ⟨⟨by decide +kernel, by decide +kernel⟩, List.mem_of_getElem? (i := 236) (by decide +kernel), List.mem_of_getElem? (i := 418) (by decide +kernel), List.mem_of_getElem? (i := 419) (by decide +kernel)⟩
theorem lw_p8 : lw_okq (⟨"DviBytes$Reader", "obeyFont", "()I"⟩, 14) := ⟨⟨by decide +kernel, by decide +kernel⟩, List.mem_of_getElem? (i := 236) (by decide +kernel), List.mem_of_getElem? (i := 425) (by decide +kernel), List.mem_of_getElem? (i := 426) (by decide +kernel)⟩
theorem lw_p9 : lw_okq (⟨"DviBytes$Reader", "obeyDefinition", "()I"⟩, 14) := ⟨⟨by decide +kernel, by decide +kernel⟩, List.mem_of_getElem? (i := 236) (by decide +kernel), List.mem_of_getElem? (i := 433) (by decide +kernel), List.mem_of_getElem? (i := 434) (by decide +kernel)⟩
theorem lw_p10 : lw_okq (⟨"DviBytes$Reader", "obeyRule", "()I"⟩, 14) := ⟨⟨by decide +kernel, by decide +kernel⟩, List.mem_of_getElem? (i := 236) (by decide +kernel), List.mem_of_getElem? (i := 459) (by decide +kernel), List.mem_of_getElem? (i := 460) (by decide +kernel)⟩
theorem lw_p11 : lw_okq (⟨"DviBytes$Reader", "obeyBegin", "()I"⟩, 14) := ⟨⟨by decide +kernel, by decide +kernel⟩, List.mem_of_getElem? (i := 236) (by decide +kernel), List.mem_of_getElem? (i := 467) (by decide +kernel), List.mem_of_getElem? (i := 468) (by decide +kernel)⟩
theorem lw_p12 : lw_okq (⟨"DviBytes$Reader", "obeyPush", "()I"⟩, 14) := ⟨⟨by decide +kernel, by decide +kernel⟩, List.mem_of_getElem? (i := 236) (by decide +kernel), List.mem_of_getElem? (i := 475) (by decide +kernel), List.mem_of_getElem? (i := 476) (by decide +kernel)⟩
theorem lw_p13 : lw_okq (⟨"DviBytes$Reader", "obeyPop", "()I"⟩, 14) := ⟨⟨by decide +kernel, by decide +kernel⟩, List.mem_of_getElem? (i := 236) (by decide +kernel), List.mem_of_getElem? (i := 482) (by decide +kernel), List.mem_of_getElem? (i := 483) (by decide +kernel)⟩
theorem lw_p14 : lw_okq (⟨"DviBytes$Reader", "obeyLast", "()I"⟩, 14) := ⟨⟨by decide +kernel, by decide +kernel⟩, List.mem_of_getElem? (i := 236) (by decide +kernel), List.mem_of_getElem? (i := 486) (by decide +kernel), List.mem_of_getElem? (i := 487) (by decide +kernel)⟩
theorem lw_p15 : lw_okq (⟨"DviBytes$Reader", "obeyCharacter", "()I"⟩, 14) := ⟨⟨by decide +kernel, by decide +kernel⟩, List.mem_of_getElem? (i := 236) (by decide +kernel), List.mem_of_getElem? (i := 491) (by decide +kernel), List.mem_of_getElem? (i := 492) (by decide +kernel)⟩
def lw_privs_1 : List (MethodName × Nat) := [(⟨"DviBytes$Reader", "bytesBehind", "()I"⟩, 14), (⟨"DviBytes$Reader", "fixedBytes", "()I"⟩, 14), (⟨"DviBytes$Reader", "isDefinition", "()Z"⟩, 14), (⟨"DviBytes$Reader", "bytesOfText", "(I)I"⟩, 14), (⟨"DviBytes$Reader", "canStand", "()Z"⟩, 14), (⟨"DviBytes$Reader", "obey", "()I"⟩, 14), (⟨"DviBytes$Reader", "obeyMove", "()I"⟩, 14), (⟨"DviBytes$Reader", "grow", "(II)Z"⟩, 14), (⟨"DviBytes$Reader", "obeyFont", "()I"⟩, 14), (⟨"DviBytes$Reader", "obeyDefinition", "()I"⟩, 14), (⟨"DviBytes$Reader", "obeyRule", "()I"⟩, 14), (⟨"DviBytes$Reader", "obeyBegin", "()I"⟩, 14), (⟨"DviBytes$Reader", "obeyPush", "()I"⟩, 14), (⟨"DviBytes$Reader", "obeyPop", "()I"⟩, 14), (⟨"DviBytes$Reader", "obeyLast", "()I"⟩, 14), (⟨"DviBytes$Reader", "obeyCharacter", "()I"⟩, 14)]
theorem lw_r1 : ∀ q ∈ lw_privs_1, lw_okq q := List.forall_mem_cons.mpr ⟨lw_p0, List.forall_mem_cons.mpr ⟨lw_p1, List.forall_mem_cons.mpr ⟨lw_p2, List.forall_mem_cons.mpr ⟨lw_p3, List.forall_mem_cons.mpr ⟨lw_p4, List.forall_mem_cons.mpr ⟨lw_p5, List.forall_mem_cons.mpr ⟨lw_p6, List.forall_mem_cons.mpr ⟨lw_p7, List.forall_mem_cons.mpr ⟨lw_p8, List.forall_mem_cons.mpr ⟨lw_p9, List.forall_mem_cons.mpr ⟨lw_p10, List.forall_mem_cons.mpr ⟨lw_p11, List.forall_mem_cons.mpr ⟨lw_p12, List.forall_mem_cons.mpr ⟨lw_p13, List.forall_mem_cons.mpr ⟨lw_p14, List.forall_mem_cons.mpr ⟨lw_p15, fun _ h => absurd h List.not_mem_nil⟩⟩⟩⟩⟩⟩⟩⟩⟩⟩⟩⟩⟩⟩⟩⟩
theorem lw_p16 : lw_okq (⟨"java/lang/Throwable", "fillInStackTrace", "(I)Ljava/lang/Throwable;"⟩, 6) := ⟨⟨by decide +kernel, by decide +kernel⟩, List.mem_of_getElem? (i := 565) (by decide +kernel), List.mem_of_getElem? (i := 563) (by decide +kernel), List.mem_of_getElem? (i := 564) (by decide +kernel)⟩
theorem lw_p17 : lw_okq (⟨"DviBytes$Writer", "goBack", "(II)V"⟩, 17) := ⟨⟨by decide +kernel, by decide +kernel⟩, List.mem_of_getElem? (i := 81) (by decide +kernel), List.mem_of_getElem? (i := 656) (by decide +kernel), List.mem_of_getElem? (i := 657) (by decide +kernel)⟩
theorem lw_p18 : lw_okq (⟨"DviBytes$Sheet", "part", "(II)I"⟩, 2) := ⟨⟨by decide +kernel, by decide +kernel⟩, List.mem_of_getElem? (i := 68) (by decide +kernel), List.mem_of_getElem? (i := 747) (by decide +kernel), List.mem_of_getElem? (i := 748) (by decide +kernel)⟩
theorem lw_p19 : lw_okq (⟨"DviBytes$Writer", "growth", "(LDviBytes$Sheet;I)I"⟩, 17) := ⟨⟨by decide +kernel, by decide +kernel⟩, List.mem_of_getElem? (i := 81) (by decide +kernel), List.mem_of_getElem? (i := 755) (by decide +kernel), List.mem_of_getElem? (i := 756) (by decide +kernel)⟩
theorem lw_p20 : lw_okq (⟨"DviBytes$Writer", "writeStart", "()V"⟩, 17) := ⟨⟨by decide +kernel, by decide +kernel⟩, List.mem_of_getElem? (i := 81) (by decide +kernel), List.mem_of_getElem? (i := 799) (by decide +kernel), List.mem_of_getElem? (i := 800) (by decide +kernel)⟩
theorem lw_p21 : lw_okq (⟨"DviBytes$Writer", "writeScale", "()V"⟩, 17) := ⟨⟨by decide +kernel, by decide +kernel⟩, List.mem_of_getElem? (i := 81) (by decide +kernel), List.mem_of_getElem? (i := 804) (by decide +kernel), List.mem_of_getElem? (i := 805) (by decide +kernel)⟩
theorem lw_p22 : lw_okq (⟨"DviBytes$Writer", "writeMarks", "(LDviBytes$Sheet;)V"⟩, 17) := ⟨⟨by decide +kernel, by decide +kernel⟩, List.mem_of_getElem? (i := 81) (by decide +kernel), List.mem_of_getElem? (i := 815) (by decide +kernel), List.mem_of_getElem? (i := 816) (by decide +kernel)⟩
theorem lw_p23 : lw_okq (⟨"DviBytes$Way", "comesBehind", "(II)Z"⟩, 5) := ⟨⟨by decide +kernel, by decide +kernel⟩, List.mem_of_getElem? (i := 102) (by decide +kernel), List.mem_of_getElem? (i := 824) (by decide +kernel), List.mem_of_getElem? (i := 825) (by decide +kernel)⟩
theorem lw_p24 : lw_okq (⟨"DviBytes$Writer", "writeFont", "(I)V"⟩, 17) := ⟨⟨by decide +kernel, by decide +kernel⟩, List.mem_of_getElem? (i := 81) (by decide +kernel), List.mem_of_getElem? (i := 843) (by decide +kernel), List.mem_of_getElem? (i := 844) (by decide +kernel)⟩
theorem lw_p25 : lw_okq (⟨"DviBytes$Writer", "remember", "(I)V"⟩, 17) := ⟨⟨by decide +kernel, by decide +kernel⟩, List.mem_of_getElem? (i := 81) (by decide +kernel), List.mem_of_getElem? (i := 855) (by decide +kernel), List.mem_of_getElem? (i := 856) (by decide +kernel)⟩
theorem lw_p26 : lw_okq (⟨"DviBytes$Writer", "writeCharacter", "(I)V"⟩, 17) := ⟨⟨by decide +kernel, by decide +kernel⟩, List.mem_of_getElem? (i := 81) (by decide +kernel), List.mem_of_getElem? (i := 859) (by decide +kernel), List.mem_of_getElem? (i := 860) (by decide +kernel)⟩
theorem lw_p27 : lw_okq (⟨"DviBytesModel", "isTold", "(I)Z"⟩, 53) := ⟨⟨by decide +kernel, by decide +kernel⟩, List.mem_of_getElem? (i := 946) (by decide +kernel), List.mem_of_getElem? (i := 1130) (by decide +kernel), List.mem_of_getElem? (i := 1131) (by decide +kernel)⟩
theorem lw_p28 : lw_okq (⟨"DviBytesModel", "mark", "(IIIII)I"⟩, 53) := ⟨⟨by decide +kernel, by decide +kernel⟩, List.mem_of_getElem? (i := 946) (by decide +kernel), List.mem_of_getElem? (i := 1155) (by decide +kernel), List.mem_of_getElem? (i := 1156) (by decide +kernel)⟩
theorem lw_p29 : lw_okq (⟨"DviBytesModel", "findMoves", "()Z"⟩, 53) := ⟨⟨by decide +kernel, by decide +kernel⟩, List.mem_of_getElem? (i := 946) (by decide +kernel), List.mem_of_getElem? (i := 1167) (by decide +kernel), List.mem_of_getElem? (i := 1168) (by decide +kernel)⟩
theorem lw_p30 : lw_okq (⟨"DviBytesModel", "writePage", "()V"⟩, 53) := ⟨⟨by decide +kernel, by decide +kernel⟩, List.mem_of_getElem? (i := 946) (by decide +kernel), List.mem_of_getElem? (i := 1176) (by decide +kernel), List.mem_of_getElem? (i := 1177) (by decide +kernel)⟩
theorem lw_p31 : lw_okq (⟨"DviBytesModel", "open", "()V"⟩, 53) := ⟨⟨by decide +kernel, by decide +kernel⟩, List.mem_of_getElem? (i := 946) (by decide +kernel), List.mem_of_getElem? (i := 1180) (by decide +kernel), List.mem_of_getElem? (i := 1181) (by decide +kernel)⟩
def lw_privs_2 : List (MethodName × Nat) := [(⟨"java/lang/Throwable", "fillInStackTrace", "(I)Ljava/lang/Throwable;"⟩, 6), (⟨"DviBytes$Writer", "goBack", "(II)V"⟩, 17), (⟨"DviBytes$Sheet", "part", "(II)I"⟩, 2), (⟨"DviBytes$Writer", "growth", "(LDviBytes$Sheet;I)I"⟩, 17), (⟨"DviBytes$Writer", "writeStart", "()V"⟩, 17), (⟨"DviBytes$Writer", "writeScale", "()V"⟩, 17), (⟨"DviBytes$Writer", "writeMarks", "(LDviBytes$Sheet;)V"⟩, 17), (⟨"DviBytes$Way", "comesBehind", "(II)Z"⟩, 5), (⟨"DviBytes$Writer", "writeFont", "(I)V"⟩, 17), (⟨"DviBytes$Writer", "remember", "(I)V"⟩, 17), (⟨"DviBytes$Writer", "writeCharacter", "(I)V"⟩, 17), (⟨"DviBytesModel", "isTold", "(I)Z"⟩, 53), (⟨"DviBytesModel", "mark", "(IIIII)I"⟩, 53), (⟨"DviBytesModel", "findMoves", "()Z"⟩, 53), (⟨"DviBytesModel", "writePage", "()V"⟩, 53), (⟨"DviBytesModel", "open", "()V"⟩, 53)]
theorem lw_r2 : ∀ q ∈ lw_privs_2, lw_okq q := List.forall_mem_cons.mpr ⟨lw_p16, List.forall_mem_cons.mpr ⟨lw_p17, List.forall_mem_cons.mpr ⟨lw_p18, List.forall_mem_cons.mpr ⟨lw_p19, List.forall_mem_cons.mpr ⟨lw_p20, List.forall_mem_cons.mpr ⟨lw_p21, List.forall_mem_cons.mpr ⟨lw_p22, List.forall_mem_cons.mpr ⟨lw_p23, List.forall_mem_cons.mpr ⟨lw_p24, List.forall_mem_cons.mpr ⟨lw_p25, List.forall_mem_cons.mpr ⟨lw_p26, List.forall_mem_cons.mpr ⟨lw_p27, List.forall_mem_cons.mpr ⟨lw_p28, List.forall_mem_cons.mpr ⟨lw_p29, List.forall_mem_cons.mpr ⟨lw_p30, List.forall_mem_cons.mpr ⟨lw_p31, fun _ h => absurd h List.not_mem_nil⟩⟩⟩⟩⟩⟩⟩⟩⟩⟩⟩⟩⟩⟩⟩⟩
theorem lw_p32 : lw_okq (⟨"DviBytesModel", "lay", "(I)V"⟩, 53) := ⟨⟨by decide +kernel, by decide +kernel⟩, List.mem_of_getElem? (i := 946) (by decide +kernel), List.mem_of_getElem? (i := 1184) (by decide +kernel), List.mem_of_getElem? (i := 1185) (by decide +kernel)⟩
theorem lw_p33 : lw_okq (⟨"DviBytesModel", "layNumber", "(II)V"⟩, 53) := ⟨⟨by decide +kernel, by decide +kernel⟩, List.mem_of_getElem? (i := 946) (by decide +kernel), List.mem_of_getElem? (i := 1189) (by decide +kernel), List.mem_of_getElem? (i := 1190) (by decide +kernel)⟩
theorem lw_p34 : lw_okq (⟨"DviBytesModel", "move", "([IIII)V"⟩, 53) := ⟨⟨by decide +kernel, by decide +kernel⟩, List.mem_of_getElem? (i := 946) (by decide +kernel), List.mem_of_getElem? (i := 1194) (by decide +kernel), List.mem_of_getElem? (i := 1195) (by decide +kernel)⟩
theorem lw_p35 : lw_okq (⟨"DviBytesModel", "comes", "([III)Z"⟩, 53) := ⟨⟨by decide +kernel, by decide +kernel⟩, List.mem_of_getElem? (i := 946) (by decide +kernel), List.mem_of_getElem? (i := 1204) (by decide +kernel), List.mem_of_getElem? (i := 1205) (by decide +kernel)⟩
theorem lw_p36 : lw_okq (⟨"DviBytesModel", "define", "(I)V"⟩, 53) := ⟨⟨by decide +kernel, by decide +kernel⟩, List.mem_of_getElem? (i := 946) (by decide +kernel), List.mem_of_getElem? (i := 1208) (by decide +kernel), List.mem_of_getElem? (i := 1209) (by decide +kernel)⟩
theorem lw_p37 : lw_okq (⟨"DviBytesModel", "forget", "()V"⟩, 53) := ⟨⟨by decide +kernel, by decide +kernel⟩, List.mem_of_getElem? (i := 946) (by decide +kernel), List.mem_of_getElem? (i := 1241) (by decide +kernel), List.mem_of_getElem? (i := 1242) (by decide +kernel)⟩
theorem lw_p38 : lw_okq (⟨"DviBytesModel", "goThrough", "()I"⟩, 53) := ⟨⟨by decide +kernel, by decide +kernel⟩, List.mem_of_getElem? (i := 946) (by decide +kernel), List.mem_of_getElem? (i := 1245) (by decide +kernel), List.mem_of_getElem? (i := 1246) (by decide +kernel)⟩
theorem lw_p39 : lw_okq (⟨"DviBytesModel", "byteAt", "(I)I"⟩, 53) := ⟨⟨by decide +kernel, by decide +kernel⟩, List.mem_of_getElem? (i := 946) (by decide +kernel), List.mem_of_getElem? (i := 1253) (by decide +kernel), List.mem_of_getElem? (i := 1254) (by decide +kernel)⟩
theorem lw_p40 : lw_okq (⟨"DviBytesModel", "length", "()I"⟩, 53) := ⟨⟨by decide +kernel, by decide +kernel⟩, List.mem_of_getElem? (i := 946) (by decide +kernel), List.mem_of_getElem? (i := 1257) (by decide +kernel), List.mem_of_getElem? (i := 1258) (by decide +kernel)⟩
theorem lw_p41 : lw_okq (⟨"DviBytesModel", "number", "(IIZ)I"⟩, 53) := ⟨⟨by decide +kernel, by decide +kernel⟩, List.mem_of_getElem? (i := 946) (by decide +kernel), List.mem_of_getElem? (i := 1269) (by decide +kernel), List.mem_of_getElem? (i := 1270) (by decide +kernel)⟩
theorem lw_p42 : lw_okq (⟨"DviBytesModel", "mayStand", "(I)Z"⟩, 53) := ⟨⟨by decide +kernel, by decide +kernel⟩, List.mem_of_getElem? (i := 946) (by decide +kernel), List.mem_of_getElem? (i := 1277) (by decide +kernel), List.mem_of_getElem? (i := 1278) (by decide +kernel)⟩
theorem lw_p43 : lw_okq (⟨"DviBytesModel", "isFontTold", "(I)Z"⟩, 53) := ⟨⟨by decide +kernel, by decide +kernel⟩, List.mem_of_getElem? (i := 946) (by decide +kernel), List.mem_of_getElem? (i := 1281) (by decide +kernel), List.mem_of_getElem? (i := 1282) (by decide +kernel)⟩
theorem lw_p44 : lw_okq (⟨"DviBytesModel", "within", "(I)I"⟩, 53) := ⟨⟨by decide +kernel, by decide +kernel⟩, List.mem_of_getElem? (i := 946) (by decide +kernel), List.mem_of_getElem? (i := 1285) (by decide +kernel), List.mem_of_getElem? (i := 1286) (by decide +kernel)⟩
theorem lw_p45 : lw_okq (⟨"DviBytesModel", "setCharacter", "(IZ)I"⟩, 53) := ⟨⟨by decide +kernel, by decide +kernel⟩, List.mem_of_getElem? (i := 946) (by decide +kernel), List.mem_of_getElem? (i := 1289) (by decide +kernel), List.mem_of_getElem? (i := 1290) (by decide +kernel)⟩
theorem lw_p46 : lw_okq (⟨"DviBytesModel", "noteMark", "(III)V"⟩, 53) := ⟨⟨by decide +kernel, by decide +kernel⟩, List.mem_of_getElem? (i := 946) (by decide +kernel), List.mem_of_getElem? (i := 1293) (by decide +kernel), List.mem_of_getElem? (i := 1294) (by decide +kernel)⟩
theorem lw_p47 : lw_okq (⟨"DviBytesModel", "add", "(II)I"⟩, 53) := ⟨⟨by decide +kernel, by decide +kernel⟩, List.mem_of_getElem? (i := 946) (by decide +kernel), List.mem_of_getElem? (i := 1297) (by decide +kernel), List.mem_of_getElem? (i := 1298) (by decide +kernel)⟩
def lw_privs_3 : List (MethodName × Nat) := [(⟨"DviBytesModel", "lay", "(I)V"⟩, 53), (⟨"DviBytesModel", "layNumber", "(II)V"⟩, 53), (⟨"DviBytesModel", "move", "([IIII)V"⟩, 53), (⟨"DviBytesModel", "comes", "([III)Z"⟩, 53), (⟨"DviBytesModel", "define", "(I)V"⟩, 53), (⟨"DviBytesModel", "forget", "()V"⟩, 53), (⟨"DviBytesModel", "goThrough", "()I"⟩, 53), (⟨"DviBytesModel", "byteAt", "(I)I"⟩, 53), (⟨"DviBytesModel", "length", "()I"⟩, 53), (⟨"DviBytesModel", "number", "(IIZ)I"⟩, 53), (⟨"DviBytesModel", "mayStand", "(I)Z"⟩, 53), (⟨"DviBytesModel", "isFontTold", "(I)Z"⟩, 53), (⟨"DviBytesModel", "within", "(I)I"⟩, 53), (⟨"DviBytesModel", "setCharacter", "(IZ)I"⟩, 53), (⟨"DviBytesModel", "noteMark", "(III)V"⟩, 53), (⟨"DviBytesModel", "add", "(II)I"⟩, 53)]
theorem lw_r3 : ∀ q ∈ lw_privs_3, lw_okq q := List.forall_mem_cons.mpr ⟨lw_p32, List.forall_mem_cons.mpr ⟨lw_p33, List.forall_mem_cons.mpr ⟨lw_p34, List.forall_mem_cons.mpr ⟨lw_p35, List.forall_mem_cons.mpr ⟨lw_p36, List.forall_mem_cons.mpr ⟨lw_p37, List.forall_mem_cons.mpr ⟨lw_p38, List.forall_mem_cons.mpr ⟨lw_p39, List.forall_mem_cons.mpr ⟨lw_p40, List.forall_mem_cons.mpr ⟨lw_p41, List.forall_mem_cons.mpr ⟨lw_p42, List.forall_mem_cons.mpr ⟨lw_p43, List.forall_mem_cons.mpr ⟨lw_p44, List.forall_mem_cons.mpr ⟨lw_p45, List.forall_mem_cons.mpr ⟨lw_p46, List.forall_mem_cons.mpr ⟨lw_p47, fun _ h => absurd h List.not_mem_nil⟩⟩⟩⟩⟩⟩⟩⟩⟩⟩⟩⟩⟩⟩⟩⟩
theorem lw_p48 : lw_okq (⟨"DviBytesModel", "setRule", "(Z)I"⟩, 53) := ⟨⟨by decide +kernel, by decide +kernel⟩, List.mem_of_getElem? (i := 946) (by decide +kernel), List.mem_of_getElem? (i := 1301) (by decide +kernel), List.mem_of_getElem? (i := 1302) (by decide +kernel)⟩
theorem lw_p49 : lw_okq (⟨"DviBytesModel", "push", "()I"⟩, 53) := ⟨⟨by decide +kernel, by decide +kernel⟩, List.mem_of_getElem? (i := 946) (by decide +kernel), List.mem_of_getElem? (i := 1305) (by decide +kernel), List.mem_of_getElem? (i := 1306) (by decide +kernel)⟩
theorem lw_p50 : lw_okq (⟨"DviBytesModel", "pop", "()I"⟩, 53) := ⟨⟨by decide +kernel, by decide +kernel⟩, List.mem_of_getElem? (i := 946) (by decide +kernel), List.mem_of_getElem? (i := 1309) (by decide +kernel), List.mem_of_getElem? (i := 1310) (by decide +kernel)⟩
theorem lw_p51 : lw_okq (⟨"DviBytesModel", "moveBy", "(I)I"⟩, 53) := ⟨⟨by decide +kernel, by decide +kernel⟩, List.mem_of_getElem? (i := 946) (by decide +kernel), List.mem_of_getElem? (i := 1313) (by decide +kernel), List.mem_of_getElem? (i := 1314) (by decide +kernel)⟩
theorem lw_p52 : lw_okq (⟨"DviBytesModel", "take", "(I)I"⟩, 53) := ⟨⟨by decide +kernel, by decide +kernel⟩, List.mem_of_getElem? (i := 946) (by decide +kernel), List.mem_of_getElem? (i := 1317) (by decide +kernel), List.mem_of_getElem? (i := 1318) (by decide +kernel)⟩
theorem lw_p53 : lw_okq (⟨"DviBytesModel", "fontAt", "(I)I"⟩, 53) := ⟨⟨by decide +kernel, by decide +kernel⟩, List.mem_of_getElem? (i := 946) (by decide +kernel), List.mem_of_getElem? (i := 1321) (by decide +kernel), List.mem_of_getElem? (i := 1322) (by decide +kernel)⟩
theorem lw_p54 : lw_okq (⟨"DviBytesModel", "tell", "()I"⟩, 53) := ⟨⟨by decide +kernel, by decide +kernel⟩, List.mem_of_getElem? (i := 946) (by decide +kernel), List.mem_of_getElem? (i := 1325) (by decide +kernel), List.mem_of_getElem? (i := 1326) (by decide +kernel)⟩
theorem lw_p55 : lw_okq (⟨"DviBytesModel", "isSame", "(II)Z"⟩, 53) := ⟨⟨by decide +kernel, by decide +kernel⟩, List.mem_of_getElem? (i := 946) (by decide +kernel), List.mem_of_getElem? (i := 1329) (by decide +kernel), List.mem_of_getElem? (i := 1330) (by decide +kernel)⟩
theorem lw_p56 : lw_okq (⟨"DviBytesModel", "nameSize", "(I)I"⟩, 53) := ⟨⟨by decide +kernel, by decide +kernel⟩, List.mem_of_getElem? (i := 946) (by decide +kernel), List.mem_of_getElem? (i := 1333) (by decide +kernel), List.mem_of_getElem? (i := 1334) (by decide +kernel)⟩
theorem lw_p57 : lw_okq (⟨"DviBytesModel", "behindNumber", "(I)I"⟩, 53) := ⟨⟨by decide +kernel, by decide +kernel⟩, List.mem_of_getElem? (i := 946) (by decide +kernel), List.mem_of_getElem? (i := 1337) (by decide +kernel), List.mem_of_getElem? (i := 1338) (by decide +kernel)⟩
theorem lw_p58 : lw_okq (⟨"DviBytesModel", "outside", "(I)I"⟩, 53) := ⟨⟨by decide +kernel, by decide +kernel⟩, List.mem_of_getElem? (i := 946) (by decide +kernel), List.mem_of_getElem? (i := 1341) (by decide +kernel), List.mem_of_getElem? (i := 1342) (by decide +kernel)⟩
theorem lw_p59 : lw_okq (⟨"DviBytesModel", "beginPage", "()I"⟩, 53) := ⟨⟨by decide +kernel, by decide +kernel⟩, List.mem_of_getElem? (i := 946) (by decide +kernel), List.mem_of_getElem? (i := 1345) (by decide +kernel), List.mem_of_getElem? (i := 1346) (by decide +kernel)⟩
theorem lw_p60 : lw_okq (⟨"DviBytesModel", "post", "()I"⟩, 53) := ⟨⟨by decide +kernel, by decide +kernel⟩, List.mem_of_getElem? (i := 946) (by decide +kernel), List.mem_of_getElem? (i := 1349) (by decide +kernel), List.mem_of_getElem? (i := 1350) (by decide +kernel)⟩
def lw_privs_4 : List (MethodName × Nat) := [(⟨"DviBytesModel", "setRule", "(Z)I"⟩, 53), (⟨"DviBytesModel", "push", "()I"⟩, 53), (⟨"DviBytesModel", "pop", "()I"⟩, 53), (⟨"DviBytesModel", "moveBy", "(I)I"⟩, 53), (⟨"DviBytesModel", "take", "(I)I"⟩, 53), (⟨"DviBytesModel", "fontAt", "(I)I"⟩, 53), (⟨"DviBytesModel", "tell", "()I"⟩, 53), (⟨"DviBytesModel", "isSame", "(II)Z"⟩, 53), (⟨"DviBytesModel", "nameSize", "(I)I"⟩, 53), (⟨"DviBytesModel", "behindNumber", "(I)I"⟩, 53), (⟨"DviBytesModel", "outside", "(I)I"⟩, 53), (⟨"DviBytesModel", "beginPage", "()I"⟩, 53), (⟨"DviBytesModel", "post", "()I"⟩, 53)]
theorem lw_r4 : ∀ q ∈ lw_privs_4, lw_okq q := List.forall_mem_cons.mpr ⟨lw_p48, List.forall_mem_cons.mpr ⟨lw_p49, List.forall_mem_cons.mpr ⟨lw_p50, List.forall_mem_cons.mpr ⟨lw_p51, List.forall_mem_cons.mpr ⟨lw_p52, List.forall_mem_cons.mpr ⟨lw_p53, List.forall_mem_cons.mpr ⟨lw_p54, List.forall_mem_cons.mpr ⟨lw_p55, List.forall_mem_cons.mpr ⟨lw_p56, List.forall_mem_cons.mpr ⟨lw_p57, List.forall_mem_cons.mpr ⟨lw_p58, List.forall_mem_cons.mpr ⟨lw_p59, List.forall_mem_cons.mpr ⟨lw_p60, fun _ h => absurd h List.not_mem_nil⟩⟩⟩⟩⟩⟩⟩⟩⟩⟩⟩⟩⟩
def lw_privs : List (MethodName × Nat) := lw_privs_1 ++ (lw_privs_2 ++ (lw_privs_3 ++ (lw_privs_4)))
def lw_tbl : List Cond := k2_sels lw_privs ++ tables_1
theorem lw_privs_ok : ∀ q ∈ lw_privs, lw_okq q := by
  show ∀ q ∈ lw_privs_1 ++ (lw_privs_2 ++ (lw_privs_3 ++ (lw_privs_4))), lw_okq q
  exact List.forall_mem_append.mpr ⟨lw_r1, List.forall_mem_append.mpr ⟨lw_r2, List.forall_mem_append.mpr ⟨lw_r3, lw_r4⟩⟩⟩
end
section
def T_By : u_T := fun k => match k with
  | 0 => ("DviBytes$Bytes", "row", "[B", true)
  | _ => ("DviBytes$Bytes", "used", "I", false)
def y_By : Nat → FieldType := fun k => match k with
  | 0 => .array .byte
  | _ => .int
def T_Fo : u_T := fun k => match k with
  | 0 => ("DviBytes$Fonts", "checks", "[I", true)
  | 1 => ("DviBytes$Fonts", "sizes", "[I", true)
  | 2 => ("DviBytes$Fonts", "designs", "[I", true)
  | 3 => ("DviBytes$Fonts", "names", "[J", true)
  | 4 => ("DviBytes$Fonts", "mores", "[J", true)
  | _ => ("DviBytes$Fonts", "lengths", "[I", true)
def y_Fo : Nat → FieldType := fun k => match k with
  | 0 => .array .int
  | 1 => .array .int
  | 2 => .array .int
  | 3 => .array .long
  | 4 => .array .long
  | _ => .array .int
def T_Rd : u_T := fun k => match k with
  | 0 => ("DviBytes$Reader", "input", "LDviBytes$Bytes;", true)
  | 1 => ("DviBytes$Reader", "widths", "LDviBytes$Widths;", true)
  | 2 => ("DviBytes$Reader", "reading", "LDviBytes$Reading;", true)
  | 3 => ("DviBytes$Reader", "six", "[I", true)
  | 4 => ("DviBytes$Reader", "pushed", "[I", true)
  | 5 => ("DviBytes$Reader", "depth", "I", false)
  | 6 => ("DviBytes$Reader", "stage", "I", false)
  | 7 => ("DviBytes$Reader", "at", "I", false)
  | 8 => ("DviBytes$Reader", "code", "I", false)
  | 9 => ("DviBytes$Reader", "numberBytes", "I", false)
  | 10 => ("DviBytes$Reader", "fontAtHand", "I", false)
  | 11 => ("DviBytes$Reader", "formerPage", "I", false)
  | 12 => ("DviBytes$Reader", "lastAt", "I", false)
  | _ => ("DviBytes$Reader", "fillers", "I", false)
def y_Rd : Nat → FieldType := fun k => match k with
  | 0 => .object "DviBytes$Bytes"
  | 1 => .object "DviBytes$Widths"
  | 2 => .object "DviBytes$Reading"
  | 3 => .array .int
  | 4 => .array .int
  | 5 => .int
  | 6 => .int
  | 7 => .int
  | 8 => .int
  | 9 => .int
  | 10 => .int
  | 11 => .int
  | 12 => .int
  | _ => .int
def T_Rg : u_T := fun k => match k with
  | 0 => ("DviBytes$Reading", "marks", "[I", true)
  | 1 => ("DviBytes$Reading", "pageCounts", "[I", true)
  | 2 => ("DviBytes$Reading", "fontParts", "[I", true)
  | 3 => ("DviBytes$Reading", "nameStarts", "[I", true)
  | 4 => ("DviBytes$Reading", "names", "LDviBytes$Bytes;", true)
  | 5 => ("DviBytes$Reading", "markMany", "I", false)
  | 6 => ("DviBytes$Reading", "pageMany", "I", false)
  | 7 => ("DviBytes$Reading", "fontMany", "I", false)
  | 8 => ("DviBytes$Reading", "magnification", "I", false)
  | 9 => ("DviBytes$Reading", "greatestV", "I", false)
  | 10 => ("DviBytes$Reading", "greatestH", "I", false)
  | _ => ("DviBytes$Reading", "greatestDepth", "I", false)
def y_Rg : Nat → FieldType := fun k => match k with
  | 0 => .array .int
  | 1 => .array .int
  | 2 => .array .int
  | 3 => .array .int
  | 4 => .object "DviBytes$Bytes"
  | 5 => .int
  | 6 => .int
  | 7 => .int
  | 8 => .int
  | 9 => .int
  | 10 => .int
  | _ => .int
def T_Sh : u_T := fun k => match k with
  | 0 => ("DviBytes$Sheet", "parts", "[I", true)
  | _ => ("DviBytes$Sheet", "many", "I", false)
def y_Sh : Nat → FieldType := fun k => match k with
  | 0 => .array .int
  | _ => .int
def T_Wa : u_T := fun k => match k with
  | 0 => ("DviBytes$Way", "plain", "I", true)
  | 1 => ("DviBytes$Way", "moves", "[I", true)
  | 2 => ("DviBytes$Way", "many", "I", false)
  | 3 => ("DviBytes$Way", "one", "I", false)
  | _ => ("DviBytes$Way", "two", "I", false)
def y_Wa : Nat → FieldType := fun k => match k with
  | 0 => .int
  | 1 => .array .int
  | 2 => .int
  | 3 => .int
  | _ => .int
def T_Wi : u_T := fun k => match k with
  | _ => ("DviBytes$Widths", "row", "[I", true)
def y_Wi : Nat → FieldType := fun k => match k with
  | _ => .array .int
def T_Wr : u_T := fun k => match k with
  | 0 => ("DviBytes$Writer", "fonts", "LDviBytes$Fonts;", true)
  | 1 => ("DviBytes$Writer", "widths", "LDviBytes$Widths;", true)
  | 2 => ("DviBytes$Writer", "written", "LDviBytes$Bytes;", true)
  | 3 => ("DviBytes$Writer", "right", "LDviBytes$Way;", true)
  | 4 => ("DviBytes$Writer", "down", "LDviBytes$Way;", true)
  | 5 => ("DviBytes$Writer", "told", "[Z", true)
  | 6 => ("DviBytes$Writer", "toldInOrder", "[I", true)
  | 7 => ("DviBytes$Writer", "toldMany", "I", false)
  | 8 => ("DviBytes$Writer", "commentCharacter", "I", false)
  | 9 => ("DviBytes$Writer", "commentLength", "I", false)
  | 10 => ("DviBytes$Writer", "closed", "Z", false)
  | 11 => ("DviBytes$Writer", "pageMany", "I", false)
  | 12 => ("DviBytes$Writer", "lastPage", "I", false)
  | 13 => ("DviBytes$Writer", "greatestV", "I", false)
  | 14 => ("DviBytes$Writer", "greatestH", "I", false)
  | 15 => ("DviBytes$Writer", "plannedV", "I", false)
  | _ => ("DviBytes$Writer", "plannedH", "I", false)
def y_Wr : Nat → FieldType := fun k => match k with
  | 0 => .object "DviBytes$Fonts"
  | 1 => .object "DviBytes$Widths"
  | 2 => .object "DviBytes$Bytes"
  | 3 => .object "DviBytes$Way"
  | 4 => .object "DviBytes$Way"
  | 5 => .array .boolean
  | 6 => .array .int
  | 7 => .int
  | 8 => .int
  | 9 => .int
  | 10 => .boolean
  | 11 => .int
  | 12 => .int
  | 13 => .int
  | 14 => .int
  | 15 => .int
  | _ => .int
def T_Dv : u_T := fun k => match k with
  | 0 => ("DviBytes", "widths", "LDviBytes$Widths;", true)
  | 1 => ("DviBytes", "fonts", "LDviBytes$Fonts;", true)
  | 2 => ("DviBytes", "counts", "[I", true)
  | 3 => ("DviBytes", "sheet", "LDviBytes$Sheet;", true)
  | 4 => ("DviBytes", "writer", "LDviBytes$Writer;", true)
  | 5 => ("DviBytes", "input", "LDviBytes$Bytes;", true)
  | 6 => ("DviBytes", "reading", "LDviBytes$Reading;", true)
  | _ => ("DviBytes", "reader", "LDviBytes$Reader;", true)
def y_Dv : Nat → FieldType := fun k => match k with
  | 0 => .object "DviBytes$Widths"
  | 1 => .object "DviBytes$Fonts"
  | 2 => .array .int
  | 3 => .object "DviBytes$Sheet"
  | 4 => .object "DviBytes$Writer"
  | 5 => .object "DviBytes$Bytes"
  | 6 => .object "DviBytes$Reading"
  | _ => .object "DviBytes$Reader"
def T_Mo : u_T := fun k => match k with
  | 0 => ("DviBytesModel", "thrown", "I", false)
  | 1 => ("DviBytesModel", "known", "[Z", true)
  | 2 => ("DviBytesModel", "checks", "[I", true)
  | 3 => ("DviBytesModel", "sizes", "[I", true)
  | 4 => ("DviBytesModel", "designs", "[I", true)
  | 5 => ("DviBytesModel", "nameSizes", "[I", true)
  | 6 => ("DviBytesModel", "names", "[B", true)
  | 7 => ("DviBytesModel", "widths", "[I", true)
  | 8 => ("DviBytesModel", "counts", "[I", true)
  | 9 => ("DviBytesModel", "written", "I", false)
  | 10 => ("DviBytesModel", "out", "[B", true)
  | 11 => ("DviBytesModel", "commentSize", "I", false)
  | 12 => ("DviBytesModel", "commentCode", "I", false)
  | 13 => ("DviBytesModel", "closed", "Z", false)
  | 14 => ("DviBytesModel", "pages", "I", false)
  | 15 => ("DviBytesModel", "lastPage", "I", false)
  | 16 => ("DviBytesModel", "greatestV", "I", false)
  | 17 => ("DviBytesModel", "greatestH", "I", false)
  | 18 => ("DviBytesModel", "toldCount", "I", false)
  | 19 => ("DviBytesModel", "toldFonts", "[I", true)
  | 20 => ("DviBytesModel", "marks", "I", false)
  | 21 => ("DviBytesModel", "fonts", "[I", true)
  | 22 => ("DviBytesModel", "codes", "[I", true)
  | 23 => ("DviBytesModel", "xs", "[I", true)
  | 24 => ("DviBytesModel", "ys", "[I", true)
  | 25 => ("DviBytesModel", "heights", "[I", true)
  | 26 => ("DviBytesModel", "rights", "[I", true)
  | 27 => ("DviBytesModel", "downs", "[I", true)
  | 28 => ("DviBytesModel", "behinds", "[I", true)
  | 29 => ("DviBytesModel", "given", "I", false)
  | 30 => ("DviBytesModel", "in", "[B", true)
  | 31 => ("DviBytesModel", "read", "[B", true)
  | 32 => ("DviBytesModel", "readMarks", "I", false)
  | 33 => ("DviBytesModel", "marked", "[I", true)
  | 34 => ("DviBytesModel", "readPages", "I", false)
  | 35 => ("DviBytesModel", "readCounts", "[I", true)
  | 36 => ("DviBytesModel", "readFonts", "I", false)
  | 37 => ("DviBytesModel", "fontNumbers", "[I", true)
  | 38 => ("DviBytesModel", "fontPlaces", "[I", true)
  | 39 => ("DviBytesModel", "magnification", "I", false)
  | 40 => ("DviBytesModel", "saysV", "I", false)
  | 41 => ("DviBytesModel", "saysH", "I", false)
  | 42 => ("DviBytesModel", "deepest", "I", false)
  | 43 => ("DviBytesModel", "state", "I", false)
  | 44 => ("DviBytesModel", "at", "I", false)
  | 45 => ("DviBytesModel", "size", "I", false)
  | 46 => ("DviBytesModel", "former", "I", false)
  | 47 => ("DviBytesModel", "postPlace", "I", false)
  | 48 => ("DviBytesModel", "font", "I", false)
  | 49 => ("DviBytesModel", "hasFont", "Z", false)
  | 50 => ("DviBytesModel", "pushed", "I", false)
  | 51 => ("DviBytesModel", "pile", "[I", true)
  | _ => ("DviBytesModel", "six", "[I", true)
def y_Mo : Nat → FieldType := fun k => match k with
  | 0 => .int
  | 1 => .array .boolean
  | 2 => .array .int
  | 3 => .array .int
  | 4 => .array .int
  | 5 => .array .int
  | 6 => .array .byte
  | 7 => .array .int
  | 8 => .array .int
  | 9 => .int
  | 10 => .array .byte
  | 11 => .int
  | 12 => .int
  | 13 => .boolean
  | 14 => .int
  | 15 => .int
  | 16 => .int
  | 17 => .int
  | 18 => .int
  | 19 => .array .int
  | 20 => .int
  | 21 => .array .int
  | 22 => .array .int
  | 23 => .array .int
  | 24 => .array .int
  | 25 => .array .int
  | 26 => .array .int
  | 27 => .array .int
  | 28 => .array .int
  | 29 => .int
  | 30 => .array .byte
  | 31 => .array .byte
  | 32 => .int
  | 33 => .array .int
  | 34 => .int
  | 35 => .array .int
  | 36 => .int
  | 37 => .array .int
  | 38 => .array .int
  | 39 => .int
  | 40 => .int
  | 41 => .int
  | 42 => .int
  | 43 => .int
  | 44 => .int
  | 45 => .int
  | 46 => .int
  | 47 => .int
  | 48 => .int
  | 49 => .boolean
  | 50 => .int
  | 51 => .array .int
  | _ => .array .int
abbrev vwCl : List vw_C := [("DviBytes$Bytes", T_By, 2), ("DviBytes$Fonts", T_Fo, 6), ("DviBytes$Reader", T_Rd, 14), ("DviBytes$Reading", T_Rg, 12), ("DviBytes$Sheet", T_Sh, 2), ("DviBytes$Way", T_Wa, 5), ("DviBytes$Widths", T_Wi, 1), ("DviBytes$Writer", T_Wr, 17), ("DviBytes", T_Dv, 8), ("DviBytesModel", T_Mo, 53)]
def m_Dv_init : MethodName × ByteArray × Nat × Option FieldType × List (Nat × Nat × Nat × Nat) := (⟨"DviBytes", "<init>", "()V"⟩, prog_1_method_1_code, 1, none, [])
def m_Wi_init : MethodName × ByteArray × Nat × Option FieldType × List (Nat × Nat × Nat × Nat) := (⟨"DviBytes$Widths", "<init>", "()V"⟩, prog_8_method_1_code, 1, none, [])
def m_Fo_init : MethodName × ByteArray × Nat × Option FieldType × List (Nat × Nat × Nat × Nat) := (⟨"DviBytes$Fonts", "<init>", "()V"⟩, prog_3_method_1_code, 1, none, [])
def m_Sh_init : MethodName × ByteArray × Nat × Option FieldType × List (Nat × Nat × Nat × Nat) := (⟨"DviBytes$Sheet", "<init>", "()V"⟩, prog_6_method_1_code, 1, none, [])
def m_Wr_init : MethodName × ByteArray × Nat × Option FieldType × List (Nat × Nat × Nat × Nat) := (⟨"DviBytes$Writer", "<init>", "(LDviBytes$Fonts;LDviBytes$Widths;)V"⟩, prog_9_method_1_code, 3, none, [])
def m_By_init : MethodName × ByteArray × Nat × Option FieldType × List (Nat × Nat × Nat × Nat) := (⟨"DviBytes$Bytes", "<init>", "()V"⟩, prog_2_method_1_code, 1, none, [])
def m_Wa_init : MethodName × ByteArray × Nat × Option FieldType × List (Nat × Nat × Nat × Nat) := (⟨"DviBytes$Way", "<init>", "(I)V"⟩, prog_7_method_1_code, 2, none, [])
def m_Rg_init : MethodName × ByteArray × Nat × Option FieldType × List (Nat × Nat × Nat × Nat) := (⟨"DviBytes$Reading", "<init>", "()V"⟩, prog_5_method_1_code, 1, none, [])
def m_Rd_init : MethodName × ByteArray × Nat × Option FieldType × List (Nat × Nat × Nat × Nat) := (⟨"DviBytes$Reader", "<init>", "(LDviBytes$Bytes;LDviBytes$Widths;LDviBytes$Reading;)V"⟩, prog_4_method_1_code, 4, none, [])
def m_Dv_size : MethodName × ByteArray × Nat × Option FieldType × List (Nat × Nat × Nat × Nat) := (⟨"DviBytes", "size", "()I"⟩, prog_1_method_10_code, 1, (some .int), [])
def m_Wr_bytes : MethodName × ByteArray × Nat × Option FieldType × List (Nat × Nat × Nat × Nat) := (⟨"DviBytes$Writer", "bytes", "()LDviBytes$Bytes;"⟩, prog_9_method_2_code, 1, (some (.object "DviBytes$Bytes")), [])
def m_By_length : MethodName × ByteArray × Nat × Option FieldType × List (Nat × Nat × Nat × Nat) := (⟨"DviBytes$Bytes", "length", "()I"⟩, prog_2_method_2_code, 1, (some .int), [])
def m_Dv_feed : MethodName × ByteArray × Nat × Option FieldType × List (Nat × Nat × Nat × Nat) := (⟨"DviBytes", "feed", "(JI)Z"⟩, prog_1_method_12_code, 5, (some .boolean), [])
def m_By_add : MethodName × ByteArray × Nat × Option FieldType × List (Nat × Nat × Nat × Nat) := (⟨"DviBytes$Bytes", "add", "(I)V"⟩, prog_2_method_4_code, 2, none, [])
def m_Dv_keep : MethodName × ByteArray × Nat × Option FieldType × List (Nat × Nat × Nat × Nat) := (⟨"DviBytes", "keep", "(I)Z"⟩, prog_1_method_13_code, 2, (some .boolean), [])
def m_By_cut : MethodName × ByteArray × Nat × Option FieldType × List (Nat × Nat × Nat × Nat) := (⟨"DviBytes$Bytes", "cut", "(I)V"⟩, prog_2_method_10_code, 2, none, [])
def m_Dv_copy : MethodName × ByteArray × Nat × Option FieldType × List (Nat × Nat × Nat × Nat) := (⟨"DviBytes", "copy", "()I"⟩, prog_1_method_14_code, 1, (some .int), [])
def m_By_become : MethodName × ByteArray × Nat × Option FieldType × List (Nat × Nat × Nat × Nat) := (⟨"DviBytes$Bytes", "become", "(LDviBytes$Bytes;)V"⟩, prog_2_method_11_code, 3, none, [])
def m_Dv_read : MethodName × ByteArray × Nat × Option FieldType × List (Nat × Nat × Nat × Nat) := (⟨"DviBytes", "read", "()I"⟩, prog_1_method_15_code, 2, (some .int), [])
def m_Rd_restart : MethodName × ByteArray × Nat × Option FieldType × List (Nat × Nat × Nat × Nat) := (⟨"DviBytes$Reader", "restart", "()V"⟩, prog_4_method_2_code, 1, none, [])
def m_Rg_clear : MethodName × ByteArray × Nat × Option FieldType × List (Nat × Nat × Nat × Nat) := (⟨"DviBytes$Reading", "clear", "()V"⟩, prog_5_method_2_code, 1, none, [])
def m_Rd_readCommands : MethodName × ByteArray × Nat × Option FieldType × List (Nat × Nat × Nat × Nat) := (⟨"DviBytes$Reader", "readCommands", "()I"⟩, prog_4_method_4_code, 5, (some .int), [])
def m_By_at : MethodName × ByteArray × Nat × Option FieldType × List (Nat × Nat × Nat × Nat) := (⟨"DviBytes$Bytes", "at", "(I)I"⟩, prog_2_method_3_code, 2, (some .int), [])
def m_Rd_bytesOfNumber : MethodName × ByteArray × Nat × Option FieldType × List (Nat × Nat × Nat × Nat) := (⟨"DviBytes$Reader", "bytesOfNumber", "(I)I"⟩, prog_4_method_5_code, 3, (some .int), [])
def m_Rd_bytesBehind : MethodName × ByteArray × Nat × Option FieldType × List (Nat × Nat × Nat × Nat) := (⟨"DviBytes$Reader", "bytesBehind", "()I"⟩, prog_4_method_6_code, 4, (some .int), [])
def m_Rd_fixedBytes : MethodName × ByteArray × Nat × Option FieldType × List (Nat × Nat × Nat × Nat) := (⟨"DviBytes$Reader", "fixedBytes", "()I"⟩, prog_4_method_7_code, 1, (some .int), [])
def m_Rd_isDefinition : MethodName × ByteArray × Nat × Option FieldType × List (Nat × Nat × Nat × Nat) := (⟨"DviBytes$Reader", "isDefinition", "()Z"⟩, prog_4_method_9_code, 1, (some .boolean), [])
def m_Rd_bytesOfText : MethodName × ByteArray × Nat × Option FieldType × List (Nat × Nat × Nat × Nat) := (⟨"DviBytes$Reader", "bytesOfText", "(I)I"⟩, prog_4_method_8_code, 2, (some .int), [])
def m_By_number : MethodName × ByteArray × Nat × Option FieldType × List (Nat × Nat × Nat × Nat) := (⟨"DviBytes$Bytes", "number", "(II)I"⟩, prog_2_method_8_code, 5, (some .int), [])
def m_Rd_canStand : MethodName × ByteArray × Nat × Option FieldType × List (Nat × Nat × Nat × Nat) := (⟨"DviBytes$Reader", "canStand", "()Z"⟩, prog_4_method_10_code, 2, (some .boolean), [])
def m_Rd_obey : MethodName × ByteArray × Nat × Option FieldType × List (Nat × Nat × Nat × Nat) := (⟨"DviBytes$Reader", "obey", "()I"⟩, prog_4_method_11_code, 1, (some .int), [])
def m_Rd_obeyMove : MethodName × ByteArray × Nat × Option FieldType × List (Nat × Nat × Nat × Nat) := (⟨"DviBytes$Reader", "obeyMove", "()I"⟩, prog_4_method_15_code, 5, (some .int), [])
def m_By_signedNumber : MethodName × ByteArray × Nat × Option FieldType × List (Nat × Nat × Nat × Nat) := (⟨"DviBytes$Bytes", "signedNumber", "(II)I"⟩, prog_2_method_9_code, 4, (some .int), [])
def m_Rd_grow : MethodName × ByteArray × Nat × Option FieldType × List (Nat × Nat × Nat × Nat) := (⟨"DviBytes$Reader", "grow", "(II)Z"⟩, prog_4_method_14_code, 5, (some .boolean), [])
def m_Dv_isInt : MethodName × ByteArray × Nat × Option FieldType × List (Nat × Nat × Nat × Nat) := (⟨"DviBytes", "isInt", "(J)Z"⟩, prog_1_method_23_code, 2, (some .boolean), [])
def m_Rd_obeyFont : MethodName × ByteArray × Nat × Option FieldType × List (Nat × Nat × Nat × Nat) := (⟨"DviBytes$Reader", "obeyFont", "()I"⟩, prog_4_method_16_code, 2, (some .int), [])
def m_Rg_findFont : MethodName × ByteArray × Nat × Option FieldType × List (Nat × Nat × Nat × Nat) := (⟨"DviBytes$Reading", "findFont", "(I)I"⟩, prog_5_method_9_code, 3, (some .int), [])
def m_Rd_obeyDefinition : MethodName × ByteArray × Nat × Option FieldType × List (Nat × Nat × Nat × Nat) := (⟨"DviBytes$Reader", "obeyDefinition", "()I"⟩, prog_4_method_17_code, 4, (some .int), [])
def m_Rg_isSameFont : MethodName × ByteArray × Nat × Option FieldType × List (Nat × Nat × Nat × Nat) := (⟨"DviBytes$Reading", "isSameFont", "(ILDviBytes$Bytes;I)Z"⟩, prog_5_method_11_code, 6, (some .boolean), [])
def m_Rg_fontPart : MethodName × ByteArray × Nat × Option FieldType × List (Nat × Nat × Nat × Nat) := (⟨"DviBytes$Reading", "fontPart", "(II)I"⟩, prog_5_method_5_code, 4, (some .int), [])
def m_Rg_isIn : MethodName × ByteArray × Nat × Option FieldType × List (Nat × Nat × Nat × Nat) := (⟨"DviBytes$Reading", "isIn", "(III)Z"⟩, prog_5_method_6_code, 3, (some .boolean), [])
def m_Rg_nameLengthAt : MethodName × ByteArray × Nat × Option FieldType × List (Nat × Nat × Nat × Nat) := (⟨"DviBytes$Reading", "nameLengthAt", "(LDviBytes$Bytes;I)I"⟩, prog_5_method_12_code, 2, (some .int), [])
def m_Rg_addFont : MethodName × ByteArray × Nat × Option FieldType × List (Nat × Nat × Nat × Nat) := (⟨"DviBytes$Reading", "addFont", "(ILDviBytes$Bytes;I)Z"⟩, prog_5_method_10_code, 7, (some .boolean), [])
def m_Rd_obeyRule : MethodName × ByteArray × Nat × Option FieldType × List (Nat × Nat × Nat × Nat) := (⟨"DviBytes$Reader", "obeyRule", "()I"⟩, prog_4_method_13_code, 4, (some .int), [])
def m_Rg_addMark : MethodName × ByteArray × Nat × Option FieldType × List (Nat × Nat × Nat × Nat) := (⟨"DviBytes$Reading", "addMark", "(IIIII)Z"⟩, prog_5_method_7_code, 7, (some .boolean), [])
def m_Rd_obeyBegin : MethodName × ByteArray × Nat × Option FieldType × List (Nat × Nat × Nat × Nat) := (⟨"DviBytes$Reader", "obeyBegin", "()I"⟩, prog_4_method_18_code, 2, (some .int), [])
def m_Rg_addPage : MethodName × ByteArray × Nat × Option FieldType × List (Nat × Nat × Nat × Nat) := (⟨"DviBytes$Reading", "addPage", "(LDviBytes$Bytes;I)Z"⟩, prog_5_method_8_code, 4, (some .boolean), [])
def m_Rd_obeyPush : MethodName × ByteArray × Nat × Option FieldType × List (Nat × Nat × Nat × Nat) := (⟨"DviBytes$Reader", "obeyPush", "()I"⟩, prog_4_method_19_code, 2, (some .int), [])
def m_Rd_obeyPop : MethodName × ByteArray × Nat × Option FieldType × List (Nat × Nat × Nat × Nat) := (⟨"DviBytes$Reader", "obeyPop", "()I"⟩, prog_4_method_20_code, 2, (some .int), [])
def m_Rd_obeyLast : MethodName × ByteArray × Nat × Option FieldType × List (Nat × Nat × Nat × Nat) := (⟨"DviBytes$Reader", "obeyLast", "()I"⟩, prog_4_method_21_code, 2, (some .int), [])
def m_Rd_obeyCharacter : MethodName × ByteArray × Nat × Option FieldType × List (Nat × Nat × Nat × Nat) := (⟨"DviBytes$Reader", "obeyCharacter", "()I"⟩, prog_4_method_12_code, 4, (some .int), [])
def m_Wi_of : MethodName × ByteArray × Nat × Option FieldType × List (Nat × Nat × Nat × Nat) := (⟨"DviBytes$Widths", "of", "(II)I"⟩, prog_8_method_2_code, 3, (some .int), [])
def m_Dv_isByte : MethodName × ByteArray × Nat × Option FieldType × List (Nat × Nat × Nat × Nat) := (⟨"DviBytes", "isByte", "(I)Z"⟩, prog_1_method_20_code, 1, (some .boolean), [])
def m_Rd_place : MethodName × ByteArray × Nat × Option FieldType × List (Nat × Nat × Nat × Nat) := (⟨"DviBytes$Reader", "place", "()I"⟩, prog_4_method_3_code, 1, (some .int), [])
def m_La_font : MethodName × ByteArray × Nat × Option FieldType × List (Nat × Nat × Nat × Nat) := (⟨"DviBytesLaw", "font", "(LDviBytes;IIIIJJI)I"⟩, method_3_code, 11, (some .int), [((0 : Nat), (15 : Nat), (18 : Nat), (13 : Nat)), ((0 : Nat), (15 : Nat), (22 : Nat), (15 : Nat))])
def m_Dv_font : MethodName × ByteArray × Nat × Option FieldType × List (Nat × Nat × Nat × Nat) := (⟨"DviBytes", "font", "(IIIIJJI)V"⟩, prog_1_method_2_code, 10, none, [])
def m_Dv_isName : MethodName × ByteArray × Nat × Option FieldType × List (Nat × Nat × Nat × Nat) := (⟨"DviBytes", "isName", "(JJI)Z"⟩, prog_1_method_24_code, 7, (some .boolean), [])
def m_Dv_letterOf : MethodName × ByteArray × Nat × Option FieldType × List (Nat × Nat × Nat × Nat) := (⟨"DviBytes", "letterOf", "(JJI)I"⟩, prog_1_method_25_code, 7, (some .int), [])
def m_Wr_hasTold : MethodName × ByteArray × Nat × Option FieldType × List (Nat × Nat × Nat × Nat) := (⟨"DviBytes$Writer", "hasTold", "(I)Z"⟩, prog_9_method_5_code, 2, (some .boolean), [])
def m_Fo_define : MethodName × ByteArray × Nat × Option FieldType × List (Nat × Nat × Nat × Nat) := (⟨"DviBytes$Fonts", "define", "(IIII)V"⟩, prog_3_method_3_code, 5, none, [])
def m_Fo_call : MethodName × ByteArray × Nat × Option FieldType × List (Nat × Nat × Nat × Nat) := (⟨"DviBytes$Fonts", "call", "(IJJI)V"⟩, prog_3_method_4_code, 7, none, [])
def m_La_width : MethodName × ByteArray × Nat × Option FieldType × List (Nat × Nat × Nat × Nat) := (⟨"DviBytesLaw", "width", "(LDviBytes;III)I"⟩, method_4_code, 5, (some .int), [((0 : Nat), (7 : Nat), (10 : Nat), (13 : Nat))])
def m_Dv_width : MethodName × ByteArray × Nat × Option FieldType × List (Nat × Nat × Nat × Nat) := (⟨"DviBytes", "width", "(III)V"⟩, prog_1_method_3_code, 4, none, [])
def m_Wi_change : MethodName × ByteArray × Nat × Option FieldType × List (Nat × Nat × Nat × Nat) := (⟨"DviBytes$Widths", "change", "(III)V"⟩, prog_8_method_3_code, 4, none, [])
def m_La_count : MethodName × ByteArray × Nat × Option FieldType × List (Nat × Nat × Nat × Nat) := (⟨"DviBytesLaw", "count", "(LDviBytes;II)I"⟩, method_5_code, 4, (some .int), [((0 : Nat), (6 : Nat), (9 : Nat), (13 : Nat))])
def m_Dv_count : MethodName × ByteArray × Nat × Option FieldType × List (Nat × Nat × Nat × Nat) := (⟨"DviBytes", "count", "(II)V"⟩, prog_1_method_4_code, 3, none, [])
def m_La_begin : MethodName × ByteArray × Nat × Option FieldType × List (Nat × Nat × Nat × Nat) := (⟨"DviBytesLaw", "begin", "(LDviBytes;II)I"⟩, method_6_code, 4, (some .int), [((0 : Nat), (6 : Nat), (9 : Nat), (13 : Nat))])
def m_Dv_begin : MethodName × ByteArray × Nat × Option FieldType × List (Nat × Nat × Nat × Nat) := (⟨"DviBytes", "begin", "(II)V"⟩, prog_1_method_5_code, 3, none, [])
def m_Wr_restart : MethodName × ByteArray × Nat × Option FieldType × List (Nat × Nat × Nat × Nat) := (⟨"DviBytes$Writer", "restart", "(II)V"⟩, prog_9_method_6_code, 3, none, [])
def m_Wr_goBack : MethodName × ByteArray × Nat × Option FieldType × List (Nat × Nat × Nat × Nat) := (⟨"DviBytes$Writer", "goBack", "(II)V"⟩, prog_9_method_7_code, 5, none, [])
def m_Sh_clear : MethodName × ByteArray × Nat × Option FieldType × List (Nat × Nat × Nat × Nat) := (⟨"DviBytes$Sheet", "clear", "()V"⟩, prog_6_method_12_code, 1, none, [])
def m_La_put : MethodName × ByteArray × Nat × Option FieldType × List (Nat × Nat × Nat × Nat) := (⟨"DviBytesLaw", "put", "(LDviBytes;IIII[J)I"⟩, method_7_code, 7, (some .int), [((0 : Nat), (14 : Nat), (17 : Nat), (13 : Nat)), ((0 : Nat), (14 : Nat), (21 : Nat), (32 : Nat))])
def m_Dv_put : MethodName × ByteArray × Nat × Option FieldType × List (Nat × Nat × Nat × Nat) := (⟨"DviBytes", "put", "(IIII)I"⟩, prog_1_method_6_code, 5, (some .int), [])
def m_Fo_isDefined : MethodName × ByteArray × Nat × Option FieldType × List (Nat × Nat × Nat × Nat) := (⟨"DviBytes$Fonts", "isDefined", "(I)Z"⟩, prog_3_method_2_code, 2, (some .boolean), [])
def m_Dv_isNear : MethodName × ByteArray × Nat × Option FieldType × List (Nat × Nat × Nat × Nat) := (⟨"DviBytes", "isNear", "(I)Z"⟩, prog_1_method_21_code, 1, (some .boolean), [])
def m_Sh_isFull : MethodName × ByteArray × Nat × Option FieldType × List (Nat × Nat × Nat × Nat) := (⟨"DviBytes$Sheet", "isFull", "()Z"⟩, prog_6_method_2_code, 1, (some .boolean), [])
def m_Sh_add : MethodName × ByteArray × Nat × Option FieldType × List (Nat × Nat × Nat × Nat) := (⟨"DviBytes$Sheet", "add", "(IIIII)I"⟩, prog_6_method_4_code, 7, (some .int), [])
def m_La_rule : MethodName × ByteArray × Nat × Option FieldType × List (Nat × Nat × Nat × Nat) := (⟨"DviBytesLaw", "rule", "(LDviBytes;IIII[J)I"⟩, method_8_code, 7, (some .int), [((0 : Nat), (14 : Nat), (17 : Nat), (13 : Nat)), ((0 : Nat), (14 : Nat), (21 : Nat), (32 : Nat))])
def m_Dv_rule : MethodName × ByteArray × Nat × Option FieldType × List (Nat × Nat × Nat × Nat) := (⟨"DviBytes", "rule", "(IIII)I"⟩, prog_1_method_7_code, 5, (some .int), [])
def m_Dv_isExtent : MethodName × ByteArray × Nat × Option FieldType × List (Nat × Nat × Nat × Nat) := (⟨"DviBytes", "isExtent", "(I)Z"⟩, prog_1_method_22_code, 1, (some .boolean), [])
def m_La_ship : MethodName × ByteArray × Nat × Option FieldType × List (Nat × Nat × Nat × Nat) := (⟨"DviBytesLaw", "ship", "(LDviBytes;[J)I"⟩, method_9_code, 3, (some .int), [((0 : Nat), (8 : Nat), (11 : Nat), (15 : Nat)), ((0 : Nat), (8 : Nat), (14 : Nat), (41 : Nat)), ((0 : Nat), (8 : Nat), (17 : Nat), (32 : Nat))])
def m_Dv_ship : MethodName × ByteArray × Nat × Option FieldType × List (Nat × Nat × Nat × Nat) := (⟨"DviBytes", "ship", "()I"⟩, prog_1_method_8_code, 1, (some .int), [])
def m_Wr_isClosed : MethodName × ByteArray × Nat × Option FieldType × List (Nat × Nat × Nat × Nat) := (⟨"DviBytes$Writer", "isClosed", "()Z"⟩, prog_9_method_3_code, 1, (some .boolean), [])
def m_Wr_planPage : MethodName × ByteArray × Nat × Option FieldType × List (Nat × Nat × Nat × Nat) := (⟨"DviBytes$Writer", "planPage", "(LDviBytes$Sheet;)Z"⟩, prog_9_method_8_code, 11, (some .boolean), [])
def m_Wa_clear : MethodName × ByteArray × Nat × Option FieldType × List (Nat × Nat × Nat × Nat) := (⟨"DviBytes$Way", "clear", "()V"⟩, prog_7_method_2_code, 1, none, [])
def m_Sh_length : MethodName × ByteArray × Nat × Option FieldType × List (Nat × Nat × Nat × Nat) := (⟨"DviBytes$Sheet", "length", "()I"⟩, prog_6_method_3_code, 1, (some .int), [])
def m_Sh_x : MethodName × ByteArray × Nat × Option FieldType × List (Nat × Nat × Nat × Nat) := (⟨"DviBytes$Sheet", "x", "(I)I"⟩, prog_6_method_10_code, 2, (some .int), [])
def m_Sh_part : MethodName × ByteArray × Nat × Option FieldType × List (Nat × Nat × Nat × Nat) := (⟨"DviBytes$Sheet", "part", "(II)I"⟩, prog_6_method_5_code, 4, (some .int), [])
def m_Sh_y : MethodName × ByteArray × Nat × Option FieldType × List (Nat × Nat × Nat × Nat) := (⟨"DviBytes$Sheet", "y", "(I)I"⟩, prog_6_method_11_code, 2, (some .int), [])
def m_Wr_growth : MethodName × ByteArray × Nat × Option FieldType × List (Nat × Nat × Nat × Nat) := (⟨"DviBytes$Writer", "growth", "(LDviBytes$Sheet;I)I"⟩, prog_9_method_9_code, 3, (some .int), [])
def m_Sh_isRule : MethodName × ByteArray × Nat × Option FieldType × List (Nat × Nat × Nat × Nat) := (⟨"DviBytes$Sheet", "isRule", "(I)Z"⟩, prog_6_method_6_code, 2, (some .boolean), [])
def m_Sh_fontOf : MethodName × ByteArray × Nat × Option FieldType × List (Nat × Nat × Nat × Nat) := (⟨"DviBytes$Sheet", "fontOf", "(I)I"⟩, prog_6_method_7_code, 2, (some .int), [])
def m_Sh_characterOrWidth : MethodName × ByteArray × Nat × Option FieldType × List (Nat × Nat × Nat × Nat) := (⟨"DviBytes$Sheet", "characterOrWidth", "(I)I"⟩, prog_6_method_8_code, 2, (some .int), [])
def m_Wa_plan : MethodName × ByteArray × Nat × Option FieldType × List (Nat × Nat × Nat × Nat) := (⟨"DviBytes$Way", "plan", "(I)V"⟩, prog_7_method_3_code, 2, none, [])
def m_Wr_writePage : MethodName × ByteArray × Nat × Option FieldType × List (Nat × Nat × Nat × Nat) := (⟨"DviBytes$Writer", "writePage", "(LDviBytes$Sheet;[I)Z"⟩, prog_9_method_10_code, 7, (some .boolean), [])
def m_Wr_writeStart : MethodName × ByteArray × Nat × Option FieldType × List (Nat × Nat × Nat × Nat) := (⟨"DviBytes$Writer", "writeStart", "()V"⟩, prog_9_method_11_code, 2, none, [])
def m_Wr_writeScale : MethodName × ByteArray × Nat × Option FieldType × List (Nat × Nat × Nat × Nat) := (⟨"DviBytes$Writer", "writeScale", "()V"⟩, prog_9_method_12_code, 1, none, [])
def m_By_addNumber : MethodName × ByteArray × Nat × Option FieldType × List (Nat × Nat × Nat × Nat) := (⟨"DviBytes$Bytes", "addNumber", "(II)V"⟩, prog_2_method_5_code, 4, none, [])
def m_Wr_writeMarks : MethodName × ByteArray × Nat × Option FieldType × List (Nat × Nat × Nat × Nat) := (⟨"DviBytes$Writer", "writeMarks", "(LDviBytes$Sheet;)V"⟩, prog_9_method_13_code, 4, none, [])
def m_Wa_write : MethodName × ByteArray × Nat × Option FieldType × List (Nat × Nat × Nat × Nat) := (⟨"DviBytes$Way", "write", "(ILDviBytes$Bytes;)V"⟩, prog_7_method_4_code, 4, none, [])
def m_Wa_comesBehind : MethodName × ByteArray × Nat × Option FieldType × List (Nat × Nat × Nat × Nat) := (⟨"DviBytes$Way", "comesBehind", "(II)Z"⟩, prog_7_method_5_code, 4, (some .boolean), [])
def m_By_addShortest : MethodName × ByteArray × Nat × Option FieldType × List (Nat × Nat × Nat × Nat) := (⟨"DviBytes$Bytes", "addShortest", "(II)V"⟩, prog_2_method_6_code, 4, none, [])
def m_By_bytesFor : MethodName × ByteArray × Nat × Option FieldType × List (Nat × Nat × Nat × Nat) := (⟨"DviBytes$Bytes", "bytesFor", "(I)I"⟩, prog_2_method_7_code, 1, (some .int), [])
def m_Sh_height : MethodName × ByteArray × Nat × Option FieldType × List (Nat × Nat × Nat × Nat) := (⟨"DviBytes$Sheet", "height", "(I)I"⟩, prog_6_method_9_code, 2, (some .int), [])
def m_Wr_writeFont : MethodName × ByteArray × Nat × Option FieldType × List (Nat × Nat × Nat × Nat) := (⟨"DviBytes$Writer", "writeFont", "(I)V"⟩, prog_9_method_14_code, 2, none, [])
def m_Fo_writeDefinition : MethodName × ByteArray × Nat × Option FieldType × List (Nat × Nat × Nat × Nat) := (⟨"DviBytes$Fonts", "writeDefinition", "(ILDviBytes$Bytes;)V"⟩, prog_3_method_5_code, 4, none, [])
def m_Wr_remember : MethodName × ByteArray × Nat × Option FieldType × List (Nat × Nat × Nat × Nat) := (⟨"DviBytes$Writer", "remember", "(I)V"⟩, prog_9_method_15_code, 2, none, [])
def m_Wr_writeCharacter : MethodName × ByteArray × Nat × Option FieldType × List (Nat × Nat × Nat × Nat) := (⟨"DviBytes$Writer", "writeCharacter", "(I)V"⟩, prog_9_method_16_code, 2, none, [])
def m_Wr_pageCount : MethodName × ByteArray × Nat × Option FieldType × List (Nat × Nat × Nat × Nat) := (⟨"DviBytes$Writer", "pageCount", "()I"⟩, prog_9_method_4_code, 1, (some .int), [])
def m_La_close : MethodName × ByteArray × Nat × Option FieldType × List (Nat × Nat × Nat × Nat) := (⟨"DviBytesLaw", "close", "(LDviBytes;[J)I"⟩, method_10_code, 3, (some .int), [((0 : Nat), (8 : Nat), (11 : Nat), (15 : Nat))])
def m_Dv_close : MethodName × ByteArray × Nat × Option FieldType × List (Nat × Nat × Nat × Nat) := (⟨"DviBytes", "close", "()I"⟩, prog_1_method_9_code, 1, (some .int), [])
def m_Wr_writeEnd : MethodName × ByteArray × Nat × Option FieldType × List (Nat × Nat × Nat × Nat) := (⟨"DviBytes$Writer", "writeEnd", "()I"⟩, prog_9_method_17_code, 3, (some .int), [])
def m_La_out : MethodName × ByteArray × Nat × Option FieldType × List (Nat × Nat × Nat × Nat) := (⟨"DviBytesLaw", "out", "(LDviBytes;I[J)I"⟩, method_11_code, 4, (some .int), [((0 : Nat), (9 : Nat), (12 : Nat), (50 : Nat))])
def m_Dv_out : MethodName × ByteArray × Nat × Option FieldType × List (Nat × Nat × Nat × Nat) := (⟨"DviBytes", "out", "(I)I"⟩, prog_1_method_11_code, 2, (some .int), [])
def m_La_about : MethodName × ByteArray × Nat × Option FieldType × List (Nat × Nat × Nat × Nat) := (⟨"DviBytesLaw", "about", "(LDviBytes;I[J)I"⟩, method_12_code, 4, (some .int), [((0 : Nat), (9 : Nat), (12 : Nat), (50 : Nat))])
def m_Dv_about : MethodName × ByteArray × Nat × Option FieldType × List (Nat × Nat × Nat × Nat) := (⟨"DviBytes", "about", "(I)I"⟩, prog_1_method_16_code, 2, (some .int), [])
def m_La_mark : MethodName × ByteArray × Nat × Option FieldType × List (Nat × Nat × Nat × Nat) := (⟨"DviBytesLaw", "mark", "(LDviBytes;II[J)I"⟩, method_13_code, 5, (some .int), [((0 : Nat), (10 : Nat), (13 : Nat), (50 : Nat))])
def m_Dv_mark : MethodName × ByteArray × Nat × Option FieldType × List (Nat × Nat × Nat × Nat) := (⟨"DviBytes", "mark", "(II)I"⟩, prog_1_method_17_code, 3, (some .int), [])
def m_Rg_markPart : MethodName × ByteArray × Nat × Option FieldType × List (Nat × Nat × Nat × Nat) := (⟨"DviBytes$Reading", "markPart", "(II)I"⟩, prog_5_method_3_code, 4, (some .int), [])
def m_La_page : MethodName × ByteArray × Nat × Option FieldType × List (Nat × Nat × Nat × Nat) := (⟨"DviBytesLaw", "page", "(LDviBytes;II[J)I"⟩, method_14_code, 5, (some .int), [((0 : Nat), (10 : Nat), (13 : Nat), (50 : Nat))])
def m_Dv_page : MethodName × ByteArray × Nat × Option FieldType × List (Nat × Nat × Nat × Nat) := (⟨"DviBytes", "page", "(II)I"⟩, prog_1_method_18_code, 3, (some .int), [])
def m_Rg_pagePart : MethodName × ByteArray × Nat × Option FieldType × List (Nat × Nat × Nat × Nat) := (⟨"DviBytes$Reading", "pagePart", "(II)I"⟩, prog_5_method_4_code, 4, (some .int), [])
def m_La_told : MethodName × ByteArray × Nat × Option FieldType × List (Nat × Nat × Nat × Nat) := (⟨"DviBytesLaw", "told", "(LDviBytes;II[J)I"⟩, method_15_code, 5, (some .int), [((0 : Nat), (10 : Nat), (13 : Nat), (50 : Nat))])
def m_Dv_told : MethodName × ByteArray × Nat × Option FieldType × List (Nat × Nat × Nat × Nat) := (⟨"DviBytes", "told", "(II)I"⟩, prog_1_method_19_code, 3, (some .int), [])
def m_Mo_init : MethodName × ByteArray × Nat × Option FieldType × List (Nat × Nat × Nat × Nat) := (⟨"DviBytesModel", "<init>", "()V"⟩, prog_11_method_1_code, 1, none, [])
def m_Mo_thrown : MethodName × ByteArray × Nat × Option FieldType × List (Nat × Nat × Nat × Nat) := (⟨"DviBytesModel", "thrown", "()I"⟩, prog_11_method_2_code, 1, (some .int), [])
def m_Mo_font : MethodName × ByteArray × Nat × Option FieldType × List (Nat × Nat × Nat × Nat) := (⟨"DviBytesModel", "font", "(IIIIJJI)V"⟩, prog_11_method_6_code, 12, none, [])
def m_Mo_isByte : MethodName × ByteArray × Nat × Option FieldType × List (Nat × Nat × Nat × Nat) := (⟨"DviBytesModel", "isByte", "(I)Z"⟩, prog_11_method_3_code, 1, (some .boolean), [])
def m_Mo_letter : MethodName × ByteArray × Nat × Option FieldType × List (Nat × Nat × Nat × Nat) := (⟨"DviBytesModel", "letter", "(JJI)I"⟩, prog_11_method_5_code, 5, (some .int), [])
def m_Mo_isTold : MethodName × ByteArray × Nat × Option FieldType × List (Nat × Nat × Nat × Nat) := (⟨"DviBytesModel", "isTold", "(I)Z"⟩, prog_11_method_4_code, 4, (some .boolean), [])
def m_Mo_width : MethodName × ByteArray × Nat × Option FieldType × List (Nat × Nat × Nat × Nat) := (⟨"DviBytesModel", "width", "(III)V"⟩, prog_11_method_7_code, 4, none, [])
def m_Mo_count : MethodName × ByteArray × Nat × Option FieldType × List (Nat × Nat × Nat × Nat) := (⟨"DviBytesModel", "count", "(II)V"⟩, prog_11_method_8_code, 3, none, [])
def m_Mo_begin : MethodName × ByteArray × Nat × Option FieldType × List (Nat × Nat × Nat × Nat) := (⟨"DviBytesModel", "begin", "(II)V"⟩, prog_11_method_9_code, 3, none, [])
def m_Mo_put : MethodName × ByteArray × Nat × Option FieldType × List (Nat × Nat × Nat × Nat) := (⟨"DviBytesModel", "put", "(IIII)I"⟩, prog_11_method_12_code, 5, (some .int), [])
def m_Mo_isPlace : MethodName × ByteArray × Nat × Option FieldType × List (Nat × Nat × Nat × Nat) := (⟨"DviBytesModel", "isPlace", "(I)Z"⟩, prog_11_method_10_code, 1, (some .boolean), [])
def m_Mo_mark5 : MethodName × ByteArray × Nat × Option FieldType × List (Nat × Nat × Nat × Nat) := (⟨"DviBytesModel", "mark", "(IIIII)I"⟩, prog_11_method_11_code, 6, (some .int), [])
def m_Mo_rule : MethodName × ByteArray × Nat × Option FieldType × List (Nat × Nat × Nat × Nat) := (⟨"DviBytesModel", "rule", "(IIII)I"⟩, prog_11_method_13_code, 5, (some .int), [])
def m_Mo_ship : MethodName × ByteArray × Nat × Option FieldType × List (Nat × Nat × Nat × Nat) := (⟨"DviBytesModel", "ship", "()I"⟩, prog_11_method_24_code, 5, (some .int), [])
def m_Mo_findMoves : MethodName × ByteArray × Nat × Option FieldType × List (Nat × Nat × Nat × Nat) := (⟨"DviBytesModel", "findMoves", "()Z"⟩, prog_11_method_17_code, 8, (some .boolean), [])
def m_Mo_isInt : MethodName × ByteArray × Nat × Option FieldType × List (Nat × Nat × Nat × Nat) := (⟨"DviBytesModel", "isInt", "(J)Z"⟩, prog_11_method_16_code, 2, (some .boolean), [])
def m_Mo_writePage : MethodName × ByteArray × Nat × Option FieldType × List (Nat × Nat × Nat × Nat) := (⟨"DviBytesModel", "writePage", "()V"⟩, prog_11_method_23_code, 5, none, [])
def m_Mo_open : MethodName × ByteArray × Nat × Option FieldType × List (Nat × Nat × Nat × Nat) := (⟨"DviBytesModel", "open", "()V"⟩, prog_11_method_22_code, 2, none, [])
def m_Mo_lay : MethodName × ByteArray × Nat × Option FieldType × List (Nat × Nat × Nat × Nat) := (⟨"DviBytesModel", "lay", "(I)V"⟩, prog_11_method_14_code, 2, none, [])
def m_Mo_layNumber : MethodName × ByteArray × Nat × Option FieldType × List (Nat × Nat × Nat × Nat) := (⟨"DviBytesModel", "layNumber", "(II)V"⟩, prog_11_method_15_code, 4, none, [])
def m_Mo_move : MethodName × ByteArray × Nat × Option FieldType × List (Nat × Nat × Nat × Nat) := (⟨"DviBytesModel", "move", "([IIII)V"⟩, prog_11_method_20_code, 8, none, [])
def m_Mo_bytesOf : MethodName × ByteArray × Nat × Option FieldType × List (Nat × Nat × Nat × Nat) := (⟨"DviBytesModel", "bytesOf", "(I)I"⟩, prog_11_method_19_code, 1, (some .int), [])
def m_Mo_comes : MethodName × ByteArray × Nat × Option FieldType × List (Nat × Nat × Nat × Nat) := (⟨"DviBytesModel", "comes", "([III)Z"⟩, prog_11_method_18_code, 6, (some .boolean), [])
def m_Mo_define : MethodName × ByteArray × Nat × Option FieldType × List (Nat × Nat × Nat × Nat) := (⟨"DviBytesModel", "define", "(I)V"⟩, prog_11_method_21_code, 3, none, [])
def m_Mo_close : MethodName × ByteArray × Nat × Option FieldType × List (Nat × Nat × Nat × Nat) := (⟨"DviBytesModel", "close", "()I"⟩, prog_11_method_25_code, 3, (some .int), [])
def m_Mo_size : MethodName × ByteArray × Nat × Option FieldType × List (Nat × Nat × Nat × Nat) := (⟨"DviBytesModel", "size", "()I"⟩, prog_11_method_26_code, 1, (some .int), [])
def m_Mo_out : MethodName × ByteArray × Nat × Option FieldType × List (Nat × Nat × Nat × Nat) := (⟨"DviBytesModel", "out", "(I)I"⟩, prog_11_method_27_code, 2, (some .int), [])
def m_Mo_feed : MethodName × ByteArray × Nat × Option FieldType × List (Nat × Nat × Nat × Nat) := (⟨"DviBytesModel", "feed", "(JI)Z"⟩, prog_11_method_28_code, 5, (some .boolean), [])
def m_Mo_keep : MethodName × ByteArray × Nat × Option FieldType × List (Nat × Nat × Nat × Nat) := (⟨"DviBytesModel", "keep", "(I)Z"⟩, prog_11_method_29_code, 2, (some .boolean), [])
def m_Mo_copy : MethodName × ByteArray × Nat × Option FieldType × List (Nat × Nat × Nat × Nat) := (⟨"DviBytesModel", "copy", "()I"⟩, prog_11_method_30_code, 2, (some .int), [])
def m_Mo_read : MethodName × ByteArray × Nat × Option FieldType × List (Nat × Nat × Nat × Nat) := (⟨"DviBytesModel", "read", "()I"⟩, prog_11_method_58_code, 2, (some .int), [])
def m_Mo_forget : MethodName × ByteArray × Nat × Option FieldType × List (Nat × Nat × Nat × Nat) := (⟨"DviBytesModel", "forget", "()V"⟩, prog_11_method_57_code, 1, none, [])
def m_Mo_goThrough : MethodName × ByteArray × Nat × Option FieldType × List (Nat × Nat × Nat × Nat) := (⟨"DviBytesModel", "goThrough", "()I"⟩, prog_11_method_56_code, 4, (some .int), [])
def m_Mo_fault : MethodName × ByteArray × Nat × Option FieldType × List (Nat × Nat × Nat × Nat) := (⟨"DviBytesModel", "fault", "(II)I"⟩, prog_11_method_55_code, 2, (some .int), [])
def m_Mo_byteAt : MethodName × ByteArray × Nat × Option FieldType × List (Nat × Nat × Nat × Nat) := (⟨"DviBytesModel", "byteAt", "(I)I"⟩, prog_11_method_31_code, 2, (some .int), [])
def m_Mo_length : MethodName × ByteArray × Nat × Option FieldType × List (Nat × Nat × Nat × Nat) := (⟨"DviBytesModel", "length", "()I"⟩, prog_11_method_34_code, 6, (some .int), [])
def m_Mo_among : MethodName × ByteArray × Nat × Option FieldType × List (Nat × Nat × Nat × Nat) := (⟨"DviBytesModel", "among", "(II)I"⟩, prog_11_method_33_code, 2, (some .int), [])
def m_Mo_moveBytes : MethodName × ByteArray × Nat × Option FieldType × List (Nat × Nat × Nat × Nat) := (⟨"DviBytesModel", "moveBytes", "(I)I"⟩, prog_11_method_35_code, 1, (some .int), [])
def m_Mo_number : MethodName × ByteArray × Nat × Option FieldType × List (Nat × Nat × Nat × Nat) := (⟨"DviBytesModel", "number", "(IIZ)I"⟩, prog_11_method_32_code, 6, (some .int), [])
def m_Mo_mayStand : MethodName × ByteArray × Nat × Option FieldType × List (Nat × Nat × Nat × Nat) := (⟨"DviBytesModel", "mayStand", "(I)Z"⟩, prog_11_method_37_code, 2, (some .boolean), [])
def m_Mo_isFontTold : MethodName × ByteArray × Nat × Option FieldType × List (Nat × Nat × Nat × Nat) := (⟨"DviBytesModel", "isFontTold", "(I)Z"⟩, prog_11_method_36_code, 2, (some .boolean), [])
def m_Mo_within : MethodName × ByteArray × Nat × Option FieldType × List (Nat × Nat × Nat × Nat) := (⟨"DviBytesModel", "within", "(I)I"⟩, prog_11_method_53_code, 2, (some .int), [])
def m_Mo_setCharacter : MethodName × ByteArray × Nat × Option FieldType × List (Nat × Nat × Nat × Nat) := (⟨"DviBytesModel", "setCharacter", "(IZ)I"⟩, prog_11_method_47_code, 4, (some .int), [])
def m_Mo_noteMark : MethodName × ByteArray × Nat × Option FieldType × List (Nat × Nat × Nat × Nat) := (⟨"DviBytesModel", "noteMark", "(III)V"⟩, prog_11_method_46_code, 5, none, [])
def m_Mo_add : MethodName × ByteArray × Nat × Option FieldType × List (Nat × Nat × Nat × Nat) := (⟨"DviBytesModel", "add", "(II)I"⟩, prog_11_method_45_code, 5, (some .int), [])
def m_Mo_setRule : MethodName × ByteArray × Nat × Option FieldType × List (Nat × Nat × Nat × Nat) := (⟨"DviBytesModel", "setRule", "(Z)I"⟩, prog_11_method_48_code, 5, (some .int), [])
def m_Mo_push : MethodName × ByteArray × Nat × Option FieldType × List (Nat × Nat × Nat × Nat) := (⟨"DviBytesModel", "push", "()I"⟩, prog_11_method_50_code, 2, (some .int), [])
def m_Mo_pop : MethodName × ByteArray × Nat × Option FieldType × List (Nat × Nat × Nat × Nat) := (⟨"DviBytesModel", "pop", "()I"⟩, prog_11_method_51_code, 2, (some .int), [])
def m_Mo_moveBy : MethodName × ByteArray × Nat × Option FieldType × List (Nat × Nat × Nat × Nat) := (⟨"DviBytesModel", "moveBy", "(I)I"⟩, prog_11_method_49_code, 7, (some .int), [])
def m_Mo_take : MethodName × ByteArray × Nat × Option FieldType × List (Nat × Nat × Nat × Nat) := (⟨"DviBytesModel", "take", "(I)I"⟩, prog_11_method_52_code, 2, (some .int), [])
def m_Mo_fontAt : MethodName × ByteArray × Nat × Option FieldType × List (Nat × Nat × Nat × Nat) := (⟨"DviBytesModel", "fontAt", "(I)I"⟩, prog_11_method_38_code, 4, (some .int), [])
def m_Mo_tell : MethodName × ByteArray × Nat × Option FieldType × List (Nat × Nat × Nat × Nat) := (⟨"DviBytesModel", "tell", "()I"⟩, prog_11_method_42_code, 3, (some .int), [])
def m_Mo_isSame : MethodName × ByteArray × Nat × Option FieldType × List (Nat × Nat × Nat × Nat) := (⟨"DviBytesModel", "isSame", "(II)Z"⟩, prog_11_method_41_code, 7, (some .boolean), [])
def m_Mo_nameSize : MethodName × ByteArray × Nat × Option FieldType × List (Nat × Nat × Nat × Nat) := (⟨"DviBytesModel", "nameSize", "(I)I"⟩, prog_11_method_40_code, 3, (some .int), [])
def m_Mo_behindNumber : MethodName × ByteArray × Nat × Option FieldType × List (Nat × Nat × Nat × Nat) := (⟨"DviBytesModel", "behindNumber", "(I)I"⟩, prog_11_method_39_code, 2, (some .int), [])
def m_Mo_outside : MethodName × ByteArray × Nat × Option FieldType × List (Nat × Nat × Nat × Nat) := (⟨"DviBytesModel", "outside", "(I)I"⟩, prog_11_method_54_code, 2, (some .int), [])
def m_Mo_beginPage : MethodName × ByteArray × Nat × Option FieldType × List (Nat × Nat × Nat × Nat) := (⟨"DviBytesModel", "beginPage", "()I"⟩, prog_11_method_43_code, 2, (some .int), [])
def m_Mo_post : MethodName × ByteArray × Nat × Option FieldType × List (Nat × Nat × Nat × Nat) := (⟨"DviBytesModel", "post", "()I"⟩, prog_11_method_44_code, 3, (some .int), [])
def m_Mo_about : MethodName × ByteArray × Nat × Option FieldType × List (Nat × Nat × Nat × Nat) := (⟨"DviBytesModel", "about", "(I)I"⟩, prog_11_method_59_code, 2, (some .int), [])
def m_Mo_mark2 : MethodName × ByteArray × Nat × Option FieldType × List (Nat × Nat × Nat × Nat) := (⟨"DviBytesModel", "mark", "(II)I"⟩, prog_11_method_60_code, 3, (some .int), [])
def m_Mo_page : MethodName × ByteArray × Nat × Option FieldType × List (Nat × Nat × Nat × Nat) := (⟨"DviBytesModel", "page", "(II)I"⟩, prog_11_method_61_code, 3, (some .int), [])
def m_Mo_told : MethodName × ByteArray × Nat × Option FieldType × List (Nat × Nat × Nat × Nat) := (⟨"DviBytesModel", "told", "(II)I"⟩, prog_11_method_62_code, 5, (some .int), [])
def xstrs : List (String × Nat × String) := [("DviBytes", 76, "no such font or name"), ("DviBytes", 86, "the font was told in the file"), ("DviBytes", 97, "no such font or character"), ("DviBytes", 103, "no such count"), ("DviBytes", 105, "no such comment"), ("DviBytes", 120, "no such font, character or place"), ("DviBytes", 128, "the page is full"), ("DviBytes", 138, "no such place or rule"), ("DviBytes", 143, "the file is closed"), ("DviBytes", 151, "a place or a move passes an int"), ("DviBytes", 158, "the file would be too long"), ("DviBytes", 176, "no such byte"), ("DviBytes", 226, "nothing is told of that"), ("DviBytes", 228, "no such mark, or part of one"), ("DviBytes", 234, "no such page or count"), ("DviBytes", 239, "no such font, or part of one")]
def xzq : List (String × String × String) := [(Bundle.tN, "UNASSIGNED_STACK", Bundle.steD), (Bundle.tN, "SUPPRESSED_SENTINEL", Bundle.listD)]
theorem xzq_U : (Bundle.tN, "UNASSIGNED_STACK", Bundle.steD) ∈ xzq := List.mem_cons_self
theorem xzq_S : (Bundle.tN, "SUPPRESSED_SENTINEL", Bundle.listD) ∈ xzq := List.mem_cons_of_mem _ List.mem_cons_self
def xfam : Nat → Int32 := fun j => ([128, 133, 143, 148, 153, 157, 162, 167, 235, 239, 243] : List Int32).getD j 0
def xsa : List (String × String × String × Nat × Nat × (Nat → Int32)) := [("DviBytes$Reader", "FAMILIES", "[I", 1000001, 11, xfam)]
def xnc : List (String × String) := [("java/lang/ArithmeticException", "java/lang/IllegalArgumentException"), ("java/lang/ArithmeticException", "java/lang/IllegalStateException"), ("java/lang/ArithmeticException", "java/lang/IndexOutOfBoundsException"), ("java/lang/ArithmeticException", "java/lang/UnsupportedOperationException"), ("java/lang/IllegalArgumentException", "java/lang/ArithmeticException"), ("java/lang/IllegalArgumentException", "java/lang/IllegalStateException"), ("java/lang/IllegalArgumentException", "java/lang/IndexOutOfBoundsException"), ("java/lang/IllegalArgumentException", "java/lang/UnsupportedOperationException"), ("java/lang/IllegalStateException", "java/lang/ArithmeticException"), ("java/lang/IllegalStateException", "java/lang/IllegalArgumentException"), ("java/lang/IllegalStateException", "java/lang/IndexOutOfBoundsException"), ("java/lang/IllegalStateException", "java/lang/UnsupportedOperationException"), ("java/lang/IndexOutOfBoundsException", "java/lang/ArithmeticException"), ("java/lang/IndexOutOfBoundsException", "java/lang/IllegalArgumentException"), ("java/lang/IndexOutOfBoundsException", "java/lang/IllegalStateException"), ("java/lang/IndexOutOfBoundsException", "java/lang/UnsupportedOperationException"), ("java/lang/UnsupportedOperationException", "java/lang/ArithmeticException"), ("java/lang/UnsupportedOperationException", "java/lang/IllegalArgumentException"), ("java/lang/UnsupportedOperationException", "java/lang/IllegalStateException"), ("java/lang/UnsupportedOperationException", "java/lang/IndexOutOfBoundsException")]
def xl (l : Launch) : Prop := l.flags = flags0
theorem xl_off {l : Launch} {e : Env} (h : xl l) (ha : l.admits e) : e.platform.stackTraces = false := by
  rw [ha.platform]
  show (!l.flags.contains noTraceFlag) = false
  rw [show l.flags = flags0 from h]
  decide +kernel
end
section
def xtb : List Cond := lw_tbl.filter goodWord
def xisN : Cond → Bool
  | .fieldLinkNest .. => true
  | .methodLinkNest .. => true
  | _ => false
def xnest : List Cond := lw_tbl.filter xisN
theorem xnest_tab : ∀ w ∈ xnest, w.onTables = true := by decide +kernel
theorem xtb_in {w : Cond} (h : w ∈ lw_tbl) (hg : goodWord w = true) : w ∈ xtb := List.mem_filter.mpr ⟨h, hg⟩
theorem xnest_warm {s U : State} (hW : s.WarmedH U.vm) {w : Cond} (hw : xisN w = true) (h : va_Nw w s) : va_Nw w U := by
  cases w <;> first | exact va_Nw.warmF hW h | exact va_Nw.warmM hW h | (exact absurd hw (by decide)) | cases hw
abbrev xSc : Type := Option (Nat × (Nat → Int32))
def xF (sc : xSc) (ad0 : Nat → Nat) (A : Nat → Prop) (s : State) : Prop :=
  (∀ w ∈ xnest, va_Nw w s) ∧ (∀ q ∈ xstrs, ∃ a, vk_R q.1 q.2.1 q.2.2 a s) ∧
  (∀ q : Nat × (Nat → Int32), sc = some q → va_X (ad0 1000000) q.1 q.2 s s.heap ∧ ad0 1000000 < s.heap.size ∧ ¬ A (ad0 1000000)) ∧
  (∀ q ∈ xzq, va_Zq q.1 q.2.1 q.2.2 A s s.heap) ∧
  (∀ q ∈ xsa, va_Z q.1 q.2.1 q.2.2.1 (.ref (ad0 q.2.2.2.1)) A s s.heap ∧ va_T .int (ad0 q.2.2.2.1) q.2.2.2.2.1 (fun j => .int (q.2.2.2.2.2 j)) A s s.heap ∧ 1000000 ≤ q.2.2.2.1) ∧
  (∀ q ∈ xnc, va_Nc q.1 q.2 s)
theorem xF_same {sc : xSc} {ad0 : Nat → Nat} {A : Nat → Prop} {u U : State} (hv : U.vm = u.vm) (hh : U.heap = u.heap) (h : xF sc ad0 A u) : xF sc ad0 A U := by
  obtain ⟨h1, h2, h3, h4, h5, h6⟩ := h
  have hal : u.vm.Alike U.vm := by rw [hv]; exact Vm.Alike.refl u.vm
  refine ⟨fun w hw => ?_, fun q hq => ?_, fun q hq => ?_, fun q hq => ?_, fun q hq => ?_, fun q hq => va_Nc.moved hal (h6 q hq)⟩
  · exact va_Nw.same (xnest_tab w hw) hv.symm (h1 w hw)
  · obtain ⟨a, ha⟩ := h2 q hq
    exact ⟨a, vk_R.same hv ha⟩
  · obtain ⟨q1, q2, q3⟩ := h3 q hq
    rw [hh]
    exact ⟨va_X.moved hal q1, q2, q3⟩
  · rw [hh]; exact va_Zq.moved hal (h4 q hq)
  · obtain ⟨q1, q2, q3⟩ := h5 q hq
    rw [hh]
    exact ⟨va_Z.moved hal q1, va_T.moved hal q2, q3⟩
theorem xF_call {sc : xSc} {ad ad0 : Nat → Nat} {A B : Nat → Prop} {s U : State} {H : Heap} {locs : List Loc} {n : Nat} (hW : s.WarmedH U.vm) (hU : U.heap = H) (hag : ∀ k, n ≤ k → ad k = ad0 k) (hn : n ≤ 1000000) (hS : va_S A s.heap H locs) (hBA : ∀ q, B q → A q) (h : xF sc ad0 A s) : xF none ad B U := by
  obtain ⟨h1, h2, h3, h4, h5, h6⟩ := h
  refine ⟨fun w hw => ?_, fun q hq => ?_, fun q hq => (by cases hq), fun q hq => ?_, fun q hq => ?_, fun q hq => va_Nc.moved hW.alike (h6 q hq)⟩
  · exact xnest_warm hW (List.mem_filter.mp hw).2 (h1 w hw)
  · obtain ⟨a, ha⟩ := h2 q hq
    exact ⟨a, vk_R.warm hW ha⟩
  · rw [hU]
    exact ((va_Zq.moved hW.alike (h4 q hq)).kept hS.2.1).narrow hBA
  · obtain ⟨q1, q2, q3⟩ := h5 q hq
    rw [hU, hag _ (Nat.le_trans hn q3)]
    exact ⟨((va_Z.moved hW.alike q1).kept hS.2.1).narrow hBA, ((va_T.moved hW.alike q2).kept hS.2.1).narrow hBA, q3⟩
end
section
abbrev xC : Type := (Nat × List Value) ⊕ (FieldType × vp_A)
abbrev xM : Type := MethodName × ByteArray × Nat × Option FieldType × List (Nat × Nat × Nat × Nat)
abbrev xO : Type := (Option Value ⊕ String) × List xC
def xv (ad : Nat → Nat) (v : Value) : Value := match v with
  | .ref k => .ref (ad k)
  | w => w
theorem xv_int (ad : Nat → Nat) (x : Int32) : xv ad (.int x) = .int x := rfl
theorem xv_long (ad : Nat → Nat) (x : Int64) : xv ad (.long x) = .long x := rfl
theorem xv_ref (ad : Nat → Nat) (k : Nat) : xv ad (.ref k) = .ref (ad k) := rfl
theorem xv_null (ad : Nat → Nat) : xv ad .null = .null := rfl
theorem xv_cat (ad : Nat → Nat) (v : Value) : (xv ad v).category = v.category := by cases v <;> rfl
def xe (cA : FieldType → ClassId) (ad : Nat → Nat) (c : xC) : va_E := match c with
  | .inl o => .inr (o.1, o.2.map (xv ad))
  | .inr a => .inl (cA a.1, a.2)
def xw (cA : FieldType → ClassId) (ad : Nat → Nat) (h : List xC) : va_W := h.mapIdx (fun k c => (ad k, xe cA ad c))
abbrev xT (cA : FieldType → ClassId) : List (ClassId × FieldType) := [(cA .int, .int), (cA .byte, .byte), (cA .boolean, .boolean), (cA .long, .long)]
def xA (ad0 : Nat → Nat) (N0 sz : Nat) : Nat → Prop := fun q => (∃ k, k < N0 ∧ q = ad0 k) ∨ sz ≤ q
theorem xw_at {cA : FieldType → ClassId} {ad : Nat → Nat} {h : List xC} {k : Nat} {c : xC} (hk : h[k]? = some c) : (xw cA ad h)[k]? = some (ad k, xe cA ad c) := by
  unfold xw
  rw [List.getElem?_mapIdx, hk]
  rfl
theorem xw_len {cA : FieldType → ClassId} {ad : Nat → Nat} {h : List xC} : (xw cA ad h).length = h.length := by
  unfold xw
  exact List.length_mapIdx
theorem xw_set {cA : FieldType → ClassId} {ad : Nat → Nat} {h : List xC} {k : Nat} {c : xC} : (xw cA ad h).set k (ad k, xe cA ad c) = xw cA ad (h.set k c) := by
  apply List.ext_getElem?
  intro i
  unfold xw
  rw [List.getElem?_mapIdx, List.getElem?_set, List.getElem?_set, List.length_mapIdx, List.getElem?_mapIdx]
  by_cases hi : k = i
  · subst hi
    by_cases hl : k < h.length
    · simp [hl]
    · simp [hl]
  · simp [hi]
theorem xw_of {cA : FieldType → ClassId} {ad : Nat → Nat} {h : List xC} {k : Nat} {q : Nat × va_E} (hq : (xw cA ad h)[k]? = some q) : ∃ c, h[k]? = some c ∧ q = (ad k, xe cA ad c) := by
  unfold xw at hq
  rw [List.getElem?_mapIdx] at hq
  cases hc : h[k]? with
  | none => rw [hc] at hq; cases hq
  | some c => rw [hc] at hq; exact ⟨c, rfl, (Option.some.inj hq).symm⟩
theorem xw_app {cA : FieldType → ClassId} {ad : Nat → Nat} {h : List xC} {c : xC} : xw cA ad (h ++ [c]) = xw cA ad h ++ [(ad h.length, xe cA ad c)] := by
  unfold xw
  rw [List.mapIdx_append]
  simp
abbrev xL : Type := List (Option Value)
def xlv (ad : Nat → Nat) (lo : xL) : List (Nat × Value) := lo.zipIdx.filterMap (fun q => q.1.map (fun v => (q.2, xv ad v)))
theorem xlv_mem {ad : Nat → Nat} {lo : xL} {q : Nat × Value} : q ∈ xlv ad lo ↔ ∃ v, lo[q.1]? = some (some v) ∧ q.2 = xv ad v := by
  unfold xlv
  rw [List.mem_filterMap]
  constructor
  · rintro ⟨⟨o, i⟩, hm, he⟩
    have hi := List.mem_zipIdx_iff_getElem?.mp hm
    cases o with
    | none => cases he
    | some v =>
      cases he
      exact ⟨v, hi, rfl⟩
  · rintro ⟨v, h1, h2⟩
    refine ⟨(some v, q.1), List.mem_zipIdx_iff_getElem?.mpr h1, ?_⟩
    show some (q.1, xv ad v) = some q
    rw [← h2]
def xpre (lo : xL) (i : Nat) : xL := match i with
  | 0 => lo
  | j + 1 => match lo[j]? with
    | some (some (.long _)) => lo.set j none
    | some (some (.double _)) => lo.set j none
    | _ => lo
def xst (lo : xL) (i : Nat) (v : Value) : xL := (xpre lo i).set i (some v)
def xst2 (lo : xL) (i : Nat) (v : Value) : xL := (xst lo i v).set (i + 1) none
def xhas (ls : Array Slot) (nL : Nat) (ad : Nat → Nat) (lo : xL) : Prop := lv_has ls nL (xlv ad lo)
theorem xhas_at {ls : Array Slot} {nL : Nat} {ad : Nat → Nat} {lo : xL} (h : xhas ls nL ad lo) {i : Nat} {v : Value} (hi : lo[i]? = some (some v)) : ls[i]? = some (.val (xv ad v)) := h.2.2 (i, xv ad v) (xlv_mem.mpr ⟨v, hi, rfl⟩)
theorem xst_get {lo : xL} {i j : Nat} {v w : Value} (h : (xst lo i v)[j]? = some (some w)) : (j = i ∧ w = v) ∨ (j ≠ i ∧ lo[j]? = some (some w) ∧ ¬ (j + 1 = i ∧ w.category = 2)) := by
  unfold xst at h
  rw [List.getElem?_set] at h
  by_cases hj : i = j
  · subst hj
    rw [if_pos rfl] at h
    split at h
    · exact Or.inl ⟨rfl, (Option.some.inj (Option.some.inj h)).symm⟩
    · cases h
  · rw [if_neg hj] at h
    refine Or.inr ⟨fun q => hj q.symm, ?_⟩
    cases i with
    | zero => exact ⟨h, fun q => by omega⟩
    | succ k =>
      dsimp only [xpre] at h
      split at h
      · rw [List.getElem?_set] at h
        by_cases hk : k = j
        · subst hk
          rw [if_pos rfl] at h
          split at h <;> cases h
        · rw [if_neg hk] at h
          exact ⟨h, fun q => hk (by omega)⟩
      · rw [List.getElem?_set] at h
        by_cases hk : k = j
        · subst hk
          rw [if_pos rfl] at h
          split at h <;> cases h
        · rw [if_neg hk] at h
          exact ⟨h, fun q => hk (by omega)⟩
      · rename_i hn1 hn2
        refine ⟨h, fun q => ?_⟩
        obtain ⟨q1, q2⟩ := q
        have : k = j := by omega
        subst this
        cases w with
        | long x => exact hn1 x h
        | double x => exact hn2 x h
        | int x => cases q2
        | float x => cases q2
        | ref x => cases q2
        | null => cases q2
        | _ => cases q2
theorem xhas_st {ls' : Array Slot} {nL : Nat} {ad : Nat → Nat} {lo : xL} {i : Nat} {v : Value} (h : lv_has ls' nL ((i, xv ad v) :: (xlv ad lo).filter (fun q => !(q.1 == i) && !(q.1 + 1 == i && q.2.category == 2)))) : xhas ls' nL ad (xst lo i v) := by
  refine ⟨h.1, h.2.1, fun q hq => ?_⟩
  obtain ⟨w, h1, h2⟩ := xlv_mem.mp hq
  rcases xst_get h1 with ⟨e1, e2⟩ | ⟨e1, e2, e3⟩
  · refine h.2.2 q (List.mem_cons.mpr (Or.inl ?_))
    rw [← e1, ← e2, ← h2]
  · refine h.2.2 q (List.mem_cons.mpr (Or.inr (List.mem_filter.mpr ⟨xlv_mem.mpr ⟨w, e2, h2⟩, ?_⟩)))
    rw [h2, xv_cat]
    simp only [Bool.and_eq_true, Bool.not_eq_true', beq_eq_false_iff_ne, ne_eq, Bool.and_eq_false_iff]
    refine ⟨e1, ?_⟩
    by_cases hj : q.1 + 1 = i
    · exact Or.inr (fun hc => e3 ⟨hj, hc⟩)
    · exact Or.inl hj
theorem xst2_get {lo : xL} {i j : Nat} {v w : Value} (h : (xst2 lo i v)[j]? = some (some w)) : (j = i ∧ w = v) ∨ (j ≠ i ∧ j ≠ i + 1 ∧ lo[j]? = some (some w) ∧ ¬ (j + 1 = i ∧ w.category = 2)) := by
  unfold xst2 at h
  rw [List.getElem?_set] at h
  by_cases hj : i + 1 = j
  · subst hj
    rw [if_pos rfl] at h
    split at h <;> cases h
  · rw [if_neg hj] at h
    rcases xst_get h with ⟨e1, e2⟩ | ⟨e1, e2, e3⟩
    · exact Or.inl ⟨e1, e2⟩
    · exact Or.inr ⟨e1, fun q => hj q.symm, e2, e3⟩
theorem xhas_st2 {ls' : Array Slot} {nL : Nat} {ad : Nat → Nat} {lo : xL} {i : Nat} {v : Value} (h : lv_has ls' nL ((i, xv ad v) :: (xlv ad lo).filter (fun q => !(q.1 == i) && (!(q.1 == i + 1) && !(q.1 + 1 == i && q.2.category == 2))))) : xhas ls' nL ad (xst2 lo i v) := by
  refine ⟨h.1, h.2.1, fun q hq => ?_⟩
  obtain ⟨w, h1, h2⟩ := xlv_mem.mp hq
  rcases xst2_get h1 with ⟨e1, e2⟩ | ⟨e1, e1', e2, e3⟩
  · refine h.2.2 q (List.mem_cons.mpr (Or.inl ?_))
    rw [← e1, ← e2, ← h2]
  · refine h.2.2 q (List.mem_cons.mpr (Or.inr (List.mem_filter.mpr ⟨xlv_mem.mpr ⟨w, e2, h2⟩, ?_⟩)))
    rw [h2, xv_cat]
    simp only [Bool.and_eq_true, Bool.not_eq_true', beq_eq_false_iff_ne, ne_eq, Bool.and_eq_false_iff]
    refine ⟨e1, e1', ?_⟩
    by_cases hj : q.1 + 1 = i
    · exact Or.inr (fun hc => e3 ⟨hj, hc⟩)
    · exact Or.inl hj
end
section
def xC0 (M : xM) (sc : xSc) (rc rs : Nat) (h : List xC) (p : Program) (l : Launch) (e : Env) (s : State) (m : MethodId) (args : Array Value) (meth : Method) (c : Code) (mc ms cells slots : Nat) (H : Heap) (locs : List Loc) (D : va_G) (cA : FieldType → ClassId) (ad ad0 : Nat → Nat) (N0 : Nat) : Prop :=
  (p.tables.exec = Jvm.exec ∧ c.code = M.2.1 ∧ c.maxLocals = M.2.2.1 ∧ meth.sig.returnType = M.2.2.2.1 ∧ meth.locks = false ∧ s.vm.findClass M.1.cls = some m.cls ∧ meth.name = M.1.name ∧ c.exceptionTable.toList.map (fun h => (h.startPc, h.endPc, h.handlerPc, h.catchType)) = M.2.2.2.2 ∧ xl l) ∧
  (∀ w ∈ xtb, w.before args s = true) ∧ xF sc ad0 (xA ad0 N0 s.heap.size) s ∧
  (cells + rc ≤ mc ∧ slots + rs ≤ ms) ∧ va_K D vwCl (xT cA) s ∧
  (N0 ≤ h.length ∧ (∀ k, k < N0 ∨ h.length ≤ k → ad k = ad0 k) ∧ (∀ k, k < N0 → ∀ ce, s.heap[ad0 k]? = some ce → ce.vm.isStatics = false) ∧ h.length ≤ 1000000) ∧
  va_P D vwCl (xw cA ad h) H ∧ va_D (xA ad0 N0 s.heap.size) (xw cA ad h) ∧ va_S (xA ad0 N0 s.heap.size) s.heap H locs
def xrm (d : Nat × Nat) (mc ms : Nat) : Room := { frames := d.1, cells := mc, slots := ms, locals := d.2 }
def xE (D : va_G) (cA : FieldType → ClassId) (ad0 : Nat → Nat) (N0 : Nat) (o : xO) (s : State) (mc ms : Nat) (oc : Outcome) (t : State) : Prop :=
  (∃ L : List Loc, s.WarmedH t.vm ∧ s.sameButNew ({ t with vm := s.vm } : State) L mc ms ∧ ∀ q ∈ L, xA ad0 N0 s.heap.size q.base) ∧
  N0 ≤ o.2.length ∧ va_F (xA ad0 N0 s.heap.size) s t ∧
  ∃ ad' : Nat → Nat, (∀ k, k < N0 ∨ o.2.length ≤ k → ad' k = ad0 k) ∧ va_P D vwCl (xw cA ad' o.2) t.heap ∧ va_D (xA ad0 N0 s.heap.size) (xw cA ad' o.2) ∧
    match o.1 with
    | .inl v => oc = .returned (v.map (xv ad'))
    | .inr E => ∃ (q : Addr) (ce : Cell), oc = .threw q ∧ t.heap[q]? = some ce ∧ ce.vm = .none ∧ s.vm.findClass E = some ce.cls
def xQ (below : List Frame) (D : va_G) (cA : FieldType → ClassId) (ad0 : Nat → Nat) (N0 : Nat) (Q : xO → Prop) (s : State) (mc ms : Nat) : State → Prop := fun t => ∃ (oc : Outcome) (o : xO), Q o ∧ t.status = .running ∧ Ended t below oc ∧ xE D cA ad0 N0 o s mc ms oc t
def xr (M : xM) (sc : xSc) (d : Nat × Nat) (pc : Nat) (lo : xL) (st : List Value) (h : List xC) (rc rs : Nat) (Q : xO → Prop) : Prop :=
  ∀ {p : Program} {l : Launch} {e : Env} {s : State} {m : MethodId} {args : Array Value} {below : List Frame} {meth : Method} {c : Code} {mc ms cells slots : Nat} {H : Heap} {locs : List Loc} {ls : Array Slot} {D : va_G} {cA : FieldType → ClassId} {ad ad0 : Nat → Nat} {N0 : Nat},
    xC0 M sc rc rs h p l e s m args meth c mc ms cells slots H locs D cA ad ad0 N0 → xhas ls M.2.2.1 ad lo →
    W p l e (xrm d mc ms) s m args below meth c H locs cells slots (xQ below D cA ad0 N0 Q s mc ms) (F0 m pc ls (st.map (xv ad)))
theorem W.mono {p : Program} {l : Launch} {e : Env} {R : Room} {s : State} {m : MethodId} {args : Array Value} {below : List Frame} {meth : Method} {c : Code} {H : Heap} {locs : List Loc} {cells slots : Nat} {Q Q' : State → Prop} {g : JFrame} (h : ∀ t, Q t → Q' t) (k : W p l e R s m args below meth c H locs cells slots Q g) : W p l e R s m args below meth c H locs cells slots Q' g := by
  intro T hT X
  obtain ⟨t, a, b⟩ := k T hT X
  exact ⟨t, a, h t b⟩
def xd (M : xM) (pc : Nat) (i : Instr) (n q : Nat) : Prop := decode M.2.1 pc = .ok (i, n) ∧ pc + n = q
section XR
variable {M : xM} {sc : xSc} {d : Nat × Nat} {pc : Nat} {lo : xL} {st : List Value} {h : List xC} {rc rs : Nat} {Q : xO → Prop}
theorem xr_iadd {x y : Int32} {q9 : Nat} (hd : xd M pc (.iadd) 1 q9) (k : xr M sc d q9 lo (.int (x + y) :: st) h rc rs Q) : xr M sc d pc lo (.int y :: .int x :: st) h rc rs Q := by
  obtain ⟨hd, rfl⟩ := hd
  intro p l e s m args below meth c mc ms cells slots H locs ls D cA ad ad0 N0 C hl
  exact lv_iadd C.1.1 C.1.2.1 hd (k C hl)
theorem xr_isub {x y : Int32} {q9 : Nat} (hd : xd M pc (.isub) 1 q9) (k : xr M sc d q9 lo (.int (x - y) :: st) h rc rs Q) : xr M sc d pc lo (.int y :: .int x :: st) h rc rs Q := by
  obtain ⟨hd, rfl⟩ := hd
  intro p l e s m args below meth c mc ms cells slots H locs ls D cA ad ad0 N0 C hl
  exact lv_isub C.1.1 C.1.2.1 hd (k C hl)
theorem xr_imul {x y : Int32} {q9 : Nat} (hd : xd M pc (.imul) 1 q9) (k : xr M sc d q9 lo (.int (x * y) :: st) h rc rs Q) : xr M sc d pc lo (.int y :: .int x :: st) h rc rs Q := by
  obtain ⟨hd, rfl⟩ := hd
  intro p l e s m args below meth c mc ms cells slots H locs ls D cA ad ad0 N0 C hl
  exact lv_imul C.1.1 C.1.2.1 hd (k C hl)
theorem xr_iand {x y : Int32} {q9 : Nat} (hd : xd M pc (.iand) 1 q9) (k : xr M sc d q9 lo (.int (x &&& y) :: st) h rc rs Q) : xr M sc d pc lo (.int y :: .int x :: st) h rc rs Q := by
  obtain ⟨hd, rfl⟩ := hd
  intro p l e s m args below meth c mc ms cells slots H locs ls D cA ad ad0 N0 C hl
  exact lv_iand C.1.1 C.1.2.1 hd (k C hl)
theorem xr_ior {x y : Int32} {q9 : Nat} (hd : xd M pc (.ior) 1 q9) (k : xr M sc d q9 lo (.int (x ||| y) :: st) h rc rs Q) : xr M sc d pc lo (.int y :: .int x :: st) h rc rs Q := by
  obtain ⟨hd, rfl⟩ := hd
  intro p l e s m args below meth c mc ms cells slots H locs ls D cA ad ad0 N0 C hl
  exact lv_ior C.1.1 C.1.2.1 hd (k C hl)
theorem xr_ixor {x y : Int32} {q9 : Nat} (hd : xd M pc (.ixor) 1 q9) (k : xr M sc d q9 lo (.int (x ^^^ y) :: st) h rc rs Q) : xr M sc d pc lo (.int y :: .int x :: st) h rc rs Q := by
  obtain ⟨hd, rfl⟩ := hd
  intro p l e s m args below meth c mc ms cells slots H locs ls D cA ad ad0 N0 C hl
  exact lv_ixor C.1.1 C.1.2.1 hd (k C hl)
theorem xr_ishl {x y : Int32} {q9 : Nat} (hd : xd M pc (.ishl) 1 q9) (k : xr M sc d q9 lo (.int (x <<< (y &&& 31)) :: st) h rc rs Q) : xr M sc d pc lo (.int y :: .int x :: st) h rc rs Q := by
  obtain ⟨hd, rfl⟩ := hd
  intro p l e s m args below meth c mc ms cells slots H locs ls D cA ad ad0 N0 C hl
  exact lv_ishl C.1.1 C.1.2.1 hd (k C hl)
theorem xr_ishr {x y : Int32} {q9 : Nat} (hd : xd M pc (.ishr) 1 q9) (k : xr M sc d q9 lo (.int (x >>> (y &&& 31)) :: st) h rc rs Q) : xr M sc d pc lo (.int y :: .int x :: st) h rc rs Q := by
  obtain ⟨hd, rfl⟩ := hd
  intro p l e s m args below meth c mc ms cells slots H locs ls D cA ad ad0 N0 C hl
  exact lv_ishr C.1.1 C.1.2.1 hd (k C hl)
theorem xr_idiv {x y : Int32} {q9 : Nat} (hd : xd M pc (.idiv) 1 q9) (hne : ¬ y = 0) (k : xr M sc d q9 lo (.int (x / y) :: st) h rc rs Q) : xr M sc d pc lo (.int y :: .int x :: st) h rc rs Q := by
  obtain ⟨hd, rfl⟩ := hd
  intro p l e s m args below meth c mc ms cells slots H locs ls D cA ad ad0 N0 C hl
  exact lv_idiv C.1.1 C.1.2.1 hd hne (k C hl)
theorem xr_irem {x y : Int32} {q9 : Nat} (hd : xd M pc (.irem) 1 q9) (hne : ¬ y = 0) (k : xr M sc d q9 lo (.int (x - x / y * y) :: st) h rc rs Q) : xr M sc d pc lo (.int y :: .int x :: st) h rc rs Q := by
  obtain ⟨hd, rfl⟩ := hd
  intro p l e s m args below meth c mc ms cells slots H locs ls D cA ad ad0 N0 C hl
  exact lv_irem C.1.1 C.1.2.1 hd hne (k C hl)
theorem xr_iushr {x y : Int32} {q9 : Nat} (hd : xd M pc (.iushr) 1 q9) (k : xr M sc d q9 lo (.int ((x.toUInt32 >>> (y.toUInt32 &&& Int32.toUInt32 31)).toInt32) :: st) h rc rs Q) : xr M sc d pc lo (.int y :: .int x :: st) h rc rs Q := by
  obtain ⟨hd, rfl⟩ := hd
  intro p l e s m args below meth c mc ms cells slots H locs ls D cA ad ad0 N0 C hl
  exact lv_iushr C.1.1 C.1.2.1 hd rfl (k C hl)
theorem xr_ineg {x : Int32} {q9 : Nat} (hd : xd M pc (.ineg) 1 q9) (k : xr M sc d q9 lo (.int (-x) :: st) h rc rs Q) : xr M sc d pc lo (.int x :: st) h rc rs Q := by
  obtain ⟨hd, rfl⟩ := hd
  intro p l e s m args below meth c mc ms cells slots H locs ls D cA ad ad0 N0 C hl
  exact lv_ineg C.1.1 C.1.2.1 hd (k C hl)
theorem xr_ladd {x y : Int64} {q9 : Nat} (hd : xd M pc (.ladd) 1 q9) (k : xr M sc d q9 lo (.long (x + y) :: st) h rc rs Q) : xr M sc d pc lo (.long y :: .long x :: st) h rc rs Q := by
  obtain ⟨hd, rfl⟩ := hd
  intro p l e s m args below meth c mc ms cells slots H locs ls D cA ad ad0 N0 C hl
  exact lv_ladd C.1.1 C.1.2.1 hd (k C hl)
theorem xr_lsub {x y : Int64} {q9 : Nat} (hd : xd M pc (.lsub) 1 q9) (k : xr M sc d q9 lo (.long (x - y) :: st) h rc rs Q) : xr M sc d pc lo (.long y :: .long x :: st) h rc rs Q := by
  obtain ⟨hd, rfl⟩ := hd
  intro p l e s m args below meth c mc ms cells slots H locs ls D cA ad ad0 N0 C hl
  exact lv_lsub C.1.1 C.1.2.1 hd (k C hl)
theorem xr_lmul {x y : Int64} {q9 : Nat} (hd : xd M pc (.lmul) 1 q9) (k : xr M sc d q9 lo (.long (x * y) :: st) h rc rs Q) : xr M sc d pc lo (.long y :: .long x :: st) h rc rs Q := by
  obtain ⟨hd, rfl⟩ := hd
  intro p l e s m args below meth c mc ms cells slots H locs ls D cA ad ad0 N0 C hl
  exact lv_lmul C.1.1 C.1.2.1 hd (k C hl)
theorem xr_land {x y : Int64} {q9 : Nat} (hd : xd M pc (.land) 1 q9) (k : xr M sc d q9 lo (.long (x &&& y) :: st) h rc rs Q) : xr M sc d pc lo (.long y :: .long x :: st) h rc rs Q := by
  obtain ⟨hd, rfl⟩ := hd
  intro p l e s m args below meth c mc ms cells slots H locs ls D cA ad ad0 N0 C hl
  exact lv_land C.1.1 C.1.2.1 hd (k C hl)
theorem xr_lor {x y : Int64} {q9 : Nat} (hd : xd M pc (.lor) 1 q9) (k : xr M sc d q9 lo (.long (x ||| y) :: st) h rc rs Q) : xr M sc d pc lo (.long y :: .long x :: st) h rc rs Q := by
  obtain ⟨hd, rfl⟩ := hd
  intro p l e s m args below meth c mc ms cells slots H locs ls D cA ad ad0 N0 C hl
  exact lv_lor C.1.1 C.1.2.1 hd (k C hl)
theorem xr_lxor {x y : Int64} {q9 : Nat} (hd : xd M pc (.lxor) 1 q9) (k : xr M sc d q9 lo (.long (x ^^^ y) :: st) h rc rs Q) : xr M sc d pc lo (.long y :: .long x :: st) h rc rs Q := by
  obtain ⟨hd, rfl⟩ := hd
  intro p l e s m args below meth c mc ms cells slots H locs ls D cA ad ad0 N0 C hl
  exact lv_lxor C.1.1 C.1.2.1 hd (k C hl)
theorem xr_lushr {x : Int64} {y : Int32} {q9 : Nat} (hd : xd M pc (.lushr) 1 q9) (k : xr M sc d q9 lo (.long ((x.toUInt64 >>> (y.toInt64.toUInt64 &&& Int64.toUInt64 63)).toInt64) :: st) h rc rs Q) : xr M sc d pc lo (.int y :: .long x :: st) h rc rs Q := by
  obtain ⟨hd, rfl⟩ := hd
  intro p l e s m args below meth c mc ms cells slots H locs ls D cA ad ad0 N0 C hl
  exact lv_lushr C.1.1 C.1.2.1 hd rfl (k C hl)
theorem xr_lshl {x : Int64} {y : Int32} {q9 : Nat} (hd : xd M pc (.lshl) 1 q9) (k : xr M sc d q9 lo (.long (x <<< (y.toInt64 &&& 63)) :: st) h rc rs Q) : xr M sc d pc lo (.int y :: .long x :: st) h rc rs Q := by
  obtain ⟨hd, rfl⟩ := hd
  intro p l e s m args below meth c mc ms cells slots H locs ls D cA ad ad0 N0 C hl
  exact lv_lshl C.1.1 C.1.2.1 hd rfl (k C hl)
theorem xr_lshr {x : Int64} {y : Int32} {q9 : Nat} (hd : xd M pc (.lshr) 1 q9) (k : xr M sc d q9 lo (.long (x >>> (y.toInt64 &&& 63)) :: st) h rc rs Q) : xr M sc d pc lo (.int y :: .long x :: st) h rc rs Q := by
  obtain ⟨hd, rfl⟩ := hd
  intro p l e s m args below meth c mc ms cells slots H locs ls D cA ad ad0 N0 C hl
  exact lv_lshr C.1.1 C.1.2.1 hd rfl (k C hl)
theorem xr_i2l {x : Int32} {q9 : Nat} (hd : xd M pc (.i2l) 1 q9) (k : xr M sc d q9 lo (.long x.toInt64 :: st) h rc rs Q) : xr M sc d pc lo (.int x :: st) h rc rs Q := by
  obtain ⟨hd, rfl⟩ := hd
  intro p l e s m args below meth c mc ms cells slots H locs ls D cA ad ad0 N0 C hl
  exact lv_i2l C.1.1 C.1.2.1 hd rfl (k C hl)
theorem xr_l2i {x : Int64} {q9 : Nat} (hd : xd M pc (.l2i) 1 q9) (k : xr M sc d q9 lo (.int x.toInt32 :: st) h rc rs Q) : xr M sc d pc lo (.long x :: st) h rc rs Q := by
  obtain ⟨hd, rfl⟩ := hd
  intro p l e s m args below meth c mc ms cells slots H locs ls D cA ad ad0 N0 C hl
  exact lv_l2i C.1.1 C.1.2.1 hd rfl (k C hl)
theorem xr_i2b {x : Int32} {q9 : Nat} (hd : xd M pc (.i2b) 1 q9) (k : xr M sc d q9 lo (.int x.toInt8.toInt32 :: st) h rc rs Q) : xr M sc d pc lo (.int x :: st) h rc rs Q := by
  obtain ⟨hd, rfl⟩ := hd
  intro p l e s m args below meth c mc ms cells slots H locs ls D cA ad ad0 N0 C hl
  exact lv_i2b C.1.1 C.1.2.1 hd rfl (k C hl)
theorem xr_lcmp {x y : Int64} {q9 : Nat} (hd : xd M pc (.lcmp) 1 q9) (k : xr M sc d q9 lo (.int (lg_cmp x y) :: st) h rc rs Q) : xr M sc d pc lo (.long y :: .long x :: st) h rc rs Q := by
  obtain ⟨hd, rfl⟩ := hd
  intro p l e s m args below meth c mc ms cells slots H locs ls D cA ad ad0 N0 C hl
  exact W.lcmp C.1.1 C.1.2.1 hd (k C hl)
theorem xr_iconst {n : Int} {v : Int32} {q9 : Nat} (hd : xd M pc (.iconst n) 1 q9) (hv : Int32.ofInt n = v) (k : xr M sc d q9 lo (.int v :: st) h rc rs Q) : xr M sc d pc lo (st) h rc rs Q := by
  obtain ⟨hd, rfl⟩ := hd
  intro p l e s m args below meth c mc ms cells slots H locs ls D cA ad ad0 N0 C hl
  exact lv_iconst C.1.1 C.1.2.1 hd hv (k C hl)
theorem xr_bipush {n : Int} {v : Int32} {q9 : Nat} (hd : xd M pc (.bipush n) 2 q9) (hv : (Int8.ofInt n).toInt32 = v) (k : xr M sc d q9 lo (.int v :: st) h rc rs Q) : xr M sc d pc lo (st) h rc rs Q := by
  obtain ⟨hd, rfl⟩ := hd
  intro p l e s m args below meth c mc ms cells slots H locs ls D cA ad ad0 N0 C hl
  exact lv_bipush C.1.1 C.1.2.1 hd hv (k C hl)
theorem xr_sipush {n : Int} {v : Int32} {q9 : Nat} (hd : xd M pc (.sipush n) 3 q9) (hv : (Int16.ofInt n).toInt32 = v) (k : xr M sc d q9 lo (.int v :: st) h rc rs Q) : xr M sc d pc lo (st) h rc rs Q := by
  obtain ⟨hd, rfl⟩ := hd
  intro p l e s m args below meth c mc ms cells slots H locs ls D cA ad ad0 N0 C hl
  exact lv_sipush C.1.1 C.1.2.1 hd hv (k C hl)
theorem xr_lconst {n : Fin 2} {v : Int64} {q9 : Nat} (hd : xd M pc (.lconst n) 1 q9) (hv : Int64.ofNat (n : Nat) = v) (k : xr M sc d q9 lo (.long v :: st) h rc rs Q) : xr M sc d pc lo (st) h rc rs Q := by
  obtain ⟨hd, rfl⟩ := hd
  intro p l e s m args below meth c mc ms cells slots H locs ls D cA ad ad0 N0 C hl
  exact lv_lconst C.1.1 C.1.2.1 hd hv (k C hl)
theorem xr_null {q9 : Nat} (hd : xd M pc (.aconst_null) 1 q9) (k : xr M sc d q9 lo (.null :: st) h rc rs Q) : xr M sc d pc lo (st) h rc rs Q := by
  obtain ⟨hd, rfl⟩ := hd
  intro p l e s m args below meth c mc ms cells slots H locs ls D cA ad ad0 N0 C hl
  exact lv_null C.1.1 C.1.2.1 hd (k C hl)
theorem xr_iload {i : Nat} {x : Int32} {q9 : Nat} (hd : xd M pc (.iload i) 2 q9) (hl0 : lo[i]? = some (some (.int x))) (k : xr M sc d q9 lo (.int x :: st) h rc rs Q) : xr M sc d pc lo (st) h rc rs Q := by
  obtain ⟨hd, rfl⟩ := hd
  intro p l e s m args below meth c mc ms cells slots H locs ls D cA ad ad0 N0 C hl
  exact lv_iload C.1.1 C.1.2.1 hd (xhas_at hl hl0) (k C hl)
theorem xr_iload_n {k9 : Fin 4} {i : Nat} {x : Int32} {q9 : Nat} (hd : xd M pc (.iload_n k9) 1 q9) (hi : (k9 : Nat) = i) (hl0 : lo[i]? = some (some (.int x))) (k : xr M sc d q9 lo (.int x :: st) h rc rs Q) : xr M sc d pc lo (st) h rc rs Q := by
  obtain ⟨hd, rfl⟩ := hd
  intro p l e s m args below meth c mc ms cells slots H locs ls D cA ad ad0 N0 C hl
  exact lv_iload_n C.1.1 C.1.2.1 hd hi (xhas_at hl hl0) (k C hl)
theorem xr_lload {i : Nat} {x : Int64} {q9 : Nat} (hd : xd M pc (.lload i) 2 q9) (hl0 : lo[i]? = some (some (.long x))) (k : xr M sc d q9 lo (.long x :: st) h rc rs Q) : xr M sc d pc lo (st) h rc rs Q := by
  obtain ⟨hd, rfl⟩ := hd
  intro p l e s m args below meth c mc ms cells slots H locs ls D cA ad ad0 N0 C hl
  exact lv_lload C.1.1 C.1.2.1 hd (xhas_at hl hl0) (k C hl)
theorem xr_lload_n {k9 : Fin 4} {i : Nat} {x : Int64} {q9 : Nat} (hd : xd M pc (.lload_n k9) 1 q9) (hi : (k9 : Nat) = i) (hl0 : lo[i]? = some (some (.long x))) (k : xr M sc d q9 lo (.long x :: st) h rc rs Q) : xr M sc d pc lo (st) h rc rs Q := by
  obtain ⟨hd, rfl⟩ := hd
  intro p l e s m args below meth c mc ms cells slots H locs ls D cA ad ad0 N0 C hl
  exact lv_lload_n C.1.1 C.1.2.1 hd hi (xhas_at hl hl0) (k C hl)
theorem xr_aload {i : Nat} {x : Nat} {q9 : Nat} (hd : xd M pc (.aload i) 2 q9) (hl0 : lo[i]? = some (some (.ref x))) (k : xr M sc d q9 lo (.ref x :: st) h rc rs Q) : xr M sc d pc lo (st) h rc rs Q := by
  obtain ⟨hd, rfl⟩ := hd
  intro p l e s m args below meth c mc ms cells slots H locs ls D cA ad ad0 N0 C hl
  exact lv_aload C.1.1 C.1.2.1 hd (xhas_at hl hl0) (k C hl)
theorem xr_aload_n {k9 : Fin 4} {i : Nat} {x : Nat} {q9 : Nat} (hd : xd M pc (.aload_n k9) 1 q9) (hi : (k9 : Nat) = i) (hl0 : lo[i]? = some (some (.ref x))) (k : xr M sc d q9 lo (.ref x :: st) h rc rs Q) : xr M sc d pc lo (st) h rc rs Q := by
  obtain ⟨hd, rfl⟩ := hd
  intro p l e s m args below meth c mc ms cells slots H locs ls D cA ad ad0 N0 C hl
  exact lv_aload_n C.1.1 C.1.2.1 hd hi (xhas_at hl hl0) (k C hl)
theorem xr_istore {i : Nat} {x : Int32} {q9 : Nat} (hd : xd M pc (.istore i) 2 q9) (hn : i < M.2.2.1) (k : xr M sc d q9 (xst lo i (.int x)) st h rc rs Q) : xr M sc d pc lo (.int x :: st) h rc rs Q := by
  obtain ⟨hd, rfl⟩ := hd
  intro p l e s m args below meth c mc ms cells slots H locs ls D cA ad ad0 N0 C hl
  exact lv_istore C.1.1 C.1.2.1 hd hl hn rfl (fun ls' hl' => k C (xhas_st hl'))
theorem xr_istore_n {k9 : Fin 4} {i : Nat} {x : Int32} {q9 : Nat} (hd : xd M pc (.istore_n k9) 1 q9) (hi : (k9 : Nat) = i) (hn : i < M.2.2.1) (k : xr M sc d q9 (xst lo i (.int x)) st h rc rs Q) : xr M sc d pc lo (.int x :: st) h rc rs Q := by
  obtain ⟨hd, rfl⟩ := hd
  intro p l e s m args below meth c mc ms cells slots H locs ls D cA ad ad0 N0 C hl
  exact lv_istore_n C.1.1 C.1.2.1 hd hi hl hn rfl (fun ls' hl' => k C (xhas_st hl'))
theorem xr_astore {i : Nat} {x : Nat} {q9 : Nat} (hd : xd M pc (.astore i) 2 q9) (hn : i < M.2.2.1) (k : xr M sc d q9 (xst lo i (.ref x)) st h rc rs Q) : xr M sc d pc lo (.ref x :: st) h rc rs Q := by
  obtain ⟨hd, rfl⟩ := hd
  intro p l e s m args below meth c mc ms cells slots H locs ls D cA ad ad0 N0 C hl
  exact lv_astore C.1.1 C.1.2.1 hd hl hn rfl (fun ls' hl' => k C (xhas_st hl'))
theorem xr_astore_n {k9 : Fin 4} {i : Nat} {x : Nat} {q9 : Nat} (hd : xd M pc (.astore_n k9) 1 q9) (hi : (k9 : Nat) = i) (hn : i < M.2.2.1) (k : xr M sc d q9 (xst lo i (.ref x)) st h rc rs Q) : xr M sc d pc lo (.ref x :: st) h rc rs Q := by
  obtain ⟨hd, rfl⟩ := hd
  intro p l e s m args below meth c mc ms cells slots H locs ls D cA ad ad0 N0 C hl
  exact lv_astore_n C.1.1 C.1.2.1 hd hi hl hn rfl (fun ls' hl' => k C (xhas_st hl'))
theorem xr_lstore {i : Nat} {x : Int64} {q9 : Nat} (hd : xd M pc (.lstore i) 2 q9) (hn : i + 1 < M.2.2.1) (k : xr M sc d q9 (xst2 lo i (.long x)) st h rc rs Q) : xr M sc d pc lo (.long x :: st) h rc rs Q := by
  obtain ⟨hd, rfl⟩ := hd
  intro p l e s m args below meth c mc ms cells slots H locs ls D cA ad ad0 N0 C hl
  exact lv_lstore C.1.1 C.1.2.1 hd hl hn rfl (fun ls' hl' => k C (xhas_st2 hl'))
theorem xr_lstore_n {k9 : Fin 4} {i : Nat} {x : Int64} {q9 : Nat} (hd : xd M pc (.lstore_n k9) 1 q9) (hi : (k9 : Nat) = i) (hn : i + 1 < M.2.2.1) (k : xr M sc d q9 (xst2 lo i (.long x)) st h rc rs Q) : xr M sc d pc lo (.long x :: st) h rc rs Q := by
  obtain ⟨hd, rfl⟩ := hd
  intro p l e s m args below meth c mc ms cells slots H locs ls D cA ad ad0 N0 C hl
  exact lv_lstore_n C.1.1 C.1.2.1 hd hi hl hn rfl (fun ls' hl' => k C (xhas_st2 hl'))
theorem xlv_idx {ad : Nat → Nat} {lo : xL} {i : Nat} {v : Value} (h : lo[i]? = some (some v)) : ∃ k : Nat, (xlv ad lo)[k]? = some (i, xv ad v) := List.mem_iff_getElem?.mp (xlv_mem.mpr ⟨v, h, rfl⟩)
theorem xr_iinc {i : Nat} {n : Int} {x c9 : Int32} {q9 : Nat} (hd : xd M pc (.iinc i n) 3 q9) (hc : Int32.ofInt n = c9) (hl0 : lo[i]? = some (some (.int x))) (hn : i < M.2.2.1) (k : xr M sc d q9 (xst lo i (.int (x + c9))) st h rc rs Q) : xr M sc d pc lo st h rc rs Q := by
  obtain ⟨hd, rfl⟩ := hd
  subst hc
  intro p l e s m args below meth c mc ms cells slots H locs ls D cA ad ad0 N0 C hl
  obtain ⟨k9, hk9⟩ := xlv_idx (ad := ad) hl0
  exact lv_iinc C.1.1 C.1.2.1 hd hl hk9 rfl hn rfl (fun ls' hl' => k C (xhas_st (v := .int (x + Int32.ofInt n)) hl'))
theorem xr_dup {v : Value} {q9 : Nat} (hd : xd M pc (.dup) 1 q9) (hv : v.category = 1) (k : xr M sc d q9 lo (v :: v :: st) h rc rs Q) : xr M sc d pc lo (v :: st) h rc rs Q := by
  obtain ⟨hd, rfl⟩ := hd
  intro p l e s m args below meth c mc ms cells slots H locs ls D cA ad ad0 N0 C hl
  exact lv_dup C.1.1 C.1.2.1 hd ((xv_cat ad v).trans hv) (k C hl)
theorem xr_dup2_11 {v w : Value} {q9 : Nat} (hd : xd M pc (.dup2) 1 q9) (hv : v.category = 1) (hw : w.category = 1) (k : xr M sc d q9 lo (v :: w :: v :: w :: st) h rc rs Q) : xr M sc d pc lo (v :: w :: st) h rc rs Q := by
  obtain ⟨hd, rfl⟩ := hd
  intro p l e s m args below meth c mc ms cells slots H locs ls D cA ad ad0 N0 C hl
  exact lv_dup2_11 C.1.1 C.1.2.1 hd ((xv_cat ad v).trans hv) ((xv_cat ad w).trans hw) (k C hl)
theorem xr_dup_x1 {v w : Value} {q9 : Nat} (hd : xd M pc (.dup_x1) 1 q9) (hv : v.category = 1) (hw : w.category = 1) (k : xr M sc d q9 lo (v :: w :: v :: st) h rc rs Q) : xr M sc d pc lo (v :: w :: st) h rc rs Q := by
  obtain ⟨hd, rfl⟩ := hd
  intro p l e s m args below meth c mc ms cells slots H locs ls D cA ad ad0 N0 C hl
  exact lv_dup_x1 C.1.1 C.1.2.1 hd ((xv_cat ad v).trans hv) ((xv_cat ad w).trans hw) (k C hl)
theorem xr_dup_x2 {v w z : Value} {q9 : Nat} (hd : xd M pc (.dup_x2) 1 q9) (hv : v.category = 1) (hw : w.category = 1) (hz : z.category = 1) (k : xr M sc d q9 lo (v :: w :: z :: v :: st) h rc rs Q) : xr M sc d pc lo (v :: w :: z :: st) h rc rs Q := by
  obtain ⟨hd, rfl⟩ := hd
  intro p l e s m args below meth c mc ms cells slots H locs ls D cA ad ad0 N0 C hl
  exact lv_dup_x2 C.1.1 C.1.2.1 hd ((xv_cat ad v).trans hv) ((xv_cat ad w).trans hw) ((xv_cat ad z).trans hz) (k C hl)
theorem xr_pop {v : Value} {q9 : Nat} (hd : xd M pc (.pop) 1 q9) (hv : v.category = 1) (k : xr M sc d q9 lo st h rc rs Q) : xr M sc d pc lo (v :: st) h rc rs Q := by
  obtain ⟨hd, rfl⟩ := hd
  intro p l e s m args below meth c mc ms cells slots H locs ls D cA ad ad0 N0 C hl
  exact lv_pop C.1.1 C.1.2.1 hd ((xv_cat ad v).trans hv) (k C hl)
theorem xr_if_eq {x : Int32} {off : Int} {tgt : Nat} {q9 : Nat} (hd : xd M pc (.ifCond .eq off) 3 q9) (ht : (pc : Int) + off = (tgt : Int)) (kt : x = 0 → xr M sc d tgt lo st h rc rs Q) (kf : ¬ x = 0 → xr M sc d q9 lo st h rc rs Q) : xr M sc d pc lo (.int x :: st) h rc rs Q := by
  obtain ⟨hd, rfl⟩ := hd
  intro p l e s m args below meth c mc ms cells slots H locs ls D cA ad ad0 N0 C hl
  exact lv_if_eq C.1.1 C.1.2.1 hd ht (fun q => kt q C hl) (fun q => kf q C hl)
theorem xr_icmp_eq {x y : Int32} {off : Int} {tgt : Nat} {q9 : Nat} (hd : xd M pc (.if_icmp .eq off) 3 q9) (ht : (pc : Int) + off = (tgt : Int)) (kt : x = y → xr M sc d tgt lo st h rc rs Q) (kf : ¬ x = y → xr M sc d q9 lo st h rc rs Q) : xr M sc d pc lo (.int y :: .int x :: st) h rc rs Q := by
  obtain ⟨hd, rfl⟩ := hd
  intro p l e s m args below meth c mc ms cells slots H locs ls D cA ad ad0 N0 C hl
  exact lv_icmp_eq C.1.1 C.1.2.1 hd ht (fun q => kt q C hl) (fun q => kf q C hl)
theorem xr_if_ne {x : Int32} {off : Int} {tgt : Nat} {q9 : Nat} (hd : xd M pc (.ifCond .ne off) 3 q9) (ht : (pc : Int) + off = (tgt : Int)) (kt : ¬ x = 0 → xr M sc d tgt lo st h rc rs Q) (kf : x = 0 → xr M sc d q9 lo st h rc rs Q) : xr M sc d pc lo (.int x :: st) h rc rs Q := by
  obtain ⟨hd, rfl⟩ := hd
  intro p l e s m args below meth c mc ms cells slots H locs ls D cA ad ad0 N0 C hl
  exact lv_if_ne C.1.1 C.1.2.1 hd ht (fun q => kt q C hl) (fun q => kf q C hl)
theorem xr_icmp_ne {x y : Int32} {off : Int} {tgt : Nat} {q9 : Nat} (hd : xd M pc (.if_icmp .ne off) 3 q9) (ht : (pc : Int) + off = (tgt : Int)) (kt : ¬ x = y → xr M sc d tgt lo st h rc rs Q) (kf : x = y → xr M sc d q9 lo st h rc rs Q) : xr M sc d pc lo (.int y :: .int x :: st) h rc rs Q := by
  obtain ⟨hd, rfl⟩ := hd
  intro p l e s m args below meth c mc ms cells slots H locs ls D cA ad ad0 N0 C hl
  exact lv_icmp_ne C.1.1 C.1.2.1 hd ht (fun q => kt q C hl) (fun q => kf q C hl)
theorem xr_if_lt {x : Int32} {off : Int} {tgt : Nat} {q9 : Nat} (hd : xd M pc (.ifCond .lt off) 3 q9) (ht : (pc : Int) + off = (tgt : Int)) (kt : x < 0 → xr M sc d tgt lo st h rc rs Q) (kf : ¬ x < 0 → xr M sc d q9 lo st h rc rs Q) : xr M sc d pc lo (.int x :: st) h rc rs Q := by
  obtain ⟨hd, rfl⟩ := hd
  intro p l e s m args below meth c mc ms cells slots H locs ls D cA ad ad0 N0 C hl
  exact lv_if_lt C.1.1 C.1.2.1 hd ht (fun q => kt q C hl) (fun q => kf q C hl)
theorem xr_icmp_lt {x y : Int32} {off : Int} {tgt : Nat} {q9 : Nat} (hd : xd M pc (.if_icmp .lt off) 3 q9) (ht : (pc : Int) + off = (tgt : Int)) (kt : x < y → xr M sc d tgt lo st h rc rs Q) (kf : ¬ x < y → xr M sc d q9 lo st h rc rs Q) : xr M sc d pc lo (.int y :: .int x :: st) h rc rs Q := by
  obtain ⟨hd, rfl⟩ := hd
  intro p l e s m args below meth c mc ms cells slots H locs ls D cA ad ad0 N0 C hl
  exact lv_icmp_lt C.1.1 C.1.2.1 hd ht (fun q => kt q C hl) (fun q => kf q C hl)
theorem xr_if_ge {x : Int32} {off : Int} {tgt : Nat} {q9 : Nat} (hd : xd M pc (.ifCond .ge off) 3 q9) (ht : (pc : Int) + off = (tgt : Int)) (kt : 0 ≤ x → xr M sc d tgt lo st h rc rs Q) (kf : ¬ 0 ≤ x → xr M sc d q9 lo st h rc rs Q) : xr M sc d pc lo (.int x :: st) h rc rs Q := by
  obtain ⟨hd, rfl⟩ := hd
  intro p l e s m args below meth c mc ms cells slots H locs ls D cA ad ad0 N0 C hl
  exact lv_if_ge C.1.1 C.1.2.1 hd ht (fun q => kt q C hl) (fun q => kf q C hl)
theorem xr_icmp_ge {x y : Int32} {off : Int} {tgt : Nat} {q9 : Nat} (hd : xd M pc (.if_icmp .ge off) 3 q9) (ht : (pc : Int) + off = (tgt : Int)) (kt : y ≤ x → xr M sc d tgt lo st h rc rs Q) (kf : ¬ y ≤ x → xr M sc d q9 lo st h rc rs Q) : xr M sc d pc lo (.int y :: .int x :: st) h rc rs Q := by
  obtain ⟨hd, rfl⟩ := hd
  intro p l e s m args below meth c mc ms cells slots H locs ls D cA ad ad0 N0 C hl
  exact lv_icmp_ge C.1.1 C.1.2.1 hd ht (fun q => kt q C hl) (fun q => kf q C hl)
theorem xr_if_gt {x : Int32} {off : Int} {tgt : Nat} {q9 : Nat} (hd : xd M pc (.ifCond .gt off) 3 q9) (ht : (pc : Int) + off = (tgt : Int)) (kt : 0 < x → xr M sc d tgt lo st h rc rs Q) (kf : ¬ 0 < x → xr M sc d q9 lo st h rc rs Q) : xr M sc d pc lo (.int x :: st) h rc rs Q := by
  obtain ⟨hd, rfl⟩ := hd
  intro p l e s m args below meth c mc ms cells slots H locs ls D cA ad ad0 N0 C hl
  exact lv_if_gt C.1.1 C.1.2.1 hd ht (fun q => kt q C hl) (fun q => kf q C hl)
theorem xr_icmp_gt {x y : Int32} {off : Int} {tgt : Nat} {q9 : Nat} (hd : xd M pc (.if_icmp .gt off) 3 q9) (ht : (pc : Int) + off = (tgt : Int)) (kt : y < x → xr M sc d tgt lo st h rc rs Q) (kf : ¬ y < x → xr M sc d q9 lo st h rc rs Q) : xr M sc d pc lo (.int y :: .int x :: st) h rc rs Q := by
  obtain ⟨hd, rfl⟩ := hd
  intro p l e s m args below meth c mc ms cells slots H locs ls D cA ad ad0 N0 C hl
  exact lv_icmp_gt C.1.1 C.1.2.1 hd ht (fun q => kt q C hl) (fun q => kf q C hl)
theorem xr_if_le {x : Int32} {off : Int} {tgt : Nat} {q9 : Nat} (hd : xd M pc (.ifCond .le off) 3 q9) (ht : (pc : Int) + off = (tgt : Int)) (kt : x ≤ 0 → xr M sc d tgt lo st h rc rs Q) (kf : ¬ x ≤ 0 → xr M sc d q9 lo st h rc rs Q) : xr M sc d pc lo (.int x :: st) h rc rs Q := by
  obtain ⟨hd, rfl⟩ := hd
  intro p l e s m args below meth c mc ms cells slots H locs ls D cA ad ad0 N0 C hl
  exact lv_if_le C.1.1 C.1.2.1 hd ht (fun q => kt q C hl) (fun q => kf q C hl)
theorem xr_icmp_le {x y : Int32} {off : Int} {tgt : Nat} {q9 : Nat} (hd : xd M pc (.if_icmp .le off) 3 q9) (ht : (pc : Int) + off = (tgt : Int)) (kt : x ≤ y → xr M sc d tgt lo st h rc rs Q) (kf : ¬ x ≤ y → xr M sc d q9 lo st h rc rs Q) : xr M sc d pc lo (.int y :: .int x :: st) h rc rs Q := by
  obtain ⟨hd, rfl⟩ := hd
  intro p l e s m args below meth c mc ms cells slots H locs ls D cA ad ad0 N0 C hl
  exact lv_icmp_le C.1.1 C.1.2.1 hd ht (fun q => kt q C hl) (fun q => kf q C hl)
theorem xr_goto {off : Int} {tgt : Nat} {q9 : Nat} (hd : xd M pc (.goto off) 3 q9) (ht : (pc : Int) + off = (tgt : Int)) (k : xr M sc d tgt lo st h rc rs Q) : xr M sc d pc lo st h rc rs Q := by
  obtain ⟨hd, rfl⟩ := hd
  intro p l e s m args below meth c mc ms cells slots H locs ls D cA ad ad0 N0 C hl
  exact lv_goto C.1.1 C.1.2.1 hd ht (k C hl)
theorem xr_tableOut {dflt lw hi : Int} {offs : Array Int} {len : Nat} {x : Int32} {tgt : Nat} {q9 : Nat} (hd : xd M pc (.tableswitch dflt lw hi offs) len q9) (hx : x.toInt < lw ∨ hi < x.toInt) (ht : (pc : Int) + dflt = (tgt : Int)) (k : xr M sc d tgt lo st h rc rs Q) : xr M sc d pc lo (.int x :: st) h rc rs Q := by
  obtain ⟨hd, rfl⟩ := hd
  intro p l e s m args below meth c mc ms cells slots H locs ls D cA ad ad0 N0 C hl
  exact lv_tableOut C.1.1 C.1.2.1 hd hx ht (k C hl)
theorem xr_tableIn {dflt lw hi : Int} {offs : Array Int} {len : Nat} {x : Int32} {off : Int} {tgt : Nat} {q9 : Nat} (hd : xd M pc (.tableswitch dflt lw hi offs) len q9) (h1 : ¬ x.toInt < lw) (h2 : ¬ hi < x.toInt) (ho : offs[(x.toInt - lw).toNat]? = some off) (ht : (pc : Int) + off = (tgt : Int)) (k : xr M sc d tgt lo st h rc rs Q) : xr M sc d pc lo (.int x :: st) h rc rs Q := by
  obtain ⟨hd, rfl⟩ := hd
  intro p l e s m args below meth c mc ms cells slots H locs ls D cA ad ad0 N0 C hl
  exact lv_tableIn C.1.1 C.1.2.1 hd h1 h2 ho ht (k C hl)
theorem xr_lookup {dflt : Int} {ps : Array (Int × Int)} {len : Nat} {x : Int32} {off : Int} {tgt : Nat} {q9 : Nat} (hd : xd M pc (.lookupswitch dflt ps) len q9) (hp : (ps.toList.zip (ps.toList.drop 1)).all (fun (a, next) => a.1 < next.1) = true) (ho : Op.lookupswitch.offset ps.toList dflt x.toInt = off) (ht : (pc : Int) + off = (tgt : Int)) (k : xr M sc d tgt lo st h rc rs Q) : xr M sc d pc lo (.int x :: st) h rc rs Q := by
  obtain ⟨hd, rfl⟩ := hd
  intro p l e s m args below meth c mc ms cells slots H locs ls D cA ad ad0 N0 C hl
  exact lv_lookup C.1.1 C.1.2.1 hd hp ho ht (k C hl)
end XR
end
section
def xfl (own : String) (idx ci k : Nat) : Prop := ∃ (C : String) (T : u_T) (N : Nat), vwCl[ci]? = some (C, T, N) ∧ k < N ∧ (∀ w ∈ u_ws C T N, w ∈ xtb) ∧
  (Cond.fieldLink own idx (T k).1 (T k).2.1 (T k).2.2.1 ∈ xtb ∨ ∃ host, Cond.fieldLinkNest own idx (T k).1 (T k).2.1 (T k).2.2.1 host ∈ xnest)
def xft (ci : Nat) (ty0 : Nat → FieldType) : Prop := ∃ (C : String) (T : u_T) (N : Nat), vwCl[ci]? = some (C, T, N) ∧ (∀ k, k < N → parseFieldDescriptor (T k).2.2.1 = some (ty0 k)) ∧ (∀ a, a < N → ∀ b, b < N → a ≠ b → (T a).2.1 ≠ (T b).2.1)
def xfin (ci k : Nat) (b : Bool) : Prop := ∃ (C : String) (T : u_T) (N : Nat), vwCl[ci]? = some (C, T, N) ∧ (T k).2.2.2 = b ∧ (T k).1 = C
theorem xv_narrow {ad : Nat → Nat} {ty : FieldType} {v : Value} (h : narrow ty v = v) : narrow ty (xv ad v) = xv ad v := by
  cases v with
  | ref k => cases ty <;> rfl
  | _ => exact h
theorem xv_fits {ad : Nat → Nat} {ty : FieldType} {v : Value} (h : fits ty v = true) : fits ty (xv ad v) = true := by
  cases v with
  | ref k => cases ty <;> first | rfl | exact h
  | _ => exact h
section XH
variable {M : xM} {sc : xSc} {d : Nat × Nat} {pc : Nat} {lo : xL} {st : List Value} {h : List xC} {rc rs : Nat} {Q : xO → Prop}
theorem xr_getf {idx ci k a : Nat} {fs : List Value} {v : Value} (hf : xfl M.1.cls idx ci k) {q9 : Nat} (hd : xd M pc (.getfield idx) 3 q9) (ha : h[a]? = some (.inl (ci, fs))) (hv : fs[k]? = some v)
    (kk : xr M sc d q9 lo (v :: st) h rc rs Q) : xr M sc d pc lo (.ref a :: st) h rc rs Q := by
  obtain ⟨hd, rfl⟩ := hd
  intro p l e s m args below meth c mc ms cells slots H locs ls D cA ad ad0 N0 C hl
  obtain ⟨C1, T, N, hc, hk, hin, hlk⟩ := hf
  have hk2 := kk C hl (below := below)
  obtain ⟨⟨hx, hb, hml, hr, hlo, hown, hnm, htb, hll⟩, hts, hF, hcs, hK, hN, hP, hD, hS⟩ := C
  have hat := xw_at (cA := cA) (ad := ad) ha
  have hv2 : (fs.map (xv ad))[k]? = some (xv ad v) := by rw [List.getElem?_map, hv]; rfl
  rcases hlk with hlk | ⟨host, hlk⟩
  · exact va_get (D := D) (ci := ci) (v := xv ad v) (C := C1) (T := T) (N := N) hx hb hts hin hown hK hP a hat hc k hk (hts _ hlk) (fun _ h9 => h9) hv2 hd hk2
  · exact va_getN (D := D) (ci := ci) (v := xv ad v) (C := C1) (T := T) (N := N) hx hb hts hin hown hK hP a hat hc k hk (va_Nw.use rfl (hF.1 _ hlk)) (fun _ h9 => h9) hv2 hd hk2
theorem xr_putf {idx ci k a : Nat} {fs : List Value} {v : Value} {h' : List xC} {ty0 : Nat → FieldType} (hf : xfl M.1.cls idx ci k) (hty : xft ci ty0) (hfin : xfin ci k false) {q9 : Nat} (hd : xd M pc (.putfield idx) 3 q9) (ha : h[a]? = some (.inl (ci, fs))) (hl0 : k < fs.length)
    (hn : narrow (ty0 k) v = v) (hfit : fits (ty0 k) v = true) (hh : h.set a (.inl (ci, fs.set k v)) = h')
    (kk : xr M sc d q9 lo st h' rc rs Q) : xr M sc d pc lo (v :: .ref a :: st) h rc rs Q := by
  obtain ⟨hd, rfl⟩ := hd
  intro p l e s m args below meth c mc ms cells slots H locs ls D cA ad ad0 N0 C hl
  subst hh
  obtain ⟨C1, T, N, hc, hk, hin, hlk⟩ := hf
  obtain ⟨C2, T2, N2, hc2, ht1, ht2⟩ := hty
  cases Option.some.inj (hc.symm.trans hc2)
  obtain ⟨C3, T3, N3, hc3, ht3, -⟩ := hfin
  cases Option.some.inj (hc.symm.trans hc3)
  obtain ⟨⟨hx, hb, hml, hr, hlo, hown, hnm, htb, hll⟩, hts, hF, hcs, hK, hN, hP, hD, hS⟩ := C
  have hat := xw_at (cA := cA) (ad := ad) ha
  have hset : (xw cA ad h).set a (ad a, .inr (ci, (fs.map (xv ad)).set k (xv ad v))) = xw cA ad (h.set a (.inl (ci, fs.set k v))) := by
    rw [← xw_set]
    show _ = (xw cA ad h).set a (ad a, .inr (ci, (fs.set k v).map (xv ad)))
    rw [List.map_set]
  have key : ∀ (H1 : Heap) (locs1 : List Loc), va_P D vwCl ((xw cA ad h).set a (ad a, .inr (ci, (fs.map (xv ad)).set k (xv ad v)))) H1 → va_D (xA ad0 N0 s.heap.size) ((xw cA ad h).set a (ad a, .inr (ci, (fs.map (xv ad)).set k (xv ad v)))) → va_S (xA ad0 N0 s.heap.size) s.heap H1 locs1 → W p l e (xrm d mc ms) s m args below meth c H1 locs1 cells slots (xQ below D cA ad0 N0 Q s mc ms) (F0 m (pc + 3) ls (st.map (xv ad))) := by
    intro H1 locs1 hP1 hD1 hS1
    rw [hset] at hP1 hD1
    exact kk ⟨⟨hx, hb, hml, hr, hlo, hown, hnm, htb, hll⟩, hts, hF, hcs, hK, by rw [List.length_set]; exact hN, hP1, hD1, hS1⟩ hl
  have hlen : k < (fs.map (xv ad)).length := by rw [List.length_map]; exact hl0
  rcases hlk with hlk | ⟨host, hlk⟩
  · exact va_put (D := D) (ci := ci) (v := xv ad v) (C := C1) (T := T) (N := N) hx hb hts hin ty0 ht1 ht2 hown hK hP hD hS a hat hc k hk (hts _ hlk) (fun _ h9 => h9) ht3 (ht1 k hk) (xv_narrow hn) (xv_fits hfit) hlen hd key
  · exact va_putN (D := D) (ci := ci) (v := xv ad v) (C := C1) (T := T) (N := N) hx hb hts hin ty0 ht1 ht2 hown hK hP hD hS a hat hc k hk (va_Nw.use rfl (hF.1 _ hlk)) (fun _ h9 => h9) ht3 (ht1 k hk) (xv_narrow hn) (xv_fits hfit) hlen hd key
theorem xr_putF {idx ci k a : Nat} {fs : List Value} {v : Value} {h' : List xC} {ty0 : Nat → FieldType} (hf : xfl M.1.cls idx ci k) (hty : xft ci ty0) (hfin : xfin ci k true) (hcl : ∃ (T : u_T) (N : Nat), vwCl[ci]? = some (M.1.cls, T, N)) (hnn : M.1.name = "<init>") (hlf : ∃ (C : String) (T : u_T) (N : Nat), vwCl[ci]? = some (C, T, N) ∧ Cond.fieldLink M.1.cls idx (T k).1 (T k).2.1 (T k).2.2.1 ∈ xtb) {q9 : Nat} (hd : xd M pc (.putfield idx) 3 q9) (ha : h[a]? = some (.inl (ci, fs))) (hl0 : k < fs.length)
    (hn : narrow (ty0 k) v = v) (hfit : fits (ty0 k) v = true) (hh : h.set a (.inl (ci, fs.set k v)) = h')
    (kk : xr M sc d q9 lo st h' rc rs Q) : xr M sc d pc lo (v :: .ref a :: st) h rc rs Q := by
  obtain ⟨hd, rfl⟩ := hd
  intro p l e s m args below meth c mc ms cells slots H locs ls D cA ad ad0 N0 C hl
  subst hh
  obtain ⟨C1, T, N, hc, hk, hin, -⟩ := hf
  obtain ⟨C2, T2, N2, hc2, ht1, ht2⟩ := hty
  cases Option.some.inj (hc.symm.trans hc2)
  obtain ⟨C3, T3, N3, hc3, ht3, ht4⟩ := hfin
  cases Option.some.inj (hc.symm.trans hc3)
  obtain ⟨T4, N4, hc4⟩ := hcl
  obtain ⟨C5, T5, N5, hc5, hlk⟩ := hlf
  cases Option.some.inj (hc.symm.trans hc5)
  have hC1 : C1 = M.1.cls := congrArg Prod.fst (Option.some.inj (hc.symm.trans hc4))
  obtain ⟨⟨hx, hb, hml, hr, hlo, hown, hnm, htb, hll⟩, hts, hF, hcs, hK, hN, hP, hD, hS⟩ := C
  have hat := xw_at (cA := cA) (ad := ad) ha
  have hset : (xw cA ad h).set a (ad a, .inr (ci, (fs.map (xv ad)).set k (xv ad v))) = xw cA ad (h.set a (.inl (ci, fs.set k v))) := by
    rw [← xw_set]
    show _ = (xw cA ad h).set a (ad a, .inr (ci, (fs.set k v).map (xv ad)))
    rw [List.map_set]
  have key : ∀ (H1 : Heap) (locs1 : List Loc), va_P D vwCl ((xw cA ad h).set a (ad a, .inr (ci, (fs.map (xv ad)).set k (xv ad v)))) H1 → va_D (xA ad0 N0 s.heap.size) ((xw cA ad h).set a (ad a, .inr (ci, (fs.map (xv ad)).set k (xv ad v)))) → va_S (xA ad0 N0 s.heap.size) s.heap H1 locs1 → W p l e (xrm d mc ms) s m args below meth c H1 locs1 cells slots (xQ below D cA ad0 N0 Q s mc ms) (F0 m (pc + 3) ls (st.map (xv ad))) := by
    intro H1 locs1 hP1 hD1 hS1
    rw [hset] at hP1 hD1
    exact kk ⟨⟨hx, hb, hml, hr, hlo, hown, hnm, htb, hll⟩, hts, hF, hcs, hK, by rw [List.length_set]; exact hN, hP1, hD1, hS1⟩ hl
  have hlen : k < (fs.map (xv ad)).length := by rw [List.length_map]; exact hl0
  exact va_putF (D := D) (ci := ci) (v := xv ad v) (C := C1) (T := T) (N := N) hx hb hts hin ty0 ht1 ht2 hown hK hP hD hS a hat hc k hk (hts _ hlk) (fun _ h9 => h9) ht3 (hnm.trans hnn) (ht4.trans hC1) (ht1 k hk) (xv_narrow hn) (xv_fits hfit) hlen hd key
def xti (ty : FieldType) : Nat := match ty with
  | .int => 0
  | .byte => 1
  | .boolean => 2
  | _ => 3
def xtok (ty : FieldType) : Prop := ty = .int ∨ ty = .byte ∨ ty = .boolean ∨ ty = .long
theorem xt_at {cA : FieldType → ClassId} {ty : FieldType} (h : xtok ty) : (xT cA)[xti ty]? = some (cA ty, ty) := by
  rcases h with rfl | rfl | rfl | rfl <;> rfl
theorem xr_iald {a n : Nat} {f : Nat → Int32} {i : Int32} {q9 : Nat} (hd : xd M pc (.iaload) 1 q9) (ha : h[a]? = some (.inr (.int, n, .inl f))) (hin : vp_in i n)
    (kk : xr M sc d q9 lo (.int (f i.toNatClampNeg) :: st) h rc rs Q) : xr M sc d pc lo (.int i :: .ref a :: st) h rc rs Q := by
  obtain ⟨hd, rfl⟩ := hd
  intro p l e s m args below meth c mc ms cells slots H locs ls D cA ad ad0 N0 C hl
  have hk2 := kk C hl (below := below)
  obtain ⟨⟨hx, hb, hml, hr, hlo, hown, hnm, htb, hll⟩, hts, hF, hcs, hK, hN, hP, hD, hS⟩ := C
  exact va_iald hx hb hK hP a (xti .int) (xw_at (cA := cA) (ad := ad) ha) rfl hin hd hk2
theorem xr_bald {a n : Nat} {f : Nat → Int32} {i : Int32} {q9 : Nat} (hd : xd M pc (.baload) 1 q9) (ha : h[a]? = some (.inr (.byte, n, .inl f))) (hin : vp_in i n)
    (kk : xr M sc d q9 lo (.int (f i.toNatClampNeg) :: st) h rc rs Q) : xr M sc d pc lo (.int i :: .ref a :: st) h rc rs Q := by
  obtain ⟨hd, rfl⟩ := hd
  intro p l e s m args below meth c mc ms cells slots H locs ls D cA ad ad0 N0 C hl
  have hk2 := kk C hl (below := below)
  obtain ⟨⟨hx, hb, hml, hr, hlo, hown, hnm, htb, hll⟩, hts, hF, hcs, hK, hN, hP, hD, hS⟩ := C
  exact va_bald hx hb hK hP a (xti .byte) (xw_at (cA := cA) (ad := ad) ha) rfl hin hd hk2
theorem xr_zald {a n : Nat} {f : Nat → Int32} {i : Int32} {q9 : Nat} (hd : xd M pc (.baload) 1 q9) (ha : h[a]? = some (.inr (.boolean, n, .inl f))) (hin : vp_in i n)
    (kk : xr M sc d q9 lo (.int (f i.toNatClampNeg) :: st) h rc rs Q) : xr M sc d pc lo (.int i :: .ref a :: st) h rc rs Q := by
  obtain ⟨hd, rfl⟩ := hd
  intro p l e s m args below meth c mc ms cells slots H locs ls D cA ad ad0 N0 C hl
  have hk2 := kk C hl (below := below)
  obtain ⟨⟨hx, hb, hml, hr, hlo, hown, hnm, htb, hll⟩, hts, hF, hcs, hK, hN, hP, hD, hS⟩ := C
  exact va_zald hx hb hK hP a (xti .boolean) (xw_at (cA := cA) (ad := ad) ha) rfl hin hd hk2
theorem xr_lald {a n : Nat} {f : Nat → Int64} {i : Int32} {q9 : Nat} (hd : xd M pc (.laload) 1 q9) (ha : h[a]? = some (.inr (.long, n, .inr (.inl f)))) (hin : vp_in i n)
    (kk : xr M sc d q9 lo (.long (f i.toNatClampNeg) :: st) h rc rs Q) : xr M sc d pc lo (.int i :: .ref a :: st) h rc rs Q := by
  obtain ⟨hd, rfl⟩ := hd
  intro p l e s m args below meth c mc ms cells slots H locs ls D cA ad ad0 N0 C hl
  have hk2 := kk C hl (below := below)
  obtain ⟨⟨hx, hb, hml, hr, hlo, hown, hnm, htb, hll⟩, hts, hF, hcs, hK, hN, hP, hD, hS⟩ := C
  exact va_lald hx hb hK hP a (xti .long) (xw_at (cA := cA) (ad := ad) ha) rfl hin hd hk2
theorem xr_iast {a n : Nat} {f : Nat → Int32} {i : Int32} {x : Int32} {h' : List xC} {q9 : Nat} (hd : xd M pc (.iastore) 1 q9) (ha : h[a]? = some (.inr (.int, n, .inl f))) (hin : vp_in i n) (hh : h.set a (.inr (.int, n, .inl (upd f i.toNatClampNeg x))) = h')
    (kk : xr M sc d q9 lo st h' rc rs Q) : xr M sc d pc lo (.int x :: .int i :: .ref a :: st) h rc rs Q := by
  obtain ⟨hd, rfl⟩ := hd
  intro p l e s m args below meth c mc ms cells slots H locs ls D cA ad ad0 N0 C hl
  subst hh
  obtain ⟨⟨hx, hb, hml, hr, hlo, hown, hnm, htb, hll⟩, hts, hF, hcs, hK, hN, hP, hD, hS⟩ := C
  refine va_iast hx hb hK hP hD hS a (xti .int) (xw_at (cA := cA) (ad := ad) ha) rfl hin hd (fun H1 locs1 hP1 hD1 hS1 => ?_)
  have hset : (xw cA ad h).set a (ad a, .inl (cA .int, n, .inl (upd f i.toNatClampNeg x))) = xw cA ad (h.set a (.inr (.int, n, .inl (upd f i.toNatClampNeg x)))) := xw_set (c := (.inr (.int, n, .inl (upd f i.toNatClampNeg x))))
  rw [hset] at hP1 hD1
  exact kk ⟨⟨hx, hb, hml, hr, hlo, hown, hnm, htb, hll⟩, hts, hF, hcs, hK, by rw [List.length_set]; exact hN, hP1, hD1, hS1⟩ hl
theorem xr_bast {a n : Nat} {f : Nat → Int32} {i : Int32} {x : Int32} {h' : List xC} {q9 : Nat} (hd : xd M pc (.bastore) 1 q9) (ha : h[a]? = some (.inr (.byte, n, .inl f))) (hin : vp_in i n) (hh : h.set a (.inr (.byte, n, .inl (upd f i.toNatClampNeg (vp_nar .byte x)))) = h')
    (kk : xr M sc d q9 lo st h' rc rs Q) : xr M sc d pc lo (.int x :: .int i :: .ref a :: st) h rc rs Q := by
  obtain ⟨hd, rfl⟩ := hd
  intro p l e s m args below meth c mc ms cells slots H locs ls D cA ad ad0 N0 C hl
  subst hh
  obtain ⟨⟨hx, hb, hml, hr, hlo, hown, hnm, htb, hll⟩, hts, hF, hcs, hK, hN, hP, hD, hS⟩ := C
  refine va_bast hx hb hK hP hD hS a (xti .byte) (xw_at (cA := cA) (ad := ad) ha) rfl hin hd (fun H1 locs1 hP1 hD1 hS1 => ?_)
  have hset : (xw cA ad h).set a (ad a, .inl (cA .byte, n, .inl (upd f i.toNatClampNeg (vp_nar .byte x)))) = xw cA ad (h.set a (.inr (.byte, n, .inl (upd f i.toNatClampNeg (vp_nar .byte x))))) := xw_set (c := (.inr (.byte, n, .inl (upd f i.toNatClampNeg (vp_nar .byte x)))))
  rw [hset] at hP1 hD1
  exact kk ⟨⟨hx, hb, hml, hr, hlo, hown, hnm, htb, hll⟩, hts, hF, hcs, hK, by rw [List.length_set]; exact hN, hP1, hD1, hS1⟩ hl
theorem xr_zast {a n : Nat} {f : Nat → Int32} {i : Int32} {x : Int32} {h' : List xC} {q9 : Nat} (hd : xd M pc (.bastore) 1 q9) (ha : h[a]? = some (.inr (.boolean, n, .inl f))) (hin : vp_in i n) (hh : h.set a (.inr (.boolean, n, .inl (upd f i.toNatClampNeg (vp_nar .boolean x)))) = h')
    (kk : xr M sc d q9 lo st h' rc rs Q) : xr M sc d pc lo (.int x :: .int i :: .ref a :: st) h rc rs Q := by
  obtain ⟨hd, rfl⟩ := hd
  intro p l e s m args below meth c mc ms cells slots H locs ls D cA ad ad0 N0 C hl
  subst hh
  obtain ⟨⟨hx, hb, hml, hr, hlo, hown, hnm, htb, hll⟩, hts, hF, hcs, hK, hN, hP, hD, hS⟩ := C
  refine va_zast hx hb hK hP hD hS a (xti .boolean) (xw_at (cA := cA) (ad := ad) ha) rfl hin hd (fun H1 locs1 hP1 hD1 hS1 => ?_)
  have hset : (xw cA ad h).set a (ad a, .inl (cA .boolean, n, .inl (upd f i.toNatClampNeg (vp_nar .boolean x)))) = xw cA ad (h.set a (.inr (.boolean, n, .inl (upd f i.toNatClampNeg (vp_nar .boolean x))))) := xw_set (c := (.inr (.boolean, n, .inl (upd f i.toNatClampNeg (vp_nar .boolean x)))))
  rw [hset] at hP1 hD1
  exact kk ⟨⟨hx, hb, hml, hr, hlo, hown, hnm, htb, hll⟩, hts, hF, hcs, hK, by rw [List.length_set]; exact hN, hP1, hD1, hS1⟩ hl
theorem xr_last {a n : Nat} {f : Nat → Int64} {i : Int32} {x : Int64} {h' : List xC} {q9 : Nat} (hd : xd M pc (.lastore) 1 q9) (ha : h[a]? = some (.inr (.long, n, .inr (.inl f)))) (hin : vp_in i n) (hh : h.set a (.inr (.long, n, .inr (.inl (vp_updL f i.toNatClampNeg x)))) = h')
    (kk : xr M sc d q9 lo st h' rc rs Q) : xr M sc d pc lo (.long x :: .int i :: .ref a :: st) h rc rs Q := by
  obtain ⟨hd, rfl⟩ := hd
  intro p l e s m args below meth c mc ms cells slots H locs ls D cA ad ad0 N0 C hl
  subst hh
  obtain ⟨⟨hx, hb, hml, hr, hlo, hown, hnm, htb, hll⟩, hts, hF, hcs, hK, hN, hP, hD, hS⟩ := C
  refine va_last hx hb hK hP hD hS a (xti .long) (xw_at (cA := cA) (ad := ad) ha) rfl hin hd (fun H1 locs1 hP1 hD1 hS1 => ?_)
  have hset : (xw cA ad h).set a (ad a, .inl (cA .long, n, .inr (.inl (vp_updL f i.toNatClampNeg x)))) = xw cA ad (h.set a (.inr (.long, n, .inr (.inl (vp_updL f i.toNatClampNeg x))))) := xw_set (c := (.inr (.long, n, .inr (.inl (vp_updL f i.toNatClampNeg x)))))
  rw [hset] at hP1 hD1
  exact kk ⟨⟨hx, hb, hml, hr, hlo, hown, hnm, htb, hll⟩, hts, hF, hcs, hK, by rw [List.length_set]; exact hN, hP1, hD1, hS1⟩ hl
theorem xr_alen {a : Nat} {ty : FieldType} {x : vp_A} {v : Int32} {q9 : Nat} (hd : xd M pc (.arraylength) 1 q9) (ha : h[a]? = some (.inr (ty, x))) (hty : xtok ty) (hv : Int32.ofNat x.1 = v)
    (kk : xr M sc d q9 lo (.int v :: st) h rc rs Q) : xr M sc d pc lo (.ref a :: st) h rc rs Q := by
  obtain ⟨hd, rfl⟩ := hd
  intro p l e s m args below meth c mc ms cells slots H locs ls D cA ad ad0 N0 C hl
  have hk2 := kk C hl (below := below)
  obtain ⟨⟨hx, hb, hml, hr, hlo, hown, hnm, htb, hll⟩, hts, hF, hcs, hK, hN, hP, hD, hS⟩ := C
  exact va_alen hx hb hK hP a (xti ty) (xw_at (cA := cA) (ad := ad) ha) (xt_at hty) hv hd hk2
theorem xr_sld {n : Nat} {f : Nat → Int32} {i : Int32} {q9 : Nat} (hd : xd M pc (.iaload) 1 q9) (hsc : sc = some (n, f)) (hin : vp_in i n)
    (kk : xr M sc d q9 lo (.int (f i.toNatClampNeg) :: st) h rc rs Q) : xr M sc d pc lo (.int i :: .ref 1000000 :: st) h rc rs Q := by
  obtain ⟨hd, rfl⟩ := hd
  intro p l e s m args below meth c mc ms cells slots H locs ls D cA ad ad0 N0 C hl
  have hk2 := kk C hl (below := below)
  obtain ⟨⟨hx, hb, hml, hr, hlo, hown, hnm, htb, hll⟩, hts, hF, hcs, hK, hN, hP, hD, hS⟩ := C
  obtain ⟨hX, hbl, hbA⟩ := hF.2.2.1 _ hsc
  have e9 : ad 1000000 = ad0 1000000 := hN.2.1 _ (Or.inr hN.2.2.2)
  show W p l e _ s m args below meth c H locs cells slots _ (F0 m pc ls (.int i :: .ref (ad 1000000) :: st.map (xv ad)))
  rw [e9]
  exact va_sld hx hb hX hbl hbA hS hin hd hk2
theorem xr_slen {n : Nat} {f : Nat → Int32} {q9 : Nat} (hd : xd M pc (.arraylength) 1 q9) (hsc : sc = some (n, f))
    (kk : xr M sc d q9 lo (.int (Int32.ofNat n) :: st) h rc rs Q) : xr M sc d pc lo (.ref 1000000 :: st) h rc rs Q := by
  obtain ⟨hd, rfl⟩ := hd
  intro p l e s m args below meth c mc ms cells slots H locs ls D cA ad ad0 N0 C hl
  have hk2 := kk C hl (below := below)
  obtain ⟨⟨hx, hb, hml, hr, hlo, hown, hnm, htb, hll⟩, hts, hF, hcs, hK, hN, hP, hD, hS⟩ := C
  obtain ⟨hX, hbl, hbA⟩ := hF.2.2.1 _ hsc
  have e9 : ad 1000000 = ad0 1000000 := hN.2.1 _ (Or.inr hN.2.2.2)
  show W p l e _ s m args below meth c H locs cells slots _ (F0 m pc ls (.ref (ad 1000000) :: st.map (xv ad)))
  rw [e9]
  exact va_slen hx hb hX hbl hbA hS hd hk2
end XH
end
section
section XRET
variable {M : xM} {sc : xSc} {d : Nat × Nat} {pc : Nat} {lo : xL} {h : List xC} {rc rs : Nat} {Q : xO → Prop}
theorem xE_ret {D : va_G} {cA : FieldType → ClassId} {ad ad0 : Nat → Nat} {N0 mc ms : Nat} {s t : State} {H : Heap} {locs L : List Loc} {v : Option Value}
    (hN : N0 ≤ h.length) (hag : ∀ k, k < N0 ∨ h.length ≤ k → ad k = ad0 k) (hP : va_P D vwCl (xw cA ad h) H) (hD : va_D (xA ad0 N0 s.heap.size) (xw cA ad h)) (hS : va_S (xA ad0 N0 s.heap.size) s.heap H locs)
    (ht : t.heap = H) (hW : s.WarmedH t.vm) (hsm : s.sameButNew ({ t with vm := s.vm } : State) L mc ms) (hL : ∀ q ∈ L, xA ad0 N0 s.heap.size q.base) :
    xE D cA ad0 N0 (.inl v, h) s mc ms (.returned (v.map (xv ad))) t :=
  ⟨⟨L, hW, hsm, hL⟩, hN, hS.F ht, ad, hag, by rw [ht]; exact hP, hD, rfl⟩
theorem xr_zret {v : Int32} {ty : FieldType} (hrt : M.2.2.2.1 = some ty) (hn : narrow ty (.int v) = .int v) {q9 : Nat} (hd : xd M pc (.ireturn) 1 q9) (hq : Q (.inl (some (.int v)), h)) : xr M sc d pc lo [.int v] h rc rs Q := by
  obtain ⟨hd, rfl⟩ := hd
  intro p l e s m args below meth c mc ms cells slots H locs ls D cA ad ad0 N0 C hl
  obtain ⟨⟨hx, hb, hml, hr, hlo, hown, hnm, htb, hll⟩, hts, hF, hcs, hK, hN, hP, hD, hS⟩ := C
  refine W.widen (k := mc) (n := ms) (by omega) (by omega) ?_
  refine W.mono ?_ (W.zret (Qc := fun _ _ oc t => oc = .returned (some (.int v)) ∧ t.heap = H) (free := xA ad0 N0 s.heap.size) (v := v) hx hb (hr.trans hrt) hn (fun t ht hW => ⟨rfl, ht⟩) hS.2.2 hd hlo)
  rintro t ⟨oc, h1, h2, ⟨rfl, ht⟩, L, ⟨-, hW, hsm⟩, hL⟩
  exact ⟨_, _, hq, h1, h2, xE_ret (v := some (.int v)) hN.1 hN.2.1 hP hD hS ht hW hsm hL⟩
theorem xr_iret {v : Int32} (hrt : M.2.2.2.1 = some .int) {q9 : Nat} (hd : xd M pc (.ireturn) 1 q9) (hq : Q (.inl (some (.int v)), h)) : xr M sc d pc lo [.int v] h rc rs Q := xr_zret hrt rfl hd hq
theorem xr_vret (hrt : M.2.2.2.1 = none) {q9 : Nat} (hd : xd M pc (.return_) 1 q9) (hq : Q (.inl none, h)) : xr M sc d pc lo [] h rc rs Q := by
  obtain ⟨hd, rfl⟩ := hd
  intro p l e s m args below meth c mc ms cells slots H locs ls D cA ad ad0 N0 C hl
  obtain ⟨⟨hx, hb, hml, hr, hlo, hown, hnm, htb, hll⟩, hts, hF, hcs, hK, hN, hP, hD, hS⟩ := C
  refine W.widen (k := mc) (n := ms) (by omega) (by omega) ?_
  refine W.mono ?_ (W.vret (Qc := fun _ _ oc t => oc = .returned none ∧ t.heap = H) (free := xA ad0 N0 s.heap.size) hx hb (hr.trans hrt) (fun t ht hW => ⟨rfl, ht⟩) hS.2.2 hd hlo)
  rintro t ⟨oc, h1, h2, ⟨rfl, ht⟩, L, ⟨-, hW, hsm⟩, hL⟩
  exact ⟨_, _, hq, h1, h2, xE_ret (v := none) hN.1 hN.2.1 hP hD hS ht hW hsm hL⟩
theorem xr_aret {a : Nat} {rt : FieldType} (hrt : M.2.2.2.1 = some rt) (hrf : (∃ n, rt = .object n) ∨ ∃ t, rt = .array t) {q9 : Nat} (hd : xd M pc (.areturn) 1 q9) (hq : Q (.inl (some (.ref a)), h)) : xr M sc d pc lo [.ref a] h rc rs Q := by
  obtain ⟨hd, rfl⟩ := hd
  intro p l e s m args below meth c mc ms cells slots H locs ls D cA ad ad0 N0 C hl
  obtain ⟨⟨hx, hb, hml, hr, hlo, hown, hnm, htb, hll⟩, hts, hF, hcs, hK, hN, hP, hD, hS⟩ := C
  refine W.widen (k := mc) (n := ms) (by omega) (by omega) ?_
  refine W.mono ?_ (W.aret (Qc := fun _ _ oc t => oc = .returned (some (.ref (ad a))) ∧ t.heap = H) (free := xA ad0 N0 s.heap.size) (v := .ref (ad a)) hx hb (hr.trans hrt) hrf (Or.inr ⟨_, rfl⟩) (fun t ht hW => ⟨rfl, ht⟩) hS.2.2 hd hlo)
  rintro t ⟨oc, h1, h2, ⟨rfl, ht⟩, L, ⟨-, hW, hsm⟩, hL⟩
  exact ⟨_, _, hq, h1, h2, xE_ret (v := some (.ref a)) hN.1 hN.2.1 hP hD hS ht hW hsm hL⟩
end XRET
def xen (n : Nat) (as : List Value) : xL := (as.flatMap (fun v => if v.category = 2 then [some v, none] else [some v])) ++ List.replicate (n - (lg_sl as).length) none
theorem xen_go {ad : Nat → Nat} : ∀ (as : List Value) (i j : Nat) (v : Value) (k : Nat), ((as.flatMap (fun v => if v.category = 2 then [some v, none] else [some v])) ++ List.replicate k (none : Option Value))[j]? = some (some v) → (i + j, xv ad v) ∈ lv_args i (as.map (xv ad))
  | [], i, j, v, k, h => by
    simp only [List.flatMap_nil, List.nil_append] at h
    rw [List.getElem?_replicate] at h
    split at h <;> cases h
  | w :: as, i, j, v, k, h => by
    rw [List.flatMap_cons] at h
    show _ ∈ (i, xv ad w) :: lv_args (if (xv ad w).category = 2 then i + 2 else i + 1) (as.map (xv ad))
    rw [xv_cat]
    by_cases hc : w.category = 2
    · rw [if_pos hc] at h
      rw [if_pos hc]
      match j, h with
      | 0, h => cases h; exact List.mem_cons_self
      | 1, h => cases h
      | j + 2, h =>
        have := xen_go (ad := ad) as (i + 2) j v k h
        rw [show i + 2 + j = i + (j + 2) by omega] at this
        exact List.mem_cons_of_mem _ this
    · rw [if_neg hc] at h
      rw [if_neg hc]
      match j, h with
      | 0, h => cases h; exact List.mem_cons_self
      | j + 1, h =>
        have := xen_go (ad := ad) as (i + 1) j v k h
        rw [show i + 1 + j = i + (j + 1) by omega] at this
        exact List.mem_cons_of_mem _ this
theorem lg_sl_map {ad : Nat → Nat} (as : List Value) : (lg_sl (as.map (xv ad))).length = (lg_sl as).length := by
  induction as with
  | nil => rfl
  | cons v as ih =>
    simp only [lg_sl, List.map_cons, List.flatMap_cons, List.length_append] at ih ⊢
    rw [ih, xv_cat]
    by_cases hc : v.category = 2 <;> simp [hc]
def xws (M : xM) : List Cond := Cond.code M.1 M.2.1 M.2.2.1 M.2.2.2.1 :: xtb
def xPc (D : va_G) (cA : FieldType → ClassId) (ad0 : Nat → Nat) (as : List Value) (h : List xC) : Array Value → State → Prop := fun a U =>
  a = (as.map (xv ad0)).toArray ∧ va_K D vwCl (xT cA) U ∧ xF none ad0 (xA ad0 h.length U.heap.size) U ∧ va_P D vwCl (xw cA ad0 h) U.heap ∧ va_D (fun _ => True) (xw cA ad0 h) ∧ h.length ≤ 1000000
def xm (M : xM) (d : Nat × Nat) (as : List Value) (h : List xC) (mc ms : Nat) (P : xO → Prop) : Prop :=
  ∀ (l : Launch), xl l → ∀ (D : va_G) (cA : FieldType → ClassId) (ad0 : Nat → Nat), MetFree l M.1 (headSpec (xws M) (xrm d mc ms)) (xPc D cA ad0 as h) (fun _ _ _ _ _ => True) (fun _ st oc t => ∃ o : xO, P o ∧ xE D cA ad0 h.length o st mc ms oc t)
theorem xplain {D : va_G} {cA : FieldType → ClassId} {ad : Nat → Nat} {h : List xC} {H : Heap} (hP : va_P D vwCl (xw cA ad h) H) : ∀ k, k < h.length → ∀ ce, H[ad k]? = some ce → ce.vm.isStatics = false := by
  intro k hk ce hce
  have hc : h[k]? = some h[k] := List.getElem?_eq_getElem hk
  have h1 := hP k _ (xw_at hc)
  cases hx : h[k] with
  | inl q =>
    rw [hx] at h1
    obtain ⟨r, -, cell, g1, -, g3, -⟩ := h1
    cases Option.some.inj (hce.symm.trans g1)
    rw [g3]; rfl
  | inr q =>
    rw [hx] at h1
    have h2 : H[ad k]? = some (vp_cell (cA q.1) q.2) := h1
    cases Option.some.inj (hce.symm.trans h2)
    obtain ⟨ty, n, f | f | f | f | f⟩ := q <;> rfl
theorem xd_self {D : va_G} {cA : FieldType → ClassId} {ad : Nat → Nat} {h : List xC} {sz : Nat} {A : Nat → Prop} (hD : va_D A (xw cA ad h)) : va_D (xA ad h.length sz) (xw cA ad h) := by
  refine ⟨hD.1, fun k q hq => ?_⟩
  obtain ⟨c, hc, rfl⟩ := xw_of hq
  exact Or.inl ⟨k, (List.getElem?_eq_some_iff.mp hc).1, rfl⟩
theorem xm_of {M : xM} {d : Nat × Nat} {as : List Value} {h : List xC} {mc ms : Nat} {P : xO → Prop} (hw : M.2.2.2.2 = []) (hpl : plainName M.1.cls = true) (hsz : (lg_sl as).length ≤ M.2.2.1) (k : xr M none d 0 (xen M.2.2.1 as) [] h mc ms P) : xm M d as h mc ms P := by
  intro l hll D cA ad0
  refine MetFree.of_bodyS (code := M.2.1) (maxLocals := M.2.2.1) (ret := M.2.2.2.1) hpl ?_ ?_
  · intro args s m h9 hn
    obtain ⟨meth, c, h1, h2, h3, h4, h5, h6, -, -⟩ := Cond.code_spec hn (atoms_spec (ws := xws M) h9 _ List.mem_cons_self)
    exact ⟨meth, c, h1, h2, h3, h4, h5, h6⟩
  · intro p e s m args below meth c s₁ B hml hP9 _
    obtain ⟨rfl, hK, hF, hP, hD, hlen⟩ := hP9
    have hh0 : s₁.heap = s.heap := by rw [B.state]; rfl
    have hts0 := atoms_spec (ws := xws M) B.pre
    have hown : s.vm.findClass M.1.cls = some m.cls := findClass_of_methodNamed B.named
    have hin : meth.name = M.1.name := (name_of_methodNamed B.named B.method).1
    have hempty := B.noHandlers (hts0 _ List.mem_cons_self)
    have htb : c.exceptionTable.toList.map (fun h => (h.startPc, h.endPc, h.handlerPc, h.catchType)) = M.2.2.2.2 := by
      rw [hw]
      have h0 : c.exceptionTable.size = 0 := by simpa [Array.isEmpty] using hempty
      have h1 : c.exceptionTable.toList = [] := List.eq_nil_of_length_eq_zero (by simpa using h0)
      rw [h1]; rfl
    have hl := lv_entry (as.map (xv ad0)) (n := M.2.2.1) (by rw [lg_sl_map]; exact hsz)
    have hxl : xhas ((lg_sl (as.map (xv ad0)) ++ List.replicate (M.2.2.1 - (lg_sl (as.map (xv ad0))).length) Slot.unset).toArray) M.2.2.1 ad0 (xen M.2.2.1 as) := by
      refine ⟨hl.1, hl.2.1, fun q hq => ?_⟩
      obtain ⟨v, h1, h2⟩ := xlv_mem.mp hq
      have h3 := xen_go (ad := ad0) as 0 q.1 v _ h1
      refine hl.2.2 q ?_
      rw [Nat.zero_add, ← h2] at h3
      exact h3
    have C : xC0 M none mc ms h p l e s m (as.map (xv ad0)).toArray meth c mc ms 0 0 s.heap [] D cA ad0 ad0 h.length :=
      ⟨⟨B.exec, B.bytes, hml, B.returns, B.notSynchronized, hown, hin, htb, hll⟩, fun w hw => hts0 w (List.mem_cons_of_mem _ hw), hF, ⟨by omega, by omega⟩, hK, ⟨Nat.le_refl _, fun _ _ => rfl, xplain hP, hlen⟩, hP, xd_self (D := D) hD, va_S.rf⟩
    have K := k C hxl (below := below)
    rw [List.map_nil, ← lg_entry_eq] at K
    obtain ⟨t, a1, oc, o, b0, b1, b2, b3⟩ := K s₁ hh0 (Stand.of_body B)
    exact ⟨t, oc, a1, b1, b2, o, b0, b3⟩
theorem xmet {M : xM} {d : Nat × Nat} {as : List Value} {h : List xC} {mc ms : Nat} {P : xO → Prop} (hM : xm M d as h mc ms P) (hno : ∀ o, P o → ∃ v, o.1 = .inl v) {l : Launch} (hl : xl l) (D : va_G) (cA : FieldType → ClassId) (ad0 : Nat → Nat) (sz : Nat) :
    Met l M.1 (xws M) (xrm d mc ms) (fun a U => xPc D cA ad0 as h a U ∧ U.heap.size = sz) (fun _ st oc t => (∃ o : xO, P o ∧ xE D cA ad0 h.length o st mc ms oc t) ∧ st.heap.size = sz) mc ms (xA ad0 h.length sz) := by
  intro p e ha hc hk s m args below hf happ hP hK
  obtain ⟨n, oc, h1, h2, h3, o, h4, h5⟩ := hM l hl D cA ad0 p e ha hc hk s m args below hf happ hP.1 hK
  refine ⟨n, oc, h1, h2, h3, ⟨⟨o, h4, h5⟩, hP.2⟩, ?_⟩
  obtain ⟨v, hv⟩ := hno o h4
  obtain ⟨⟨L, q1, q2, q3⟩, -, -, ad', -, -, -, q4⟩ := h5
  rw [hv] at q4
  have q4 : oc = .returned (v.map (xv ad')) := q4
  exact ⟨L, ⟨⟨_, q4⟩, q1, q2⟩, by rw [← hP.2]; exact q3⟩
def xnm (y : MethodName) (n : Nat) : Prop := y.cls ≠ "java/lang/invoke/MethodHandle" ∧ y.cls ≠ "java/lang/invoke/VarHandle" ∧ (parseMethodDescriptor y.desc).map (fun d => d.parameters.length) = some n
def xlV (own : String) (idx : Nat) (y : MethodName) (n : Nat) : Prop := (Cond.methodLink own idx y ∈ xtb ∨ ∃ host, Cond.methodLinkNest own idx y host ∈ xnest) ∧ Cond.instanceMethod y ∈ xtb ∧ Cond.selects y.cls y y ∈ xtb ∧ Cond.initialized y.cls ∈ xtb ∧ xnm y n
def xlS (own : String) (idx : Nat) (y : MethodName) (n : Nat) : Prop := (Cond.methodLink own idx y ∈ xtb ∨ ∃ host, Cond.methodLinkNest own idx y host ∈ xnest) ∧ Cond.static y ∈ xtb ∧ Cond.initialized y.cls ∈ xtb ∧ xnm y n
def xlI (own : String) (idx : Nat) (y : MethodName) (n : Nat) : Prop := (Cond.methodLink own idx y ∈ xtb ∨ ∃ host, Cond.methodLinkNest own idx y host ∈ xnest) ∧ Cond.instanceMethod y ∈ xtb ∧ Cond.initialized y.cls ∈ xtb ∧ xnm y n ∧ y.name = "<init>"
def xcd (M : xM) : Prop := Cond.code M.1 M.2.1 M.2.2.1 M.2.2.2.1 ∈ xtb
theorem xgood {M : xM} (hc : xcd M) : GoodIn xtb (xws M) := by
  intro w hw
  have hm : w ∈ xtb := by
    rcases List.mem_cons.mp hw with rfl | h
    · exact hc
    · exact h
  exact ⟨hm, good_of_word (List.mem_filter.mp hm).2⟩
theorem xblind {D : va_G} {cA : FieldType → ClassId} {ad0 : Nat → Nat} {as : List Value} {h : List xC} {sz : Nat} : FrameBlind (fun a U => xPc D cA ad0 as h a U ∧ U.heap.size = sz) := by
  intro a U g mk hp
  obtain ⟨⟨h1, h2, h3, h4, h5, h6⟩, h7⟩ := hp
  exact ⟨⟨h1, va_K.moved (u := U) (U := U.calling g mk a) (Vm.Alike.refl U.vm) h2, xF_same (u := U) (U := U.calling g mk a) rfl rfl h3, h4, h5, h6⟩, h7⟩
end
section
section XCALL
variable {M M' : xM} {sc : xSc} {d d' : Nat × Nat} {pc idx mc' ms' : Nat} {lo : xL} {st as : List Value} {h h' : List xC} {rc rs rc' rs' : Nat} {P Q : xO → Prop}
theorem xA_sub {D : va_G} {cA : FieldType → ClassId} {ad ad0 : Nat → Nat} {N0 sz sz2 : Nat} (hD : va_D (xA ad0 N0 sz) (xw cA ad h)) (hz : sz ≤ sz2) : ∀ q, xA ad h.length sz2 q → xA ad0 N0 sz q := by
  intro q hq
  rcases hq with ⟨k, hk, rfl⟩ | hq
  · exact hD.2 k _ (xw_at (List.getElem?_eq_getElem hk))
  · exact Or.inr (Nat.le_trans hz hq)
theorem xcontA {p : Program} {l : Launch} {e : Env} {s : State} {m : MethodId} {args : Array Value} {below : List Frame} {meth : Method} {c : Code} {mc ms cells slots : Nat} {H : Heap} {locs : List Loc} {ls : Array Slot} {D : va_G} {cA : FieldType → ClassId} {ad ad0 : Nat → Nat} {N0 : Nat} {st0 : List Value} {aa : Array Value}
    (C : xC0 M sc rc rs h p l e s m args meth c mc ms cells slots H locs D cA ad ad0 N0) (hl : xhas ls M.2.2.1 ad lo)
    (hr : va_Run p l e (xrm d mc ms) s m args below meth c H locs cells slots mc' ms' (F0 m pc ls st0) (st.map (xv ad)) (fun st oc t => (∃ o : xO, P o ∧ xE D cA ad h.length o st mc' ms' oc t) ∧ st.heap.size = H.size) (xA ad h.length H.size))
    (hrc : mc' + rc' ≤ rc) (hrs : ms' + rs' ≤ rs)
    (kk : ∀ (v : Option Value) (h' : List xC), P (.inl v, h') → h'.length ≤ 1000000 ∧ (∀ ad ad' : Nat → Nat, (∀ k, k < h.length ∨ h'.length ≤ k → ad' k = ad k) → st.map (xv ad') = st.map (xv ad) ∧ xlv ad' lo = xlv ad lo) ∧ xr M sc d (pc + 3) lo (v.toList ++ st) h' rc' rs' Q) : W p l e (xrm d mc ms) s m args below meth c H locs cells slots (xQ below D cA ad0 N0 Q s mc ms) (F0 m pc ls st0) := by
  intro T hT X
  obtain ⟨v9, st₀, t, T', L, h0, X', hL, e1, e2, ⟨⟨⟨r9, h'⟩, hPo, hE⟩, hsz⟩, gs⟩ := hr T hT X
  obtain ⟨-, hN', hFr, ad', hag', hP', hD', hoc⟩ := hE
  cases r9 with
  | inr E =>
    obtain ⟨q, ce, hq, -⟩ := hoc
    cases hq
  | inl v =>
  have hoc : Outcome.returned v9 = Outcome.returned (v.map (xv ad')) := hoc
  cases hoc
  obtain ⟨hlen, hw1, kk⟩ := kk v h' hPo
  obtain ⟨⟨hx, hb, hml, hr, hlo, hown, hnm, htb, hll⟩, hts, hF, hcs, hK, ⟨hN, hag, hpl, hln⟩, hP, hD, hS⟩ := C
  have hN' : h.length ≤ h'.length := hN'
  have hag' : ∀ k, k < h.length ∨ h'.length ≤ k → ad' k = ad k := hag'
  obtain ⟨hw2, hw3⟩ := hw1 ad ad' hag'
  have hsub := xA_sub (D := D) (sz2 := H.size) hD hS.1
  rw [hsz] at hFr hD'
  unfold va_F at hFr
  rw [h0] at hFr
  have hS' : va_S (xA ad0 N0 s.heap.size) s.heap T'.heap (locs ++ L) := by
    refine ⟨?_, ?_, ?_⟩
    · rw [e1]; exact Nat.le_trans hS.1 hFr.1
    · intro q h1 h2
      rw [e1, hFr.2 q (Nat.lt_of_lt_of_le h1 hS.1) (fun z => h2 (hsub q z))]
      exact hS.2.1 q h1 h2
    · intro q hq
      rcases List.mem_append.mp hq with h9 | h9
      · exact hS.2.2 q h9
      · exact hsub _ (hL q h9)
  have hl' : xhas ls M.2.2.1 ad' lo := by unfold xhas; rw [hw3]; exact hl
  have C' : xC0 M sc rc' rs' h' p l e s m args meth c mc ms (cells + mc') (slots + ms') T'.heap (locs ++ L) D cA ad' ad0 N0 :=
    ⟨⟨hx, hb, hml, hr, hlo, hown, hnm, htb, hll⟩, hts, hF, ⟨by omega, by omega⟩, hK, ⟨Nat.le_trans hN hN', fun k hk => (hag' k (by omega)).trans (hag k (by omega)), hpl, hlen⟩, by rw [e1]; exact hP', hD'.weaken (fun q _ _ hq => hsub _ hq), hS'⟩
  obtain ⟨t2, a1, b1⟩ := kk C' hl' (below := below) T' rfl X'
  refine ⟨t2, gs t2 ?_, b1⟩
  have e5 : (v.toList ++ st).map (xv ad') = (v.map (xv ad')).toList ++ st.map (xv ad) := by
    rw [List.map_append, hw2]
    cases v <;> rfl
  rw [e5] at a1
  exact a1
theorem xsame {h h' : List xC} (hlen : h'.length = h.length) {ad ad' : Nat → Nat} (hag : ∀ k, k < h.length ∨ h'.length ≤ k → ad' k = ad k) : ad' = ad := by
  funext k
  exact hag k (by omega)
theorem xcat {ad : Nat → Nat} (st : List Value) : ((st.map (xv ad)).map fun v => v.category).sum = (st.map fun v => v.category).sum := by
  rw [List.map_map]
  congr 1
  exact List.map_congr_left fun v _ => xv_cat ad v
def xwfv (a b : Nat) : Value → Bool
  | .ref k => decide (k < a) || decide (b ≤ k)
  | _ => true
theorem xwfv_ok {a b : Nat} {ad ad' : Nat → Nat} (hag : ∀ k, k < a ∨ b ≤ k → ad' k = ad k) {v : Value} (hv : xwfv a b v = true) : xv ad' v = xv ad v := by
  cases v with
  | ref k =>
    have h1 : k < a ∨ b ≤ k := by
      simp only [xwfv, Bool.or_eq_true, decide_eq_true_eq] at hv
      exact hv
    show Value.ref (ad' k) = Value.ref (ad k)
    rw [hag k h1]
  | _ => rfl
theorem xwfs_ok {a b : Nat} {ad ad' : Nat → Nat} (hag : ∀ k, k < a ∨ b ≤ k → ad' k = ad k) {st : List Value} (hv : st.all (xwfv a b) = true) : st.map (xv ad') = st.map (xv ad) :=
  List.map_congr_left fun v hm => xwfv_ok hag (List.all_eq_true.mp hv v hm)
theorem xfm_congr {α β : Type} {f g : α → Option β} : ∀ {l : List α}, (∀ x ∈ l, f x = g x) → l.filterMap f = l.filterMap g
  | [], _ => rfl
  | x :: l, hx => by
    rw [List.filterMap_cons, List.filterMap_cons, hx x List.mem_cons_self, xfm_congr (fun y hy => hx y (List.mem_cons_of_mem _ hy))]
theorem xwfl_ok {a b : Nat} {ad ad' : Nat → Nat} (hag : ∀ k, k < a ∨ b ≤ k → ad' k = ad k) {lo : xL} (hv : lo.all (fun q => match q with | none => true | some v => xwfv a b v) = true) : xlv ad' lo = xlv ad lo := by
  unfold xlv
  apply xfm_congr
  intro q hq
  cases hq1 : q.1 with
  | none => rfl
  | some v =>
    have hm : q.1 ∈ lo := List.mem_of_getElem? (List.mem_zipIdx_iff_getElem?.mp hq)
    have h1 := List.all_eq_true.mp hv q.1 hm
    rw [hq1] at h1
    show some (q.2, xv ad' v) = some (q.2, xv ad v)
    rw [xwfv_ok hag h1]
theorem xstart {p : Program} {l : Launch} {e : Env} {s : State} {m : MethodId} {args : Array Value} {meth : Method} {c : Code} {mc ms cells slots : Nat} {H : Heap} {locs : List Loc} {D : va_G} {cA : FieldType → ClassId} {ad ad0 : Nat → Nat} {N0 : Nat}
    (C : xC0 M sc rc rs h p l e s m args meth c mc ms cells slots H locs D cA ad ad0 N0) : ∀ U : State, U.heap = H → s.WarmedH U.vm → xPc D cA ad as h (as.map (xv ad)).toArray U ∧ U.heap.size = H.size := by
  intro U hU hW
  obtain ⟨⟨hx, hb, hml, hr, hlo, hown, hnm, htb, hll⟩, hts, hF, hcs, hK, ⟨hN, hag, hpl, hln⟩, hP, hD, hS⟩ := C
  refine ⟨⟨rfl, va_K.moved hW.alike hK, ?_, by rw [hU]; exact hP, hD.weaken (fun _ _ _ _ => trivial), hln⟩, by rw [hU]⟩
  rw [hU]
  exact xF_call hW hU (n := h.length) (fun k hk => hag k (Or.inr hk)) hln hS (xA_sub (D := D) (sz2 := H.size) hD hS.1) hF
theorem xrm_ok {d d' : Nat × Nat} {nL mc ms mc' ms' : Nat} (hd : d'.1 + 1 ≤ d.1 ∧ nL + 19 + d'.2 ≤ d.2) : (xrm d' mc' ms').frames + 1 ≤ (xrm d mc ms).frames ∧ 8 + (nL + 11) + (xrm d' mc' ms').locals ≤ (xrm d mc ms).locals := by
  refine ⟨hd.1, ?_⟩
  show 8 + (nL + 11) + d'.2 ≤ d.2
  omega
theorem xr_callVA {n b ci : Nat} {fs : List Value} (hM : xm M' d' (.ref b :: as) h mc' ms' P) (hno : ∀ o, P o → ∃ v, o.1 = .inl v) (hlk : xlV M.1.cls idx M'.1 n) (hcd : xcd M') (hn : as.length = n) {q9 : Nat} (hd : xd M pc (.invokevirtual idx) 3 q9) (hb0 : h[b]? = some (.inl (ci, fs))) (hci : ∃ (T : u_T) (N : Nat), vwCl[ci]? = some (M'.1.cls, T, N))
    (hdd : d'.1 + 1 ≤ d.1 ∧ M'.2.2.1 + 19 + d'.2 ≤ d.2) (hcat : (st.map fun v => v.category).sum ≤ 8) (hrc : mc' + rc' ≤ rc) (hrs : ms' + rs' ≤ rs) 
    (kk : ∀ (v : Option Value) (h' : List xC), P (.inl v, h') → h'.length ≤ 1000000 ∧ (∀ ad ad' : Nat → Nat, (∀ k, k < h.length ∨ h'.length ≤ k → ad' k = ad k) → st.map (xv ad') = st.map (xv ad) ∧ xlv ad' lo = xlv ad lo) ∧ xr M sc d q9 lo (v.toList ++ st) h' rc' rs' Q) : xr M sc d pc lo (as.reverse ++ .ref b :: st) h rc rs Q := by
  obtain ⟨hd, rfl⟩ := hd
  intro p l e s m args below meth c mc ms cells slots H locs ls D cA ad ad0 N0 C hl
  have hst := xstart (as := .ref b :: as) C
  have C9 := C
  obtain ⟨⟨hx, hb, hml, hr, hlo, hown, hnm, htb, hll⟩, hts, hF, hcs, hK, ⟨hN, hag, hpl, hln⟩, hP, hD, hS⟩ := C
  obtain ⟨T, N, hci⟩ := hci
  obtain ⟨hl1, hl2, hl3, hl4, hl5⟩ := hlk
  have hmet := xmet hM hno hll D cA ad H.size
  have hrecv := va_recv (a := ad b) hK hP hci (q0 := b) (fs := fs.map (xv ad)) (xw_at hb0)
  have hstk : (F0 m pc ls ((as.reverse ++ .ref b :: st).map (xv ad))).stack = (as.map (xv ad)).reverse ++ .ref (ad b) :: st.map (xv ad) := by
    show (as.reverse ++ .ref b :: st).map (xv ad) = _
    rw [List.map_append, List.map_reverse]; rfl
  have hroom := lv_room (m := m) (pc := pc) (ls := ls) (rest := (as.reverse ++ .ref b :: st).map (xv ad)) (st := st.map (xv ad)) (by rw [xcat]; exact hcat)
  have hcells : cells + mc' ≤ (xrm d mc ms).cells ∧ slots + ms' ≤ (xrm d mc ms).slots := ⟨by show cells + mc' ≤ mc; omega, by show slots + ms' ≤ ms; omega⟩
  have hlen2 : (as.map (xv ad)).length = n := by rw [List.length_map]; exact hn
  rcases hl1 with hl1 | ⟨host, hl1⟩
  · have cw : CallW (xrm d mc ms) s args M.1.cls M'.1.cls idx M'.1 M'.2.1 M'.2.2.1 M'.2.2.2.1 (xws M') (xrm d' mc' ms') mc' ms' n :=
      ⟨callB_of n hts (xgood hcd) rfl rfl rfl (hts _ hl4) (hts _ hl1) hl5 (xrm_ok hdd), hts _ hl2, hts _ hl3⟩
    exact xcontA (aa := args) C9 hl (va_runV ⟨hx, hb, hml, hown, hts⟩ hmet cw ⟨xblind, hrecv, hst⟩ rfl hlen2 hl.1 hstk hroom hd hcells) hrc hrs kk
  · have cw : va_CN (xrm d mc ms) s args M.1.cls idx M'.1 host M'.2.1 M'.2.2.1 M'.2.2.2.1 (xws M') (xrm d' mc' ms') mc' ms' n := va_cnB n hts (xgood hcd) rfl rfl rfl (hF.1 _ hl1) (hts _ hl4) hl5 (xrm_ok hdd)
    exact xcontA (aa := args) C9 hl (va_runVN ⟨hx, hb, hml, hown, hts⟩ hmet ⟨cw, hts _ hl2, hts _ hl3⟩ ⟨xblind, hrecv, hst⟩ rfl hlen2 hl.1 hstk hroom hd hcells) hrc hrs kk
theorem xr_callSA {n : Nat} (hM : xm M' d' as h mc' ms' P) (hno : ∀ o, P o → ∃ v, o.1 = .inl v) (hlk : xlS M.1.cls idx M'.1 n) (hcd : xcd M') (hn : as.length = n) {q9 : Nat} (hd : xd M pc (.invokestatic idx) 3 q9)
    (hdd : d'.1 + 1 ≤ d.1 ∧ M'.2.2.1 + 19 + d'.2 ≤ d.2) (hcat : (st.map fun v => v.category).sum ≤ 8) (hrc : mc' + rc' ≤ rc) (hrs : ms' + rs' ≤ rs) 
    (kk : ∀ (v : Option Value) (h' : List xC), P (.inl v, h') → h'.length ≤ 1000000 ∧ (∀ ad ad' : Nat → Nat, (∀ k, k < h.length ∨ h'.length ≤ k → ad' k = ad k) → st.map (xv ad') = st.map (xv ad) ∧ xlv ad' lo = xlv ad lo) ∧ xr M sc d q9 lo (v.toList ++ st) h' rc' rs' Q) : xr M sc d pc lo (as.reverse ++ st) h rc rs Q := by
  obtain ⟨hd, rfl⟩ := hd
  intro p l e s m args below meth c mc ms cells slots H locs ls D cA ad ad0 N0 C hl
  have hst := xstart (as := as) C
  have C9 := C
  obtain ⟨⟨hx, hb, hml, hr, hlo, hown, hnm, htb, hll⟩, hts, hF, hcs, hK, ⟨hN, hag, hpl, hln⟩, hP, hD, hS⟩ := C
  obtain ⟨hl1, hl2, hl4, hl5⟩ := hlk
  have hmet := xmet hM hno hll D cA ad H.size
  have hstk : (F0 m pc ls ((as.reverse ++ st).map (xv ad))).stack = (as.map (xv ad)).reverse ++ st.map (xv ad) := by
    show (as.reverse ++ st).map (xv ad) = _
    rw [List.map_append, List.map_reverse]
  have hroom := lv_room (m := m) (pc := pc) (ls := ls) (rest := (as.reverse ++ st).map (xv ad)) (st := st.map (xv ad)) (by rw [xcat]; exact hcat)
  have hcells : cells + mc' ≤ (xrm d mc ms).cells ∧ slots + ms' ≤ (xrm d mc ms).slots := ⟨by show cells + mc' ≤ mc; omega, by show slots + ms' ≤ ms; omega⟩
  have hlen2 : (as.map (xv ad)).length = n := by rw [List.length_map]; exact hn
  rcases hl1 with hl1 | ⟨host, hl1⟩
  · have cw : CallB (xrm d mc ms) s args M.1.cls idx M'.1 M'.2.1 M'.2.2.1 M'.2.2.2.1 (xws M') (xrm d' mc' ms') mc' ms' n :=
      callB_of n hts (xgood hcd) rfl rfl rfl (hts _ hl4) (hts _ hl1) hl5 (xrm_ok hdd)
    exact xcontA (aa := args) C9 hl (va_runS ⟨hx, hb, hml, hown, hts⟩ hmet ⟨cw, hts _ hl2⟩ ⟨xblind, hst⟩ rfl hlen2 hl.1 hstk hroom hd hcells) hrc hrs kk
  · have cw : va_CN (xrm d mc ms) s args M.1.cls idx M'.1 host M'.2.1 M'.2.2.1 M'.2.2.2.1 (xws M') (xrm d' mc' ms') mc' ms' n := va_cnB n hts (xgood hcd) rfl rfl rfl (hF.1 _ hl1) (hts _ hl4) hl5 (xrm_ok hdd)
    exact xcontA (aa := args) C9 hl (va_runSN ⟨hx, hb, hml, hown, hts⟩ hmet ⟨cw, hts _ hl2, trivial⟩ ⟨xblind, hst⟩ rfl hlen2 hl.1 hstk hroom hd hcells) hrc hrs kk
theorem xr_callIA {n b : Nat} (hM : xm M' d' (.ref b :: as) h mc' ms' P) (hno : ∀ o, P o → ∃ v, o.1 = .inl v) (hrn : M'.2.2.2.1 = none) (hlk : xlI M.1.cls idx M'.1 n) (hcd : xcd M') (hn : as.length = n) {q9 : Nat} (hd : xd M pc (.invokespecial idx) 3 q9)
    (hdd : d'.1 + 1 ≤ d.1 ∧ M'.2.2.1 + 19 + d'.2 ≤ d.2) (hcat : (st.map fun v => v.category).sum ≤ 8) (hrc : mc' + rc' ≤ rc) (hrs : ms' + rs' ≤ rs) 
    (kk : ∀ (v : Option Value) (h' : List xC), P (.inl v, h') → h'.length ≤ 1000000 ∧ (∀ ad ad' : Nat → Nat, (∀ k, k < h.length ∨ h'.length ≤ k → ad' k = ad k) → st.map (xv ad') = st.map (xv ad) ∧ xlv ad' lo = xlv ad lo) ∧ xr M sc d q9 lo (v.toList ++ st) h' rc' rs' Q) : xr M sc d pc lo (as.reverse ++ .ref b :: st) h rc rs Q := by
  obtain ⟨hd, rfl⟩ := hd
  intro p l e s m args below meth c mc ms cells slots H locs ls D cA ad ad0 N0 C hl
  have hst := xstart (as := .ref b :: as) C
  have C9 := C
  obtain ⟨⟨hx, hb, hml, hr, hlo, hown, hnm, htb, hll⟩, hts, hF, hcs, hK, ⟨hN, hag, hpl, hln⟩, hP, hD, hS⟩ := C
  obtain ⟨hl1, hl2, hl4, hl5, hl6⟩ := hlk
  have hmet := xmet hM hno hll D cA ad H.size
  have hstk : (F0 m pc ls ((as.reverse ++ .ref b :: st).map (xv ad))).stack = (as.map (xv ad)).reverse ++ .ref (ad b) :: st.map (xv ad) := by
    show (as.reverse ++ .ref b :: st).map (xv ad) = _
    rw [List.map_append, List.map_reverse]; rfl
  have hroom := lv_room (m := m) (pc := pc) (ls := ls) (rest := (as.reverse ++ .ref b :: st).map (xv ad)) (st := st.map (xv ad)) (by rw [xcat]; exact hcat)
  have hcells : cells + mc' ≤ (xrm d mc ms).cells ∧ slots + ms' ≤ (xrm d mc ms).slots := ⟨by show cells + mc' ≤ mc; omega, by show slots + ms' ≤ ms; omega⟩
  have hlen2 : (as.map (xv ad)).length = n := by rw [List.length_map]; exact hn
  rcases hl1 with hl1 | ⟨host, hl1⟩
  · have cw : CallB (xrm d mc ms) s args M.1.cls idx M'.1 M'.2.1 M'.2.2.1 none (xws M') (xrm d' mc' ms') mc' ms' n :=
      callB_of n hts (xgood hcd) (by unfold xws; rw [hrn]) rfl rfl (hts _ hl4) (hts _ hl1) hl5 (xrm_ok hdd)
    exact xcontA (aa := args) C9 hl (va_runI ⟨hx, hb, hml, hown, hts⟩ hmet ⟨cw, hl6, hts _ hl2⟩ ⟨xblind, hst⟩ rfl hlen2 hl.1 hstk hroom hd hcells) hrc hrs kk
  · have cw : va_CN (xrm d mc ms) s args M.1.cls idx M'.1 host M'.2.1 M'.2.2.1 none (xws M') (xrm d' mc' ms') mc' ms' n := va_cnB n hts (xgood hcd) (by unfold xws; rw [hrn]) rfl rfl (hF.1 _ hl1) (hts _ hl4) hl5 (xrm_ok hdd)
    exact xcontA (aa := args) C9 hl (va_runIN ⟨hx, hb, hml, hown, hts⟩ hmet ⟨cw, hl6, hts _ hl2⟩ ⟨xblind, hst⟩ rfl hlen2 hl.1 hstk hroom hd hcells) hrc hrs kk
theorem xw1_same (hlen : h'.length = h.length) : ∀ ad ad' : Nat → Nat, (∀ k, k < h.length ∨ h'.length ≤ k → ad' k = ad k) → st.map (xv ad') = st.map (xv ad) ∧ xlv ad' lo = xlv ad lo := by
  intro ad ad' hag
  rw [xsame hlen hag]
  exact ⟨rfl, rfl⟩
theorem xw1_wf (h1 : st.all (xwfv h.length h'.length) = true) (h2 : lo.all (fun q => match q with | none => true | some v => xwfv h.length h'.length v) = true) : ∀ ad ad' : Nat → Nat, (∀ k, k < h.length ∨ h'.length ≤ k → ad' k = ad k) → st.map (xv ad') = st.map (xv ad) ∧ xlv ad' lo = xlv ad lo :=
  fun _ _ hag => ⟨xwfs_ok hag h1, xwfl_ok hag h2⟩
end XCALL
end
section
section XNEW
variable {M : xM} {sc : xSc} {d : Nat × Nat} {pc : Nat} {lo : xL} {st : List Value} {h : List xC} {rc rs : Nat} {Q : xO → Prop}
def xwfc (a b : Nat) : xC → Bool
  | .inl q => q.2.all (xwfv a b)
  | .inr _ => true
theorem xwfh_ok {cA : FieldType → ClassId} {b : Nat} {ad ad' : Nat → Nat} (hag : ∀ k, k < h.length ∨ b ≤ k → ad' k = ad k) (hv : h.all (xwfc h.length b) = true) : xw cA ad' h = xw cA ad h := by
  apply List.ext_getElem?
  intro i
  unfold xw
  rw [List.getElem?_mapIdx, List.getElem?_mapIdx]
  cases hc : h[i]? with
  | none => rfl
  | some c =>
    have hi : i < h.length := (List.getElem?_eq_some_iff.mp hc).1
    have h1 := List.all_eq_true.mp hv c (List.mem_of_getElem? hc)
    show some (ad' i, xe cA ad' c) = some (ad i, xe cA ad c)
    rw [hag i (Or.inl hi)]
    cases c with
    | inl q =>
      have h2 : q.2.all (xwfv h.length b) = true := h1
      show some (ad i, Sum.inr (q.1, q.2.map (xv ad'))) = some (ad i, Sum.inr (q.1, q.2.map (xv ad)))
      rw [xwfs_ok hag h2]
    | inr q => rfl
def xad (ad : Nat → Nat) (n q : Nat) : Nat → Nat := fun k => if k = n then q else ad k
theorem xad_ag {ad : Nat → Nat} {n q : Nat} : ∀ k, k < n ∨ n + 1 ≤ k → xad ad n q k = ad k := by
  intro k hk
  unfold xad
  rw [if_neg (by omega)]
theorem xad_self {ad : Nat → Nat} {n q : Nat} : xad ad n q n = q := by unfold xad; rw [if_pos rfl]
theorem xgrow {p : Program} {l : Launch} {e : Env} {s : State} {m : MethodId} {args : Array Value} {below : List Frame} {meth : Method} {c : Code} {mc ms cells slots : Nat} {H H1 : Heap} {locs : List Loc} {ls : Array Slot} {D : va_G} {cA : FieldType → ClassId} {ad ad0 : Nat → Nat} {N0 n rc' rs' len q : Nat} {cl : xC}
    (C : xC0 M sc rc rs h p l e s m args meth c mc ms cells slots H locs D cA ad ad0 N0) (hl : xhas ls M.2.2.1 ad lo) (hrc : 1 + rc' ≤ rc) (hrs : n + rs' ≤ rs) (hlen : h.length + 1 ≤ 1000000)
    (hwh : h.all (xwfc h.length (h.length + 1)) = true) (hws : st.all (xwfv h.length (h.length + 1)) = true) (hwl : lo.all (fun q => match q with | none => true | some v => xwfv h.length (h.length + 1) v) = true)
    (hcl : ∀ ad' : Nat → Nat, xe cA ad' cl = xe cA ad cl)
    (hP : va_P D vwCl (xw cA ad h ++ [(q, xe cA ad cl)]) H1) (hD : va_D (xA ad0 N0 s.heap.size) (xw cA ad h ++ [(q, xe cA ad cl)])) (hS : va_S (xA ad0 N0 s.heap.size) s.heap H1 locs)
    (kk : xr M sc d (pc + len) lo (.ref h.length :: st) (h ++ [cl]) rc' rs' Q) : W p l e (xrm d mc ms) s m args below meth c H1 locs (cells + 1) (slots + n) (xQ below D cA ad0 N0 Q s mc ms) (F0 m (pc + len) ls (.ref q :: st.map (xv ad))) := by
  obtain ⟨⟨hx, hb, hml, hr, hlo, hown, hnm, htb, hll⟩, hts, hF, hcs, hK, ⟨hN, hag, hpl, hln⟩, -, -, -⟩ := C
  have hag' : ∀ k, k < h.length ∨ h.length + 1 ≤ k → xad ad h.length q k = ad k := xad_ag
  have e1 : xw cA (xad ad h.length q) (h ++ [cl]) = xw cA ad h ++ [(q, xe cA ad cl)] := by
    rw [xw_app, xwfh_ok hag' hwh, xad_self, hcl]
  have hl' : xhas ls M.2.2.1 (xad ad h.length q) lo := by unfold xhas; rw [xwfl_ok hag' hwl]; exact hl
  have hlen2 : (h ++ [cl]).length = h.length + 1 := by rw [List.length_append]; rfl
  have C' : xC0 M sc rc' rs' (h ++ [cl]) p l e s m args meth c mc ms (cells + 1) (slots + n) H1 locs D cA (xad ad h.length q) ad0 N0 :=
    ⟨⟨hx, hb, hml, hr, hlo, hown, hnm, htb, hll⟩, hts, hF, ⟨by omega, by omega⟩, hK, ⟨by omega, fun k hk => (hag' k (by omega)).trans (hag k (by omega)), hpl, by omega⟩, by rw [e1]; exact hP, by rw [e1]; exact hD, hS⟩
  have K := kk C' hl' (below := below)
  have e2 : (Value.ref h.length :: st).map (xv (xad ad h.length q)) = .ref q :: st.map (xv ad) := by
    show Value.ref (xad ad h.length q h.length) :: st.map (xv (xad ad h.length q)) = _
    rw [xad_self, xwfs_ok hag' hws]
  rw [e2] at K
  exact K
def xnw (own : String) (idx ci : Nat) (fs : List Value) : Prop := ∃ (C : String) (T : u_T) (N : Nat) (ty : Nat → FieldType), vwCl[ci]? = some (C, T, N) ∧ fs.length = N ∧ (∀ w ∈ u_ws C T N, w ∈ xtb) ∧ (∀ k, k < N → parseFieldDescriptor (T k).2.2.1 = some (ty k)) ∧ Cond.classLink own idx C ∈ xtb ∧ Cond.instantiable C N ∈ xtb ∧ Cond.initialized C ∈ xtb ∧ (∀ j, j < N → defaultValue (ty j) = vp_V fs j) ∧ fs.all (fun v => match v with | .ref _ => false | _ => true) = true
theorem xr_new {idx ci rc' rs' : Nat} {fs : List Value} (hw : xnw M.1.cls idx ci fs) {q9 : Nat} (hd : xd M pc (.new idx) 3 q9) (hrc : 1 + rc' ≤ rc) (hrs : fs.length + rs' ≤ rs) (hlen : h.length + 1 ≤ 1000000)
    (hwh : h.all (xwfc h.length (h.length + 1)) = true) (hws : st.all (xwfv h.length (h.length + 1)) = true) (hwl : lo.all (fun q => match q with | none => true | some v => xwfv h.length (h.length + 1) v) = true)
    (kk : xr M sc d q9 lo (.ref h.length :: st) (h ++ [.inl (ci, fs)]) rc' rs' Q) : xr M sc d pc lo st h rc rs Q := by
  obtain ⟨hd, rfl⟩ := hd
  intro p l e s m args below meth c mc ms cells slots H locs ls D cA ad ad0 N0 C hl
  have C9 := C
  obtain ⟨⟨hx, hb, hml, hr, hlo, hown, hnm, htb, hll⟩, hts, hF, hcs, hK, ⟨hN, hag, hpl, hln⟩, hP, hD, hS⟩ := C
  obtain ⟨C1, T, N, ty, hc, rfl, hin, hty, hw1, hw2, hw3, hfs, hnr⟩ := hw
  have hfm : ∀ ad' : Nat → Nat, fs.map (xv ad') = fs := by
    intro ad'
    have : fs.map (xv ad') = fs.map id := List.map_congr_left fun v hv => by
      have h1 := List.all_eq_true.mp hnr v hv
      cases v with
      | ref k => cases h1
      | _ => rfl
    rw [this, List.map_id]
  refine va_new (D := D) (ci := ci) (fs := fs) (C := C1) (T := T) (N := fs.length) hx hb hts hin ty hty hown (hts _ hw1) (hts _ hw2) (hts _ hw3) hK hP hD hS (fun q hq => Or.inr hq) hc hfs (by show cells + 1 ≤ mc; omega) (by show slots + fs.length ≤ ms; omega) hd (fun q H1 hP1 hD1 hS1 => ?_)
  have e1 : ∀ ad' : Nat → Nat, xe cA ad' (.inl (ci, fs)) = .inr (ci, fs) := fun ad' => by
    show Sum.inr (ci, fs.map (xv ad')) = _
    rw [hfm]
  exact xgrow (cl := .inl (ci, fs)) C9 hl hrc hrs hlen hwh hws hwl (fun ad' => (e1 ad').trans (e1 ad).symm) (by rw [e1]; exact hP1) (by rw [e1]; exact hD1) hS1 kk
theorem xr_newa {at9 : ArrayType} {ty : FieldType} {n : Int32} {N rc' rs' : Nat} {a0 : vp_A} {q9 : Nat} (hd : xd M pc (.newarray at9) 2 q9) (hty : newarray.typeOf at9 = ty) (htk : xtok ty) (hw : Cond.arrayClass ty ∈ xtb) (ha : ∀ c9 : ClassId, vp_cell c9 a0 = arrV c9 N (fun _ => defaultValue ty)) (hn : ¬ n < 0) (hN0 : n.toNatClampNeg = N) (hby : N * componentBytes ty ≤ 536870912) (hrc : 1 + rc' ≤ rc) (hrs : N + rs' ≤ rs) (hlen : h.length + 1 ≤ 1000000)
    (hwh : h.all (xwfc h.length (h.length + 1)) = true) (hws : st.all (xwfv h.length (h.length + 1)) = true) (hwl : lo.all (fun q => match q with | none => true | some v => xwfv h.length (h.length + 1) v) = true)
    (kk : xr M sc d q9 lo (.ref h.length :: st) (h ++ [.inr (ty, a0)]) rc' rs' Q) : xr M sc d pc lo (.int n :: st) h rc rs Q := by
  obtain ⟨hd, rfl⟩ := hd
  intro p l e s m args below meth c mc ms cells slots H locs ls D cA ad ad0 N0 C hl
  have C9 := C
  obtain ⟨⟨hx, hb, hml, hr, hlo, hown, hnm, htb, hll⟩, hts, hF, hcs, hK, ⟨hN, hag, hpl, hln⟩, hP, hD, hS⟩ := C
  refine va_newa (D := D) (a0 := a0) (ty := ty) (N' := N) hx hb (by rw [hty]; exact hts _ hw) hty hK hP hD hS (fun q hq => Or.inr hq) ha hn hN0 hby (by show cells + 1 ≤ mc; omega) (by show slots + N ≤ ms; omega) hd (fun q c9 H1 hK1 hP1 hD1 hS1 => ?_)
  have hc9 : c9 = cA ty := by
    have h1 := (hK1.2 4 (c9, ty) rfl).2
    have h2 := (hK.2 (xti ty) _ (xt_at htk)).2
    rcases htk with rfl | rfl | rfl | rfl
    · exact Option.some.inj ((va_nm_int h1).symm.trans (va_nm_int h2))
    · exact Option.some.inj ((va_nm_byte h1).symm.trans (va_nm_byte h2))
    · exact Option.some.inj ((va_nm_boolean h1).symm.trans (va_nm_boolean h2))
    · exact Option.some.inj ((va_nm_long h1).symm.trans (va_nm_long h2))
  subst hc9
  exact xgrow (cl := .inr (ty, a0)) C9 hl hrc hrs hlen hwh hws hwl (fun _ => rfl) hP1 hD1 hS1 kk
theorem xr_objInit {idx a : Nat} {q9 : Nat} (hd : xd M pc (.invokespecial idx) 3 q9) (hw1 : Cond.methodLink M.1.cls idx objectInit ∈ xtb) (hw2 : Cond.instanceMethod objectInit ∈ xtb) (hw3 : Cond.code objectInit ⟨#[0xb1]⟩ 1 none ∈ xtb) (hdd : 1 ≤ d.1 ∧ 20 ≤ d.2) (hcat : (st.map fun v => v.category).sum ≤ 8)
    (kk : xr M sc d q9 lo st h rc rs Q) : xr M sc d pc lo (.ref a :: st) h rc rs Q := by
  obtain ⟨hd, rfl⟩ := hd
  intro p l e s m args below meth c mc ms cells slots H locs ls D cA ad ad0 N0 C hl
  have hk2 := kk C hl (below := below)
  obtain ⟨⟨hx, hb, hml, hr, hlo, hown, hnm, htb, hll⟩, hts, hF, hcs, hK, ⟨hN, hag, hpl, hln⟩, hP, hD, hS⟩ := C
  refine W.objInit hx hb hown (hts _ hw1) (hts _ hw2) (hts _ hw3) rfl (by rw [hml]; exact hl.1) rfl hd hdd.1 ?_ ?_
  · show 2 * 0 + ((st.map (xv ad)).map fun v => v.category).sum + (1 + 11) ≤ d.2
    rw [xcat]; omega
  · exact hk2
end XNEW
end
section
section XTH
variable {M : xM} {sc : xSc} {d : Nat × Nat} {pc : Nat} {lo : xL} {st : List Value} {h : List xC} {rc rs : Nat} {Q : xO → Prop}
theorem xbase {p : Program} {l : Launch} {e : Env} {R : Room} {s : State} {m : MethodId} {args : Array Value} {below : List Frame} {meth : Method} {c : Code} {T : State} {locs : List Loc} {cells slots : Nat} (X : Stand p l e R s m args below meth c T locs cells slots) {R' : Room} (hf : R'.frames ≤ R.frames) (hl : R'.locals ≤ R.locals) (hc : cells + R'.cells ≤ R.cells) (hs : slots + R'.slots ≤ R.slots) :
    Stand p l e R' ((T.setVm s.vm).setFrames (.invoking m args :: below)) m args below meth c T [] 0 0 := by
  have ht : (T.setVm s.vm).topJava?.isSome := X.here.top
  have hF : ((T.setVm s.vm).setFrames (.invoking m args :: below)).frames = .invoking m args :: below := State.frames_setFrames _ (State.cur_lt_of_top ht)
  obtain ⟨g₀, hg0⟩ := Option.isSome_iff_exists.mp ht
  obtain ⟨r, hr⟩ := State.topJava?_eq_some.mp hg0
  have hlim : e.platform.stackLimits (T.setVm s.vm).me = e.platform.stackLimits s.me := X.limits
  have hby : (T.setVm s.vm).me.stackBytes = s.me.stackBytes := X.bytes
  have hnil : T.heap.toList.drop T.heap.size = [] := List.drop_eq_nil_of_le (Nat.le_of_eq Array.length_toList)
  have hroom : ((T.setVm s.vm).setFrames (.invoking m args :: below)).hasRoom e.platform R' = true := by
    have h := X.room
    have hU : ((T.setVm s.vm).setFrames (.invoking m args :: below)).localsInUse = s.localsInUse := by
      rw [State.localsInUse_invoking hF (meth := meth) (c := c) X.method X.code, State.localsInUse_invoking X.frames X.method X.code]
    have q1 := X.heapSize
    have q2 := X.used
    simp only [State.hasRoom, Bool.and_eq_true, decide_eq_true_eq] at h ⊢
    obtain ⟨⟨⟨⟨h1, h2, h3, h4, h5, h6⟩, h7⟩, h8⟩, h9⟩ := h
    rw [X.frames, List.length_cons] at h2 h3
    simp only [hF, hU, List.length_cons, State.stackLimits_setFrames, State.stackBytes_setFrames, hlim, hby]
    exact ⟨⟨⟨⟨by omega, by omega, by omega, by omega, by omega, h6⟩, (by show T.heap.size + R'.cells ≤ e.platform.maxCells; omega)⟩, (by show T.slotsUsed + R'.slots ≤ e.platform.maxSlots; omega)⟩, X.book⟩
  have hsame : ((T.setVm s.vm).setFrames (.invoking m args :: below)).sameButNew (T.setVm s.vm) [] 0 0 := by
    refine ⟨?_, Nat.le_refl _, Nat.le_refl _, ?_, ?_, fun a c9 h9 => ⟨c9, h9, rfl, rfl, fun _ _ => rfl⟩⟩
    · obtain ⟨t, h1, -⟩ := State.frames_cons hr
      show T.setVm s.vm = { ((T.setVm s.vm).setFrames (.invoking m args :: below)).setFrames (T.setVm s.vm).frames with heap := T.heap, slotsUsed := T.slotsUsed }
      rw [State.setFrames_setFrames, State.setFrames_self h1]
      rfl
    · show T.slotsUsed = T.slotsUsed + ((T.heap.toList.drop T.heap.size).map (·.slots.size)).sum
      rw [hnil]; rfl
    · show ((T.heap.toList.drop T.heap.size).map (·.slots.size)).sum ≤ 0
      rw [hnil]; exact Nat.le_refl _
  exact ⟨X.admits, X.cas, X.clock, hF, hroom, X.hears, X.method, X.code, X.here, X.tail, X.warmed, by rw [State.stackLimits_setFrames]; rfl, by rw [State.stackBytes_setFrames]; rfl, hsame⟩
theorem xsame_frames {X0 U : State} {fs : List Frame} {k n : Nat} (h : (X0.setFrames fs).sameButNew U [] k n) : X0.sameButNew U [] k n := by
  obtain ⟨h1, h2⟩ := h
  refine ⟨?_, h2⟩
  rw [State.setFrames_setFrames] at h1
  exact h1
theorem xisRef {args : Array Value} {C n d : String} {A : Nat → Prop} {s : State} (h : va_Zq C n d A s s.heap) : (Cond.isRef (.static C n d)).before args s = true := by
  rcases h with ⟨cf, kf, fi, f, a, cell, h1, h2, h3, h4, h5, h6, h7, h8⟩ | ⟨t, cf, kf, fi, f, a, cell, h1, h2, h3, h4, h5, h6, h7, h8⟩ <;>
    simp [Cond.before, Cond.holds, Cond.value, Term.eval, State.fieldNamed?, h1, h2, h4, h5, h6, h7]
def xno (w : Cond) : Prop := w = .isRef (.static Bundle.tN "UNASSIGNED_STACK" Bundle.steD) ∨ w = .isRef (.static Bundle.tN "SUPPRESSED_SENTINEL" Bundle.listD)
def xtw (own : String) (ik is ic : Nat) (E : String) (names : List String) : Prop :=
  Bundle.fit E = true ∧ (∀ n ∈ names, Bundle.fit n = true) ∧ Cond.classLink own ik E ∈ xtb ∧ Cond.initialized E ∈ xtb ∧ (∃ tx, (own, is, tx) ∈ xstrs) ∧ (∀ w ∈ Bundle.ownAtoms own ic E names, w ∈ xtb ∨ xno w) ∧ names.length ≤ 4
set_option maxHeartbeats 1000000 in
theorem xr_throwS {ik is ic : Nat} {E : String} {names : List String} (hw : xtw M.1.cls ik is ic E names) (hM0 : M.2.2.2.2 = [])
    (d0 : decode M.2.1 pc = .ok (.new ik, 3)) (d3 : decode M.2.1 (pc + 3) = .ok (.dup, 1)) (d4 : decode M.2.1 (pc + 4) = .ok (.ldc is, 2)) (d6 : decode M.2.1 (pc + 6) = .ok (.invokespecial ic, 3)) (d9 : decode M.2.1 (pc + 9) = .ok (.athrow, 1))
    (hd : names.length + 3 < d.1) (hd2 : 9 + (13 * (names.length + 1) + 42) ≤ d.2) (hcat : (st.map fun v => v.category).sum ≤ 8) (hrc : 1 ≤ rc) (hrs : 6 ≤ rs) (hq : Q (.inr E, h)) : xr M sc d pc lo st h rc rs Q := by
  intro p l e s m args below meth c mc ms cells slots H locs ls D cA ad ad0 N0 C hl
  obtain ⟨⟨hx, hb, hml, hr, hlo, hown, hnm, htb, hll⟩, hts, hF, hcs, hK, ⟨hN, hag, hpl, hln⟩, hP, hD, hS⟩ := C
  obtain ⟨hfE, hfn, hw1, hw2, ⟨tx, hw3⟩, hw4, hnl⟩ := hw
  intro T hT X
  have X' := xbase X (R' := { frames := d.1, cells := 1, slots := 6, locals := d.2 }) (Nat.le_refl _) (Nat.le_refl _) (by show cells + 1 ≤ mc; omega) (by show slots + 6 ≤ ms; omega)
  have hWs : ((T.setVm s.vm).setFrames (.invoking m args :: below)).WarmedH s.vm := State.WarmedH.refl _
  generalize hs' : (T.setVm s.vm).setFrames (.invoking m args :: below) = s' at X' hWs
  have hvm : s'.vm = s.vm := by rw [← hs']; rfl
  have hhp : s'.heap = H := by rw [← hs', ← hT]; rfl
  have hown' : s'.vm.findClass M.1.cls = some m.cls := by rw [hvm]; exact hown
  have hWm : s.WarmedH s'.vm := by rw [hvm]; exact State.WarmedH.refl s
  have hts' : ∀ w ∈ xtb, w.before args s' = true := fun w hw => word_at hWm (good_of_word (List.mem_filter.mp hw).2) (hts w hw)
  have hzU : va_Zq Bundle.tN "UNASSIGNED_STACK" Bundle.steD (xA ad0 N0 s.heap.size) s' s'.heap := by
    rw [hhp]
    exact (va_Zq.moved hWm.alike (hF.2.2.2.1 (Bundle.tN, "UNASSIGNED_STACK", Bundle.steD) xzq_U)).kept hS.2.1
  have hzS : va_Zq Bundle.tN "SUPPRESSED_SENTINEL" Bundle.listD (xA ad0 N0 s.heap.size) s' s'.heap := by
    rw [hhp]
    exact (va_Zq.moved hWm.alike (hF.2.2.2.1 (Bundle.tN, "SUPPRESSED_SENTINEL", Bundle.listD) xzq_S)).kept hS.2.1
  have hat : ∀ w ∈ Bundle.ownAtoms M.1.cls ic E names, w.before args s' = true := by
    intro w hw
    rcases hw4 w hw with h1 | rfl | rfl
    · exact hts' w h1
    · exact xisRef hzU
    · exact xisRef hzS
  obtain ⟨aS, hvR⟩ := hF.2.1 _ hw3
  have hvR' := vk_R.warm hWm hvR
  have hins : (Cond.instantiable E 6).before args s' = true := hat _ (by simp [Bundle.ownAtoms])
  have htr : e.platform.stackTraces = false := xl_off hll X.admits
  have hout : ∀ x ∈ c.exceptionTable.toList, covers x (pc + 9) = false := by
    rw [hM0] at htb
    have : c.exceptionTable.toList = [] := List.map_eq_nil_iff.mp htb
    rw [this]
    intro x hx; cases hx
  have K : W p l e { frames := d.1, cells := 1, slots := 6, locals := d.2 } s' m args below meth c H [] 0 0 (fun U => U.status = .running ∧ Ended U below (.threw H.size) ∧ s'.WarmedH U.vm ∧ s'.sameButNew ({ U with vm := s'.vm } : State) [] 1 6 ∧ ∃ ce, U.heap[H.size]? = some ce ∧ ce.vm = .none ∧ s'.vm.findClass E = some ce.cls) (F0 m pc ls (st.map (xv ad))) := by
    refine W.newc hx hb hown' (hts' _ hw1) hins (hts' _ hw2) rfl d0 (Nat.le_refl _) (Nat.le_refl _) (fun cC kC h1 h2 h3 h4 => ?_)
    refine lv_dup hx hb d3 rfl ?_
    refine va_ldcS hx hb hown' hvR' d4 ?_
    intro T2 hT2 X2
    have hcell : T2.heap[H.size]? = some (freshCell cC kC) := by
      rw [hT2]
      simp [freshCell]
    obtain ⟨U, q1, q2, q3, q4, q5, ce, q6, q7⟩ := X2.ctorThrowS hx htr hown' hfE hfn hat (fun x hx => by cases hx) h1 h2 hcell (by rw [hhp]; exact Nat.le_refl _) (msg := .ref aS) rfl (g := F0 m (pc + 6) ls (.ref aS :: .ref H.size :: .ref H.size :: st.map (xv ad))) rfl (by rw [hml]; exact hl.1) rfl rfl (rest := st.map (xv ad)) rfl (by rw [hb]; exact d6) (by rw [hb]; exact d9) hout (by show names.length + 3 < d.1; exact hd)
      (by
        show 2 * 0 + ((Value.ref H.size :: st.map (xv ad)).map fun v => v.category).sum + (13 * (names.length + 1) + 42) ≤ d.2
        rw [List.map_cons, List.sum_cons, xcat]
        show 2 * 0 + (1 + _) + _ ≤ _
        omega) hlo
    exact ⟨U, q1, q2, q3, q4, q5, ce, q6, q7.vm, q7.cls⟩
  obtain ⟨U, a1, b1, b2, b3, b4, ce, b5, b6, b7⟩ := K T hT X'
  refine ⟨U, a1, .threw H.size, (.inr E, h), hq, b1, b2, ?_⟩
  have hWU : s.WarmedH U.vm := State.WarmedH.of_rootvm hvm.symm b3
  have hsm : (T.setVm s.vm).sameButNew ({ U with vm := s.vm } : State) [] 1 6 := by
    rw [hvm, ← hs'] at b4
    exact xsame_frames b4
  have hsm2 : s.sameButNew ({ U with vm := s.vm } : State) locs mc ms := by
    have := X.same.trans hsm
    rw [List.append_nil] at this
    exact this.mono (by omega) (by omega)
  have hkeep : ∀ q : Nat, q < H.size → U.heap[q]? = H[q]? := by
    intro q hq9
    have hc1 : (T.setVm s.vm).heap[q]? = some H[q] := by
      show T.heap[q]? = _
      rw [hT]; exact Array.getElem?_eq_getElem hq9
    have := State.sameButNew.old_cell hsm hc1
    rw [Array.getElem?_eq_getElem hq9]
    exact this
  have hszU : H.size ≤ U.heap.size := by
    have := hsm.2.1
    have e1 : (T.setVm s.vm).heap.size = H.size := by rw [← hT]; rfl
    rw [e1] at this
    exact this
  refine ⟨⟨locs, hWU, hsm2, hS.2.2⟩, hN, ⟨Nat.le_trans hS.1 hszU, fun q h1 h2 => ?_⟩, ad, hag, ?_, hD, H.size, ce, rfl, b5, b6, by rw [← hvm]; exact b7⟩
  · rw [hkeep q (Nat.lt_of_lt_of_le h1 hS.1)]
    exact hS.2.1 q h1 h2
  · exact hP.kept (fun k q hq9 => hkeep _ ((hP k q hq9).lt))
end XTH
end
section
def xFnd (e : Env) (s : State) (f : JFrame) (a : Addr) (t : List ExceptionTableEntry) (pc : Nat) (vm' : Vm) : Prop :=
  ∀ (Q : Handler → Pre) (E : CtlPost) (d : Bool) (acts : List Action), wp (findHandler.go f a t) Q E e d acts s ↔ Q (.found pc) d acts (s.setVm vm')
theorem xgo_row {e : Env} {s : State} {f : JFrame} {a : Addr} {x : ExceptionTableEntry} {t : List ExceptionTableEntry} {c : ClassId} {cell : Cell} {Q : Handler → Pre} {E : CtlPost} {d : Bool} {acts : List Action} (hx : covers x f.pc = true) (h0 : x.catchType ≠ 0)
    (hl : s.vm.ClassLinks e.platform f.method.cls x.catchType c) (hcell : s.heap[a]? = some cell) (hobj : ∀ k, cell.vm ≠ .statics k)
    (hk : ∃ k, s.vm.classes[cell.cls]? = some k) (hc : ∃ k, s.vm.classes[c]? = some k) {b : Bool} (hb : s.vm.assignable cell.cls c = b) :
    wp (findHandler.go f a (x :: t)) Q E e d acts s ↔ if b = true then Q (.found x.handlerPc) d acts (s.setVm (s.vm.noted f.method.cls x.catchType (.cls c))) else wp (findHandler.go f a t) Q E e d acts (s.setVm (s.vm.noted f.method.cls x.catchType (.cls c))) := by
  simp only [covers] at hx
  obtain ⟨ha, ht⟩ := (resolveClass_links e.toSetting hl).op (op := VmOp.resolveClass f.method.cls x.catchType) rfl
  have hal : s.vm.Alike (s.vm.noted f.method.cls x.catchType (.cls c)) := (Vm.Alike.refl s.vm).noted _ _ _
  obtain ⟨k1, hk1⟩ := hk
  obtain ⟨k2, hk2⟩ := hc
  obtain ⟨k1', hk1', -⟩ := hal.2.2 _ _ hk1
  obtain ⟨k2', hk2', -⟩ := hal.2.2 _ _ hk2
  have hb' : (s.vm.noted f.method.cls x.catchType (.cls c)).assignable cell.cls c = b := by rw [hal.assignable]; exact hb
  cases b <;> simp [findHandler.go, hx, h0, ha, ht, hcell, hobj, hk1', hk2', hb', VmOp.dirties, VmOp.acts]
def xrow (s₀ : State) (pl : Platform) (d : ClassId) (thrown : ClassId) (x : ExceptionTableEntry) (b : Bool) : Prop := x.catchType ≠ 0 ∧ ∃ c, s₀.vm.ClassLinks pl d x.catchType c ∧ s₀.vm.assignable thrown c = b
theorem xfind {e : Env} {s₀ : State} {f : JFrame} {a : Addr} {cell : Cell} (hobj : ∀ k, cell.vm ≠ .statics k) (hk0 : ∃ k, s₀.vm.classes[cell.cls]? = some k) {x : ExceptionTableEntry} {rest : List ExceptionTableEntry} (hx : covers x f.pc = true) (hend : xrow s₀ e.platform f.method.cls cell.cls x true) :
    ∀ (pre : List ExceptionTableEntry) (S : State), s₀.WarmedH S.vm → S.heap[a]? = some cell → (∀ y ∈ pre, covers y f.pc = true ∧ xrow s₀ e.platform f.method.cls cell.cls y false) →
      ∃ vm', s₀.WarmedH vm' ∧ xFnd e S f a (pre ++ x :: rest) x.handlerPc vm' := by
  obtain ⟨k0, hk0⟩ := hk0
  intro pre
  induction pre with
  | nil =>
    intro S hW hcell _
    obtain ⟨k0', hk0', -⟩ := hW.alike.2.2 _ _ hk0
    obtain ⟨h0, c, hl, hfit⟩ := hend
    obtain ⟨dk, _, _, kt, hd, _, _, _, _, hkt, _, hopen⟩ := hl.here
    obtain ⟨kt', hkt', -⟩ := hW.alike.2.2 _ _ hkt
    refine ⟨_, hW.noted hd hopen (State.rightAt_cls hl), fun Q E d acts => ?_⟩
    rw [List.nil_append, xgo_row hx h0 (hW.classLinks hl) hcell hobj ⟨k0', hk0'⟩ ⟨kt', hkt'⟩ (b := true) (by rw [hW.alike.assignable]; exact hfit), if_pos rfl]
  | cons y ys ih =>
    intro S hW hcell hpass
    obtain ⟨k0', hk0', -⟩ := hW.alike.2.2 _ _ hk0
    obtain ⟨hcov, h0, c, hl, hno⟩ := hpass y List.mem_cons_self
    obtain ⟨dk, _, _, kt, hd, _, _, _, _, hkt, _, hopen⟩ := hl.here
    obtain ⟨kt', hkt', -⟩ := hW.alike.2.2 _ _ hkt
    obtain ⟨vm', hW', hq⟩ := ih (S.setVm (S.vm.noted f.method.cls y.catchType (.cls c))) (hW.noted hd hopen (State.rightAt_cls hl)) hcell (fun z hz => hpass z (List.mem_cons_of_mem _ hz))
    refine ⟨vm', hW', fun Q E d acts => ?_⟩
    rw [List.cons_append, xgo_row hcov h0 (hW.classLinks hl) hcell hobj ⟨k0', hk0'⟩ ⟨kt', hkt'⟩ (b := false) (by rw [hW.alike.assignable]; exact hno), if_neg (by decide)]
    exact hq Q E d acts
theorem xstep_catch {e : Env} {s : State} {a : Addr} {f : JFrame} {r : List Frame} {pc : Nat} {vm' : Vm} {meth : Method} {code : Code} (hm : s.vm.method? f.method = some meth) (hc : meth.code = some code) (hfind : xFnd e s f a code.exceptionTable.toList pc vm') :
    (stepThrowing e s a (.java f :: r)).Is ((s.setVm vm').setFrames (.java { f with pc := pc, stack := [.ref a] } :: r)) [] := by
  simp only [stepThrowing, searchFrame, vmDo]
  generalize hr : Sem.go _ e false [] s = res
  obtain ⟨as, rfl, ha⟩ := Sem.eq_ok_of hr (a := Handler.found pc) (s' := s.setVm vm') (acts' := []) (by simp [W.findHandler_eq hm hc, hfind _ _ _ _])
  exact ⟨rfl, ha⟩
theorem xcaught {tb : Tables} {e : Env} {s target : State} {g : JFrame} {c : Code} {below : List Frame} {a : Addr} {meth : Method} (h : At s g.method c below) (hm : s.vm.method? g.method = some meth) (hc : meth.code = some c) {pc : Nat} {vm' : Vm}
    (hfind : xFnd e ((s.setTop g).pushFrame (.throwing a)) g a c.exceptionTable.toList pc vm') (hrest : Steps tb e below ((s.setVm vm').setTop { g with pc := pc, stack := [.ref a] }) target) :
    Steps tb e below ((s.setTop g).pushFrame (.throwing a)) target := by
  obtain ⟨hgo, hw⟩ := h.throwing a
  refine Steps.head hgo hw ?_
  rw [stepThread_throwing (frames_entered h.top _), (xstep_catch (s := (s.setTop g).pushFrame (.throwing a)) (meth := meth) (code := c) (by simpa [State.pushFrame, State.setFrames] using hm) hc hfind).1]
  obtain ⟨g₀, hg⟩ := Option.isSome_iff_exists.mp h.top
  obtain ⟨r, hr⟩ := State.topJava?_eq_some.mp hg
  have hr2 : (s.setVm vm').frames = .java g₀ :: r := hr
  have e1 : ((s.setTop g).pushFrame (.throwing a)).setVm vm' = ((s.setVm vm').setTop g).pushFrame (.throwing a) := by
    rw [State.setTop_of_frames _ hr, State.setTop_of_frames _ hr2]
    rfl
  rw [e1, State.pushFrame, State.setFrames_setFrames, State.setTop_of_frames _ hr2, State.setFrames_setFrames]
  rw [State.setTop_of_frames _ hr2] at hrest
  rw [hr]
  exact hrest
end
section
section XCT
variable {M M' : xM} {sc : xSc} {d d' : Nat × Nat} {pc idx mc' ms' : Nat} {lo : xL} {st as : List Value} {h : List xC} {rc rs rc' rs' : Nat} {P Q : xO → Prop}
def xkill (lo : xL) (i : Nat) : xL := (xst lo i .null).set i none
theorem xhas_kill {ls' : Array Slot} {nL : Nat} {ad : Nat → Nat} {lo : xL} {i : Nat} {v : Value} (h : lv_has ls' nL ((i, v) :: (xlv ad lo).filter (fun q => !(q.1 == i) && !(q.1 + 1 == i && q.2.category == 2)))) : xhas ls' nL ad (xkill lo i) := by
  refine ⟨h.1, h.2.1, fun q hq => ?_⟩
  obtain ⟨w, h1, h2⟩ := xlv_mem.mp hq
  unfold xkill at h1
  rw [List.getElem?_set] at h1
  by_cases hi : i = q.1
  · rw [if_pos hi] at h1
    split at h1 <;> cases h1
  · rw [if_neg hi] at h1
    rcases xst_get h1 with ⟨e1, e2⟩ | ⟨e1, e2, e3⟩
    · exact absurd e1.symm hi
    · refine h.2.2 q (List.mem_cons.mpr (Or.inr (List.mem_filter.mpr ⟨xlv_mem.mpr ⟨w, e2, h2⟩, ?_⟩)))
      rw [h2, xv_cat]
      simp only [Bool.and_eq_true, Bool.not_eq_true', beq_eq_false_iff_ne, ne_eq, Bool.and_eq_false_iff]
      refine ⟨e1, ?_⟩
      by_cases hj : q.1 + 1 = i
      · exact Or.inr (fun hc => e3 ⟨hj, hc⟩)
      · exact Or.inl hj
def xcat9 (own : String) (hs : List (Nat × Nat × Nat × Nat)) (pc : Nat) (E : String) (hpc : Nat) : Prop :=
  ∃ (pre : List (Nat × Nat × Nat × Nat)) (x : Nat × Nat × Nat × Nat) (suf : List (Nat × Nat × Nat × Nat)), hs = pre ++ x :: suf ∧ x.2.2.1 = hpc ∧
    (x.1 ≤ pc ∧ pc < x.2.1 ∧ x.2.2.2 ≠ 0 ∧ ∃ nm, Cond.classLink own x.2.2.2 nm ∈ xtb ∧ (nm = E ∧ Cond.initialized E ∈ xtb)) ∧
    ∀ y ∈ pre, y.1 ≤ pc ∧ pc < y.2.1 ∧ y.2.2.2 ≠ 0 ∧ ∃ nm, Cond.classLink own y.2.2.2 nm ∈ xtb ∧ (E, nm) ∈ xnc
set_option maxHeartbeats 1000000 in
theorem xr_callVT {n b ci i len : Nat} {fs : List Value} (hM : xm M' d' (.ref b :: as) h mc' ms' P) (hth : ∀ o, P o → ∃ E, o.1 = .inr E) (hlk : xlV M.1.cls idx M'.1 n) (hcd : xcd M') (hn : as.length = n) (hd : decode M.2.1 pc = .ok (.invokevirtual idx, 3)) (hb0 : h[b]? = some (.inl (ci, fs))) (hci : ∃ (T : u_T) (N : Nat), vwCl[ci]? = some (M'.1.cls, T, N))
    (hdd : d'.1 + 1 ≤ d.1 ∧ M'.2.2.1 + 19 + d'.2 ≤ d.2) (hcat : (st.map fun v => v.category).sum ≤ 8) (hrc : mc' + rc' ≤ rc) (hrs : ms' + rs' ≤ rs)
    (kk : ∀ (E : String) (h' : List xC), P (.inr E, h') → h'.length = h.length ∧ ∃ (hpc i : Nat), xcat9 M.1.cls M.2.2.2.2 pc E hpc ∧ i < M.2.2.1 ∧ ((∃ k9 : Fin 4, (k9 : Nat) = i ∧ decode M.2.1 hpc = .ok (.astore_n k9, 1) ∧ xr M sc d (hpc + 1) (xkill lo i) [] h' rc' rs' Q) ∨ (decode M.2.1 hpc = .ok (.astore i, 2) ∧ xr M sc d (hpc + 2) (xkill lo i) [] h' rc' rs' Q))) :
    xr M sc d pc lo (as.reverse ++ .ref b :: st) h rc rs Q := by
  intro p l e s m args below meth c mc ms cells slots H locs ls D cA ad ad0 N0 C hl
  have hstart := xstart (as := .ref b :: as) C
  have C9 := C
  obtain ⟨⟨hx, hb, hml, hr, hlo, hown, hnm, htb, hll⟩, hts, hF, hcs, hK, ⟨hN, hag, hpl, hln⟩, hP, hD, hS⟩ := C
  obtain ⟨T9, N9, hci⟩ := hci
  obtain ⟨hl1, hl2, hl3, hl4, hl5⟩ := hlk
  obtain ⟨cellB, hcB, hoB, hclB⟩ := va_recv (a := ad b) hK hP hci (q0 := b) (fs := fs.map (xv ad)) (xw_at hb0)
  have hclB : s.vm.findClass M'.1.cls = some cellB.cls := hclB
  intro T hT X
  have hcode := hts _ hcd
  obtain ⟨mk, methM, hnamed, hmethM, hstM, habM⟩ := Cond.instanceMethod_spec (hts _ hl2)
  obtain ⟨methM', cM, hmethM', hcM, -, hlM, -, -, -, hsigM⟩ := Cond.code_spec hnamed hcode
  cases hmethM.symm.trans hmethM'
  have hy : M'.1.cls ≠ "java/lang/invoke/MethodHandle" ∧ M'.1.cls ≠ "java/lang/invoke/VarHandle" := ⟨hl5.1, hl5.2.1⟩
  obtain ⟨c2, r2, m2, q1, q2, q3, q4, kP, hkP, hkPi⟩ := Cond.selects_spec (hts _ hl3)
  cases hclB.symm.trans q1
  cases (State.methodFound?_of_named hnamed hy).symm.trans q2
  cases hnamed.symm.trans q3
  have hselP : selectMethod e.platform s.vm cellB.cls mk = .method mk := by rw [Launch.admits_selectMethod X.admits]; exact q4
  have hlen9 : (as.map (xv ad)).length = methM.sig.parameters.length := by
    have h2 := hl5.2.2
    rw [hsigM] at h2
    rw [List.length_map, hn]
    exact (Option.some.inj h2).symm
  have hstk : (F0 m pc ls ((as.reverse ++ .ref b :: st).map (xv ad))).stack = (as.map (xv ad)).reverse ++ .ref (ad b) :: st.map (xv ad) := by
    show (as.reverse ++ .ref b :: st).map (xv ad) = _
    rw [List.map_append, List.map_reverse]; rfl
  have hinv : ∃ vm₁, Stand p l e (xrm d mc ms) s m args below meth c (T.setVm vm₁) locs cells slots ∧ ∀ target, (∀ acts, Steps p.tables e below (doInvoke e ((T.setVm vm₁).setTop (F0 m pc ls (st.map (xv ad)))) acts mk (Value.ref (ad b) :: as.map (xv ad)).toArray).1 target) → Steps p.tables e below (T.setTop (F0 m pc ls ((as.reverse ++ .ref b :: st).map (xv ad)))) target := by
    rcases hl1 with hl1 | ⟨host, hl1⟩
    · exact X.invokevirtual hx hown (hts _ hl1) hnamed hmethM hstM hkP hkPi hy (a := ad b) (cell := cellB) (by rw [hT]; exact hcB) (fun z h => by rw [h] at hoB; cases hoB) hselP hmethM habM hkP hkPi (g := F0 m pc ls ((as.reverse ++ .ref b :: st).map (xv ad))) rfl (argsL := as.map (xv ad)) (rest := st.map (xv ad)) hlen9 hstk (by rw [hb]; exact hd)
    · exact X.invokevirtualNest hx hown (va_Nw.use rfl (hF.1 _ hl1)) hnamed hmethM hstM hkP hkPi hy (a := ad b) (cell := cellB) (by rw [hT]; exact hcB) (fun z h => by rw [h] at hoB; cases hoB) hselP hmethM habM hkP hkPi (g := F0 m pc ls ((as.reverse ++ .ref b :: st).map (xv ad))) rfl (argsL := as.map (xv ad)) (rest := st.map (xv ad)) hlen9 hstk (by rw [hb]; exact hd)
  obtain ⟨vm₁, X₁, hstep₁⟩ := hinv
  have hW₁ := X₁.warmed
  have hgood := xgood hcd
  have hpre : (headSpec (xws M') (xrm d' mc' ms')).pre.before (Value.ref (ad b) :: as.map (xv ad)).toArray (T.setVm vm₁) = true := atoms_intro fun w hw => pay_in hts hgood w hw _ _ hW₁
  have hini : (Cond.initialized M'.1.cls).before (Value.ref (ad b) :: as.map (xv ad)).toArray (T.setVm vm₁) = true := word_at hW₁ (good_of_word (List.mem_filter.mp hl4).2) (hts _ hl4)
  have hn₁ : (T.setVm vm₁).methodNamed? M'.1 = some mk := X₁.named hnamed
  obtain ⟨kY, hkY, -⟩ := className_of_methodNamed hn₁
  have hinitY : kY.init = .initialized := Cond.initialized_spec (findClass_of_methodNamed hn₁) hkY hini
  have hmY : (T.setVm vm₁).vm.method? mk = some methM := by rw [hW₁.alike.method?]; exact hmethM
  have hdg : decode c.code pc = .ok (.invokevirtual idx, 3) := by rw [hb]; exact hd
  have hat : At (T.setVm vm₁) m c below := X₁.here
  generalize hgd : F0 m pc ls (st.map (xv ad)) = g at hstep₁
  have hgm : g.method = m := by rw [← hgd]
  have hgp : g.pc = pc := by rw [← hgd]
  have hsz : g.locals.size = c.maxLocals := by rw [← hgd, hml]; exact hl.1
  have hgw : 2 * g.monitorRoom + (g.stack.map fun v => v.category).sum ≤ 8 := by
    rw [← hgd]
    exact lv_room (m := m) (pc := pc) (ls := ls) (rest := st.map (xv ad)) (st := st.map (xv ad)) (by rw [xcat]; exact hcat)
  have hat' : At (T.setVm vm₁) g.method c below := by rw [hgm]; exact hat
  have happ : (headSpec (xws M') (xrm d' mc' ms')).appliesLoose M'.1 e.platform ((T.setVm vm₁).calling g mk (Value.ref (ad b) :: as.map (xv ad)).toArray) = true :=
    Spec.appliesLoose_calling (g := g) hat' (by rw [hgp]; exact hdg) hn₁ hkY hinitY
      (X₁.room_calling (g := g) (R' := (headSpec (xws M') (xrm d' mc' ms')).room) hsz hmY hcM (by show d'.1 + 1 ≤ d.1; exact hdd.1) (by rw [hlM]; show _ + _ + (_ + 11) + d'.2 ≤ d.2; omega) (by show cells + mc' ≤ mc; omega) (by show slots + ms' ≤ ms; omega)) hpre
  obtain ⟨mid, hmid⟩ := hat'.above
  have hfr : ((T.setVm vm₁).setTop g).frames = (.java g :: mid) ++ below := by rw [State.frames_setTop' g hat'.top, hmid]; rfl
  have hPc : xPc D cA ad (.ref b :: as) h (Value.ref (ad b) :: as.map (xv ad)).toArray ((T.setVm vm₁).calling g mk (Value.ref (ad b) :: as.map (xv ad)).toArray) := (xblind (sz := H.size) _ _ g mk (hstart (T.setVm vm₁) hT hW₁)).1
  obtain ⟨oc, s₂, hsteps, -, hend, o, hPo, hE⟩ := Steps.callFree (hM l hll D cA ad) p X.admits X.cas X.clock (acts := []) hfr happ hPc trivial
  have hE : xE D cA ad h.length o ((T.setVm vm₁).calling g mk (Value.ref (ad b) :: as.map (xv ad)).toArray) mc' ms' oc s₂ := hE
  obtain ⟨r9, h'⟩ := o
  obtain ⟨E, hE1⟩ := hth _ hPo
  have hE1 : r9 = .inr E := hE1
  subst hE1
  obtain ⟨⟨L, hW₂, hsm, hL⟩, hN', hFr, ad', hag', hP', hD', q, ce, rfl, hce, hcv, hcl⟩ := hE
  obtain ⟨hlen', hpc, i, hcat9, hin, hrest⟩ := kk E h' hPo
  have hade : ad' = ad := xsame hlen' hag'
  subst hade
  rw [State.frames_setTop' g hat'.top] at hend
  obtain ⟨g₀, hg0⟩ := Option.isSome_iff_exists.mp hat'.top
  obtain ⟨r, hr9⟩ := State.topJava?_eq_some.mp hg0
  obtain ⟨e2, z2, z3, z4, z5, z6⟩ := hsm
  have hW' : (T.setVm vm₁).WarmedH s₂.vm := hW₂
  have hU0 : (({ (T.setVm vm₁) with heap := s₂.heap, slotsUsed := s₂.slotsUsed } : State).setVm s₂.vm).frames = .java g₀ :: r := hr9
  have e3 : s₂ = ({ ((T.setVm vm₁).calling g mk (Value.ref (ad' b) :: as.map (xv ad')).toArray).setFrames s₂.frames with heap := s₂.heap, slotsUsed := s₂.slotsUsed } : State).setVm s₂.vm := by
    have : s₂ = ({ s₂ with vm := ((T.setVm vm₁).calling g mk (Value.ref (ad' b) :: as.map (xv ad')).toArray).vm } : State).setVm s₂.vm := rfl
    rw [e2] at this
    exact this
  have hend : s₂.frames = .throwing q :: .java g :: (T.setVm vm₁).frames.tail := hend
  have hs₂ : s₂ = ((({ (T.setVm vm₁) with heap := s₂.heap, slotsUsed := s₂.slotsUsed } : State).setVm s₂.vm).setTop g).pushFrame (.throwing q) := by
    refine e3.trans ?_
    rw [hend, State.calling_eq hat'.top, State.setFrames_setFrames, State.pushFrame, State.setTop_of_frames _ hU0, State.setFrames_setFrames, hr9]
    have hU1 : ((({ (T.setVm vm₁) with heap := s₂.heap, slotsUsed := s₂.slotsUsed } : State).setVm s₂.vm).setFrames (.java g :: r)).frames = .java g :: r := State.frames_setFrames _ (State.cur_lt_of_frames hU0)
    rw [hU1]
    rfl
  have hsame : (T.setVm vm₁).sameButNew ({ (T.setVm vm₁) with heap := s₂.heap, slotsUsed := s₂.slotsUsed } : State) L mc' ms' := by
    refine ⟨?_, z2, z3, z4, z5, z6⟩
    obtain ⟨t, ht, -⟩ := State.frames_cons hr9
    show ({ (T.setVm vm₁) with heap := s₂.heap, slotsUsed := s₂.slotsUsed } : State) = { (T.setVm vm₁).setFrames (T.setVm vm₁).frames with heap := s₂.heap, slotsUsed := s₂.slotsUsed }
    rw [State.setFrames_self ht]
  have X₂ : Stand p l e (xrm d mc ms) s m args below meth c (({ (T.setVm vm₁) with heap := s₂.heap, slotsUsed := s₂.slotsUsed } : State).setVm s₂.vm) (locs ++ L) (cells + mc') (slots + ms') :=
    ⟨X₁.admits, X₁.cas, X₁.clock, X₁.frames, X₁.room, X₁.hears, X₁.method, X₁.code, (X₁.here.setHeapUsed s₂.heap s₂.slotsUsed).setVm hW'.alike, X₁.tail, State.WarmedH.trans X₁.warmed hW', X₁.limits, X₁.bytes, X₁.same.trans (hsame.setVm s.vm)⟩
  generalize hU : (({ (T.setVm vm₁) with heap := s₂.heap, slotsUsed := s₂.slotsUsed } : State).setVm s₂.vm) = U at X₂ hs₂
  have hUh : U.heap = s₂.heap := by rw [← hU]; rfl
  have hclE : s.vm.findClass E = some ce.cls := by
    have : (T.setVm vm₁).vm.findClass E = some ce.cls := hcl
    rw [hW₁.alike.findClass] at this
    exact this
  obtain ⟨kE, hkE, -⟩ := Vm.findClass_spec hclE
  obtain ⟨pre9, x9, suf9, hhs, hxp, ⟨hx1, hx2, hx3, nm, hx4, hx5, hx6⟩, hpre9⟩ := hcat9
  subst hx5
  rw [hhs] at htb
  obtain ⟨preE, restE, hsp1, hsp2, hsp3⟩ := List.map_eq_append_iff.mp htb
  obtain ⟨xE9, sufE, hsp4, hsp5, hsp6⟩ := List.map_eq_cons_iff.mp hsp3
  subst hsp4
  have hplt : e.platform.magicAccessors = ({} : Platform).magicAccessors := by rw [X.admits.platform]
  have hxe : xE9.startPc = x9.1 ∧ xE9.endPc = x9.2.1 ∧ xE9.handlerPc = x9.2.2.1 ∧ xE9.catchType = x9.2.2.2 := by rw [← hsp5]; exact ⟨rfl, rfl, rfl, rfl⟩
  have hcovx : covers xE9 g.pc = true := by
    rw [hgp]
    simp only [covers, Bool.and_eq_true, decide_eq_true_eq]
    omega
  have hrowx : xrow s e.platform g.method.cls ce.cls xE9 true := by
    rw [hgm]
    refine ⟨by rw [hxe.2.2.2]; exact hx3, ?_⟩
    have := hts _ hx4
    rw [← hxe.2.2.2] at this
    obtain ⟨c5, hc5, hcl5⟩ := Cond.classLink_spec hown this e.platform hplt
    cases Option.some.inj (hc5.symm.trans hclE)
    exact ⟨_, hcl5, va_asg _ _⟩
  have hrowp : ∀ y ∈ preE, covers y g.pc = true ∧ xrow s e.platform g.method.cls ce.cls y false := by
    intro y hy9
    have hym : (y.startPc, y.endPc, y.handlerPc, y.catchType) ∈ pre9 := by
      rw [← hsp2]
      exact List.mem_map.mpr ⟨y, hy9, rfl⟩
    obtain ⟨w1, w2, w3, nm9, w4, w5⟩ := hpre9 _ hym
    dsimp only at w1 w2 w3 w4
    refine ⟨?_, ?_⟩
    · rw [hgp]
      simp only [covers, Bool.and_eq_true, decide_eq_true_eq]
      exact ⟨w1, w2⟩
    · rw [hgm]
      refine ⟨w3, ?_⟩
      obtain ⟨c6, hc6, hcl6⟩ := Cond.classLink_spec hown (hts _ w4) e.platform hplt
      obtain ⟨a8, b8, n1, n2, n3⟩ := hF.2.2.2.2.2 _ w5
      cases Option.some.inj (n1.symm.trans hclE)
      cases Option.some.inj (n2.symm.trans hc6)
      exact ⟨_, hcl6, n3⟩
  obtain ⟨vm', hW9, hfnd⟩ := xfind (e := e) (s₀ := s) (f := g) (a := q) (cell := ce) (VmData.ne_statics_of (by rw [hcv]; rfl)) ⟨kE, hkE⟩ (rest := sufE) hcovx hrowx preE ((U.setTop g).pushFrame (.throwing q)) X₂.warmed (by show U.heap[q]? = some ce; rw [hUh]; exact hce) hrowp
  rw [← hsp1] at hfnd
  have hAt2 : At U g.method c below := by rw [hgm]; exact X₂.here
  have X₃ := X₂.noted hW9
  have hsub := xA_sub (D := D) (sz2 := H.size) hD hS.1
  have hsz9 : ((T.setVm vm₁).calling g mk (Value.ref (ad' b) :: as.map (xv ad')).toArray).heap = H := hT
  rw [hsz9] at hFr hD' hL
  have hFr2 : H.size ≤ s₂.heap.size ∧ ∀ q : Nat, q < H.size → ¬ xA ad' h.length H.size q → s₂.heap[q]? = H[q]? := by
    have := hFr
    unfold va_F at this
    rw [hsz9] at this
    exact this
  have hS' : va_S (xA ad0 N0 s.heap.size) s.heap s₂.heap (locs ++ L) := by
    refine ⟨Nat.le_trans hS.1 hFr2.1, ?_, ?_⟩
    · intro q9 h1 h2
      rw [hFr2.2 q9 (Nat.lt_of_lt_of_le h1 hS.1) (fun z => h2 (hsub q9 z))]
      exact hS.2.1 q9 h1 h2
    · intro q9 hq9
      rcases List.mem_append.mp hq9 with h9 | h9
      · exact hS.2.2 q9 h9
      · exact hsub _ (hL q9 h9)
  have C' : xC0 M sc rc' rs' h' p l e s m args meth c mc ms (cells + mc') (slots + ms') s₂.heap (locs ++ L) D cA ad' ad0 N0 :=
    ⟨⟨hx, hb, hml, hr, hlo, hown, hnm, by rw [hhs]; exact htb, hll⟩, hts, hF, ⟨by omega, by omega⟩, hK, ⟨by rw [hlen']; exact hN, fun k hk => hag k (by rw [← hlen']; exact hk), hpl, by rw [hlen']; exact hln⟩, hP', hD'.weaken (fun q9 _ _ hq9 => hsub _ hq9), hS'⟩
  have K : W p l e (xrm d mc ms) s m args below meth c s₂.heap (locs ++ L) (cells + mc') (slots + ms') (xQ below D cA ad0 N0 Q s mc ms) (F0 m hpc ls [.ref q]) := by
    rcases hrest with ⟨k9, hk9, hdh, hr⟩ | ⟨hdh, hr⟩
    · exact lv_astore_n hx hb hdh hk9 hl hin rfl (fun ls' hl' => hr C' (xhas_kill hl'))
    · exact lv_astore hx hb hdh hl hin rfl (fun ls' hl' => hr C' (xhas_kill hl'))
  obtain ⟨t2, a1, b1⟩ := K (U.setVm vm') hUh X₃
  refine ⟨t2, hstep₁ _ fun acts => ?_, b1⟩
  rw [doInvoke_state]
  refine hsteps.trans ?_
  rw [hs₂]
  refine xcaught (meth := meth) hAt2 (by rw [hgm]; exact X₂.method') X₂.code hfnd ?_
  rw [hxe.2.2.1, hxp, ← hgd]
  exact a1
end XCT
end
section
section XJ
variable {M M' : xM} {sc : xSc} {d d' : Nat × Nat} {pc idx mc' ms' : Nat} {lo : xL} {st as : List Value} {h : List xC} {rc rs rc' rs' : Nat} {P Q : xO → Prop}
theorem xr_ldc {v : Int32} {q9 : Nat} (hd : xd M pc (.ldc idx) 2 q9) (hw : Cond.constant M.1.cls idx v ∈ xtb) (k : xr M sc d q9 lo (.int v :: st) h rc rs Q) : xr M sc d pc lo st h rc rs Q := by
  obtain ⟨hd, rfl⟩ := hd
  intro p l e s m args below meth c mc ms cells slots H locs ls D cA ad ad0 N0 C hl
  exact lv_ldc C.1.1 C.1.2.1 C.1.2.2.2.2.2.1 (C.2.1 _ hw) hd (k C hl)
theorem xr_ldcw {v : Int32} {q9 : Nat} (hd : xd M pc (.ldc_w idx) 3 q9) (hw : Cond.constant M.1.cls idx v ∈ xtb) (k : xr M sc d q9 lo (.int v :: st) h rc rs Q) : xr M sc d pc lo st h rc rs Q := by
  obtain ⟨hd, rfl⟩ := hd
  intro p l e s m args below meth c mc ms cells slots H locs ls D cA ad ad0 N0 C hl
  exact lv_ldcw C.1.1 C.1.2.1 C.1.2.2.2.2.2.1 (C.2.1 _ hw) hd (k C hl)
theorem xr_ldc2 {v : Int64} {q9 : Nat} (hd : xd M pc (.ldc2_w idx) 3 q9) (hw : Cond.constantLong M.1.cls idx v ∈ xtb) (k : xr M sc d q9 lo (.long v :: st) h rc rs Q) : xr M sc d pc lo st h rc rs Q := by
  obtain ⟨hd, rfl⟩ := hd
  intro p l e s m args below meth c mc ms cells slots H locs ls D cA ad ad0 N0 C hl
  exact lv_ldc2 C.1.1 C.1.2.1 C.1.2.2.2.2.2.1 (C.2.1 _ hw) hd (k C hl)
def xwmax (own : String) (idx : Nat) : Prop := Cond.methodLink own idx Lib.Math.max.name ∈ xtb ∧ Cond.static Lib.Math.max.name ∈ xtb ∧ Cond.initialized "java/lang/Math" ∈ xtb ∧ Cond.code Lib.Math.max.name Lib.Math.max.code 2 (some .int) ∈ xtb
def xwmin (own : String) (idx : Nat) : Prop := Cond.methodLink own idx Lib.Math.min.name ∈ xtb ∧ Cond.static Lib.Math.min.name ∈ xtb ∧ Cond.initialized "java/lang/Math" ∈ xtb ∧ Cond.code Lib.Math.min.name Lib.Math.min.code 2 (some .int) ∈ xtb
theorem xr_mmax {x y : Int32} {q9 : Nat} (hd : xd M pc (.invokestatic idx) 3 q9) (hw : xwmax M.1.cls idx) (hdd : 1 ≤ d.1 ∧ 21 ≤ d.2) (hcat : (st.map fun v => v.category).sum ≤ 8) (k : xr M sc d q9 lo (.int (if x < y then y else x) :: st) h rc rs Q) : xr M sc d pc lo (.int y :: .int x :: st) h rc rs Q := by
  obtain ⟨hd, rfl⟩ := hd
  intro p l e s m args below meth c mc ms cells slots H locs ls D cA ad ad0 N0 C hl
  have hk := k C hl (below := below)
  obtain ⟨⟨hx, hb, hml, hr, hlo, hown, hnm, htb, hll⟩, hts, hF, hcs, hK, hN, hP, hD, hS⟩ := C
  exact va_mmax hx hb (hml.trans hl.1.symm) hown (hts _ hw.1) (hts _ hw.2.1) (hts _ hw.2.2.1) (hts _ hw.2.2.2) hdd.1 (by rw [xcat]; show _ + 13 ≤ d.2; omega) (by show cells ≤ mc; omega) (by show slots ≤ ms; omega) hd hk
theorem xr_mmin {x y : Int32} {q9 : Nat} (hd : xd M pc (.invokestatic idx) 3 q9) (hw : xwmin M.1.cls idx) (hdd : 1 ≤ d.1 ∧ 21 ≤ d.2) (hcat : (st.map fun v => v.category).sum ≤ 8) (k : xr M sc d q9 lo (.int (if y < x then y else x) :: st) h rc rs Q) : xr M sc d pc lo (.int y :: .int x :: st) h rc rs Q := by
  obtain ⟨hd, rfl⟩ := hd
  intro p l e s m args below meth c mc ms cells slots H locs ls D cA ad ad0 N0 C hl
  have hk := k C hl (below := below)
  obtain ⟨⟨hx, hb, hml, hr, hlo, hown, hnm, htb, hll⟩, hts, hF, hcs, hK, hN, hP, hD, hS⟩ := C
  exact va_mmin hx hb (hml.trans hl.1.symm) hown (hts _ hw.1) (hts _ hw.2.1) (hts _ hw.2.2.1) (hts _ hw.2.2.2) hdd.1 (by rw [xcat]; show _ + 13 ≤ d.2; omega) (by show cells ≤ mc; omega) (by show slots ≤ ms; omega) hd hk
def xwcopy (own : String) (idx : Nat) : Prop := Cond.methodLink own idx arraycopyName ∈ xtb ∧ Cond.native arraycopyName ∈ xtb ∧ Cond.static arraycopyName ∈ xtb ∧ Cond.initialized "java/lang/System" ∈ xtb
theorem xr_copyi {a0 a1 n0 n1 : Nat} {f g : Nat → Int32} {ty : FieldType} {sp dp n : Int32} {h' : List xC} {q9 : Nat} (hd : xd M pc (.invokestatic idx) 3 q9) (hw : xwcopy M.1.cls idx) (hty : xtok ty) (hprim : refKind ty = false) (ha0 : h[a0]? = some (.inr (ty, n0, .inl f))) (ha1 : h[a1]? = some (.inr (ty, n1, .inl g)))
    (h1 : ¬ sp < 0) (h2 : ¬ dp < 0) (h3 : ¬ n < 0) (h4 : sp.toNatClampNeg + n.toNatClampNeg ≤ n0) (h5 : dp.toNatClampNeg + n.toNatClampNeg ≤ n1) (hfit : ∀ i, i < n.toNatClampNeg → fits ty (.int (f (sp.toNatClampNeg + i))) = true)
    (hdd : 1 ≤ d.1) (hnw : 8 + (nativeFrameWords "java/lang/System" "arraycopy" 5 + 11) ≤ d.2) (hcat : (st.map fun v => v.category).sum ≤ 8) (hh : h.set a1 (.inr (ty, n1, .inl (va_cpy f g sp.toNatClampNeg dp.toNatClampNeg n.toNatClampNeg))) = h')
    (kk : xr M sc d q9 lo st h' rc rs Q) : xr M sc d pc lo (.int n :: .int dp :: .ref a1 :: .int sp :: .ref a0 :: st) h rc rs Q := by
  obtain ⟨hd, rfl⟩ := hd
  intro p l e s m args below meth c mc ms cells slots H locs ls D cA ad ad0 N0 C hl
  subst hh
  obtain ⟨⟨hx, hb, hml, hr, hlo, hown, hnm, htb, hll⟩, hts, hF, hcs, hK, hN, hP, hD, hS⟩ := C
  refine va_copyi hx hb (hml.trans hl.1.symm) hown (hts _ hw.1) (hts _ hw.2.1) (hts _ hw.2.2.1) (hts _ hw.2.2.2) hK hP hD hS a0 a1 (xti ty) (xti ty) (xw_at (cA := cA) (ad := ad) ha0) (xw_at (cA := cA) (ad := ad) ha1) (xt_at hty) (xt_at hty) hprim h1 h2 h3 h4 h5 hfit hdd (by rw [xcat]; show _ ≤ d.2; omega) hd (fun H1 locs1 hP1 hD1 hS1 => ?_)
  have hset : (xw cA ad h).set a1 (ad a1, .inl (cA ty, n1, .inl (va_cpy f g sp.toNatClampNeg dp.toNatClampNeg n.toNatClampNeg))) = xw cA ad (h.set a1 (.inr (ty, n1, .inl (va_cpy f g sp.toNatClampNeg dp.toNatClampNeg n.toNatClampNeg)))) := xw_set (c := (.inr (ty, n1, .inl (va_cpy f g sp.toNatClampNeg dp.toNatClampNeg n.toNatClampNeg))))
  rw [hset] at hP1 hD1
  exact kk ⟨⟨hx, hb, hml, hr, hlo, hown, hnm, htb, hll⟩, hts, hF, hcs, hK, by rw [List.length_set]; exact hN, hP1, hD1, hS1⟩ hl
theorem xr_getsA {C n ds : String} {t N : Nat} {f : Nat → Int32} {q9 : Nat} (hd : xd M pc (.getstatic idx) 3 q9) (hq : (C, n, ds, t, N, f) ∈ xsa) (hlk : Cond.fieldLink M.1.cls idx C n ds ∈ xtb) (k : xr M sc d q9 lo (.ref t :: st) h rc rs Q) : xr M sc d pc lo st h rc rs Q := by
  obtain ⟨hd, rfl⟩ := hd
  intro p l e s m args below meth c mc ms cells slots H locs ls D cA ad ad0 N0 C9 hl
  have hk := k C9 hl (below := below)
  obtain ⟨⟨hx, hb, hml, hr, hlo, hown, hnm, htb, hll⟩, hts, hF, hcs, hK, hN, hP, hD, hS⟩ := C9
  obtain ⟨hZ, hT, ht⟩ := hF.2.2.2.2.1 _ hq
  dsimp only at hZ hT ht
  have e9 : ad t = ad0 t := hN.2.1 _ (Or.inr (Nat.le_trans hN.2.2.2 ht))
  have hk : W p l e (xrm d mc ms) s m args below meth c H locs cells slots (xQ below D cA ad0 N0 Q s mc ms) (F0 m (pc + 3) ls (.ref (ad t) :: st.map (xv ad))) := hk
  rw [e9] at hk
  exact va_gets hx hb hZ hS hown (hts _ hlk) (fun _ h9 => h9) hd hk
theorem xr_tald {C n ds : String} {t N : Nat} {f : Nat → Int32} {i : Int32} {q9 : Nat} (hd : xd M pc (.iaload) 1 q9) (hq : (C, n, ds, t, N, f) ∈ xsa) (hin : vp_in i N) (k : xr M sc d q9 lo (.int (f i.toNatClampNeg) :: st) h rc rs Q) : xr M sc d pc lo (.int i :: .ref t :: st) h rc rs Q := by
  obtain ⟨hd, rfl⟩ := hd
  intro p l e s m args below meth c mc ms cells slots H locs ls D cA ad ad0 N0 C9 hl
  have hk := k C9 hl (below := below)
  obtain ⟨⟨hx, hb, hml, hr, hlo, hown, hnm, htb, hll⟩, hts, hF, hcs, hK, hN, hP, hD, hS⟩ := C9
  obtain ⟨hZ, hT, ht⟩ := hF.2.2.2.2.1 _ hq
  dsimp only at hZ hT ht
  have e9 : ad t = ad0 t := hN.2.1 _ (Or.inr (Nat.le_trans hN.2.2.2 ht))
  show W p l e _ s m args below meth c H locs cells slots _ (F0 m pc ls (.int i :: .ref (ad t) :: st.map (xv ad)))
  rw [e9]
  exact va_ti hx hb hT hS hin rfl hd hk
theorem xr_tlen {C n ds : String} {t N : Nat} {f : Nat → Int32} {v : Int32} {q9 : Nat} (hd : xd M pc (.arraylength) 1 q9) (hq : (C, n, ds, t, N, f) ∈ xsa) (hv : Int32.ofNat N = v) (k : xr M sc d q9 lo (.int v :: st) h rc rs Q) : xr M sc d pc lo (.ref t :: st) h rc rs Q := by
  obtain ⟨hd, rfl⟩ := hd
  intro p l e s m args below meth c mc ms cells slots H locs ls D cA ad ad0 N0 C9 hl
  have hk := k C9 hl (below := below)
  obtain ⟨⟨hx, hb, hml, hr, hlo, hown, hnm, htb, hll⟩, hts, hF, hcs, hK, hN, hP, hD, hS⟩ := C9
  obtain ⟨hZ, hT, ht⟩ := hF.2.2.2.2.1 _ hq
  dsimp only at hZ hT ht
  have e9 : ad t = ad0 t := hN.2.1 _ (Or.inr (Nat.le_trans hN.2.2.2 ht))
  show W p l e _ s m args below meth c H locs cells slots _ (F0 m pc ls (.ref (ad t) :: st.map (xv ad)))
  rw [e9]
  exact va_tlen hx hb hT hS hv hd hk
theorem xr_lret {v : Int64} {q9 : Nat} (hrt : M.2.2.2.1 = some .long) (hd : xd M pc (.lreturn) 1 q9) (hq : Q (.inl (some (.long v)), h)) : xr M sc d pc lo [.long v] h rc rs Q := by
  obtain ⟨hd, rfl⟩ := hd
  intro p l e s m args below meth c mc ms cells slots H locs ls D cA ad ad0 N0 C hl
  obtain ⟨⟨hx, hb, hml, hr, hlo, hown, hnm, htb, hll⟩, hts, hF, hcs, hK, hN, hP, hD, hS⟩ := C
  refine W.widen (k := mc) (n := ms) (by omega) (by omega) ?_
  refine W.mono ?_ (W.lret (Qc := fun _ _ oc t => oc = .returned (some (.long v)) ∧ t.heap = H) (free := xA ad0 N0 s.heap.size) (v := v) hx hb (hr.trans hrt) (fun t ht hW => ⟨rfl, ht⟩) hS.2.2 hd hlo)
  rintro t ⟨oc, h1, h2, ⟨rfl, ht⟩, L, ⟨-, hW, hsm⟩, hL⟩
  exact ⟨_, _, hq, h1, h2, xE_ret (v := some (.long v)) hN.1 hN.2.1 hP hD hS ht hW hsm hL⟩
theorem xr_cV {n b ci q9 : Nat} {fs : List Value} (hM : xm M' d' (.ref b :: as) h mc' ms' P) (hlk : xlV M.1.cls idx M'.1 n) (hcd : xcd M') (hci : ∃ (T : u_T) (N : Nat), vwCl[ci]? = some (M'.1.cls, T, N)) (hd : xd M pc (.invokevirtual idx) 3 q9) (hn : as.length = n) (hb0 : h[b]? = some (.inl (ci, fs)))
    (hdd : d'.1 + 1 ≤ d.1 ∧ M'.2.2.1 + 19 + d'.2 ≤ d.2) (hcat : (st.map fun v => v.category).sum ≤ 8) (hrc : mc' + rc' ≤ rc) (hrs : ms' + rs' ≤ rs) (hl9 : h.length ≤ 1000000)
    (kk : ∀ o, P o → ∃ v h', o = (.inl v, h') ∧ h'.length = h.length ∧ xr M sc d q9 lo (v.toList ++ st) h' rc' rs' Q) : xr M sc d pc lo (as.reverse ++ .ref b :: st) h rc rs Q := by
  refine xr_callVA hM (fun o ho => ?_) hlk hcd hn hd hb0 hci hdd hcat hrc hrs (fun v h' hP => ?_)
  · obtain ⟨v, h', rfl, -, -⟩ := kk o ho
    exact ⟨v, rfl⟩
  · obtain ⟨v2, h2, he, hlen, hk⟩ := kk _ hP
    cases he
    exact ⟨by omega, xw1_same hlen, hk⟩
theorem xr_cS {n q9 : Nat} (hM : xm M' d' as h mc' ms' P) (hlk : xlS M.1.cls idx M'.1 n) (hcd : xcd M') (hd : xd M pc (.invokestatic idx) 3 q9) (hn : as.length = n)
    (hdd : d'.1 + 1 ≤ d.1 ∧ M'.2.2.1 + 19 + d'.2 ≤ d.2) (hcat : (st.map fun v => v.category).sum ≤ 8) (hrc : mc' + rc' ≤ rc) (hrs : ms' + rs' ≤ rs) (hl9 : h.length ≤ 1000000)
    (kk : ∀ o, P o → ∃ v h', o = (.inl v, h') ∧ h'.length = h.length ∧ xr M sc d q9 lo (v.toList ++ st) h' rc' rs' Q) : xr M sc d pc lo (as.reverse ++ st) h rc rs Q := by
  refine xr_callSA hM (fun o ho => ?_) hlk hcd hn hd hdd hcat hrc hrs (fun v h' hP => ?_)
  · obtain ⟨v, h', rfl, -, -⟩ := kk o ho
    exact ⟨v, rfl⟩
  · obtain ⟨v2, h2, he, hlen, hk⟩ := kk _ hP
    cases he
    exact ⟨by omega, xw1_same hlen, hk⟩
end XJ
theorem xm_mono {M : xM} {d : Nat × Nat} {as : List Value} {h : List xC} {mc ms : Nat} {P P' : xO → Prop} (hM : xm M d as h mc ms P) (hp : ∀ o, P o → P' o) : xm M d as h mc ms P' := by
  intro l hl D cA ad0 p e ha hc hk s m args below hf happ hP hK
  obtain ⟨n, oc, h1, h2, h3, o, h4, h5⟩ := hM l hl D cA ad0 p e ha hc hk s m args below hf happ hP hK
  exact ⟨n, oc, h1, h2, h3, o, hp o h4, h5⟩
theorem xr_mono {M : xM} {sc : xSc} {d : Nat × Nat} {pc : Nat} {lo : xL} {st : List Value} {h : List xC} {rc rs : Nat} {Q Q' : xO → Prop} (hk : xr M sc d pc lo st h rc rs Q) (hq : ∀ o, Q o → Q' o) : xr M sc d pc lo st h rc rs Q' := by
  intro p l e s m args below meth c mc ms cells slots H locs ls D cA ad ad0 N0 C hl
  refine W.mono ?_ (hk C hl)
  rintro t ⟨oc, o, h1, h2, h3, h4⟩
  exact ⟨oc, o, hq o h1, h2, h3, h4⟩
theorem xr_lo {M : xM} {sc : xSc} {d : Nat × Nat} {pc : Nat} {lo lo' : xL} {st : List Value} {h : List xC} {rc rs : Nat} {Q : xO → Prop} (hs : ∀ (i : Nat) (v : Value), lo'[i]? = some (some v) → lo[i]? = some (some v)) (hk : xr M sc d pc lo' st h rc rs Q) : xr M sc d pc lo st h rc rs Q := by
  intro p l e s m args below meth c mc ms cells slots H locs ls D cA ad ad0 N0 C hl
  refine hk C ⟨hl.1, hl.2.1, fun q hq => ?_⟩
  obtain ⟨v, h1, h2⟩ := xlv_mem.mp hq
  exact hl.2.2 q (xlv_mem.mpr ⟨v, hs _ _ h1, h2⟩)
theorem xr_room {M : xM} {sc : xSc} {d : Nat × Nat} {pc : Nat} {lo : xL} {st : List Value} {h : List xC} {rc rs rc' rs' : Nat} {Q : xO → Prop} (h1 : rc' ≤ rc) (h2 : rs' ≤ rs) (hk : xr M sc d pc lo st h rc' rs' Q) : xr M sc d pc lo st h rc rs Q := by
  intro p l e s m args below meth c mc ms cells slots H locs ls D cA ad ad0 N0 C hl
  obtain ⟨c1, c2, c3, c4, c5⟩ := C
  exact hk ⟨c1, c2, c3, ⟨by omega, by omega⟩, c5⟩ hl
end
section
theorem xtb_at (i : Nat) {w : Cond} (h : lw_tbl[i]? = some w) (hg : goodWord w = true) : w ∈ xtb := xtb_in (List.mem_of_getElem? h) hg
theorem xnest_at (i : Nat) {w : Cond} (h : lw_tbl[i]? = some w) (hg : xisN w = true) : w ∈ xnest := List.mem_filter.mpr ⟨List.mem_of_getElem? h, hg⟩
theorem in_By : ∀ w ∈ u_ws "DviBytes$Bytes" T_By 2, w ∈ xtb := by
  have h : ∀ w ∈ u_ws "DviBytes$Bytes" T_By 2, w ∈ lw_tbl ∧ goodWord w = true := by decide +kernel
  exact fun w hw => xtb_in (h w hw).1 (h w hw).2
theorem CI_By : ∃ (T : u_T) (N : Nat), vwCl[0]? = some ("DviBytes$Bytes", T, N) := ⟨_, _, rfl⟩
theorem FT_By : xft 0 y_By := ⟨_, _, _, rfl, by decide +kernel, by decide +kernel⟩
theorem FN_By_0 : xfin 0 0 true := ⟨_, _, _, rfl, rfl, rfl⟩
theorem FN_By_1 : xfin 0 1 false := ⟨_, _, _, rfl, rfl, rfl⟩
theorem in_Fo : ∀ w ∈ u_ws "DviBytes$Fonts" T_Fo 6, w ∈ xtb := by
  have h : ∀ w ∈ u_ws "DviBytes$Fonts" T_Fo 6, w ∈ lw_tbl ∧ goodWord w = true := by decide +kernel
  exact fun w hw => xtb_in (h w hw).1 (h w hw).2
theorem CI_Fo : ∃ (T : u_T) (N : Nat), vwCl[1]? = some ("DviBytes$Fonts", T, N) := ⟨_, _, rfl⟩
theorem FT_Fo : xft 1 y_Fo := ⟨_, _, _, rfl, by decide +kernel, by decide +kernel⟩
theorem FN_Fo_0 : xfin 1 0 true := ⟨_, _, _, rfl, rfl, rfl⟩
theorem FN_Fo_1 : xfin 1 1 true := ⟨_, _, _, rfl, rfl, rfl⟩
theorem FN_Fo_2 : xfin 1 2 true := ⟨_, _, _, rfl, rfl, rfl⟩
theorem FN_Fo_3 : xfin 1 3 true := ⟨_, _, _, rfl, rfl, rfl⟩
theorem FN_Fo_4 : xfin 1 4 true := ⟨_, _, _, rfl, rfl, rfl⟩
theorem FN_Fo_5 : xfin 1 5 true := ⟨_, _, _, rfl, rfl, rfl⟩
theorem in_Rd : ∀ w ∈ u_ws "DviBytes$Reader" T_Rd 14, w ∈ xtb := by
  have h : ∀ w ∈ u_ws "DviBytes$Reader" T_Rd 14, w ∈ lw_tbl ∧ goodWord w = true := by decide +kernel
  exact fun w hw => xtb_in (h w hw).1 (h w hw).2
theorem CI_Rd : ∃ (T : u_T) (N : Nat), vwCl[2]? = some ("DviBytes$Reader", T, N) := ⟨_, _, rfl⟩
theorem FT_Rd : xft 2 y_Rd := ⟨_, _, _, rfl, by decide +kernel, by decide +kernel⟩
theorem FN_Rd_0 : xfin 2 0 true := ⟨_, _, _, rfl, rfl, rfl⟩
theorem FN_Rd_1 : xfin 2 1 true := ⟨_, _, _, rfl, rfl, rfl⟩
theorem FN_Rd_2 : xfin 2 2 true := ⟨_, _, _, rfl, rfl, rfl⟩
theorem FN_Rd_3 : xfin 2 3 true := ⟨_, _, _, rfl, rfl, rfl⟩
theorem FN_Rd_4 : xfin 2 4 true := ⟨_, _, _, rfl, rfl, rfl⟩
theorem FN_Rd_5 : xfin 2 5 false := ⟨_, _, _, rfl, rfl, rfl⟩
theorem FN_Rd_6 : xfin 2 6 false := ⟨_, _, _, rfl, rfl, rfl⟩
theorem FN_Rd_7 : xfin 2 7 false := ⟨_, _, _, rfl, rfl, rfl⟩
theorem FN_Rd_8 : xfin 2 8 false := ⟨_, _, _, rfl, rfl, rfl⟩
theorem FN_Rd_9 : xfin 2 9 false := ⟨_, _, _, rfl, rfl, rfl⟩
theorem FN_Rd_10 : xfin 2 10 false := ⟨_, _, _, rfl, rfl, rfl⟩
theorem FN_Rd_11 : xfin 2 11 false := ⟨_, _, _, rfl, rfl, rfl⟩
theorem FN_Rd_12 : xfin 2 12 false := ⟨_, _, _, rfl, rfl, rfl⟩
theorem FN_Rd_13 : xfin 2 13 false := ⟨_, _, _, rfl, rfl, rfl⟩
theorem in_Rg : ∀ w ∈ u_ws "DviBytes$Reading" T_Rg 12, w ∈ xtb := by
  have h : ∀ w ∈ u_ws "DviBytes$Reading" T_Rg 12, w ∈ lw_tbl ∧ goodWord w = true := by decide +kernel
  exact fun w hw => xtb_in (h w hw).1 (h w hw).2
theorem CI_Rg : ∃ (T : u_T) (N : Nat), vwCl[3]? = some ("DviBytes$Reading", T, N) := ⟨_, _, rfl⟩
theorem FT_Rg : xft 3 y_Rg := ⟨_, _, _, rfl, by decide +kernel, by decide +kernel⟩
theorem FN_Rg_0 : xfin 3 0 true := ⟨_, _, _, rfl, rfl, rfl⟩
theorem FN_Rg_1 : xfin 3 1 true := ⟨_, _, _, rfl, rfl, rfl⟩
theorem FN_Rg_2 : xfin 3 2 true := ⟨_, _, _, rfl, rfl, rfl⟩
theorem FN_Rg_3 : xfin 3 3 true := ⟨_, _, _, rfl, rfl, rfl⟩
theorem FN_Rg_4 : xfin 3 4 true := ⟨_, _, _, rfl, rfl, rfl⟩
theorem FN_Rg_5 : xfin 3 5 false := ⟨_, _, _, rfl, rfl, rfl⟩
theorem FN_Rg_6 : xfin 3 6 false := ⟨_, _, _, rfl, rfl, rfl⟩
theorem FN_Rg_7 : xfin 3 7 false := ⟨_, _, _, rfl, rfl, rfl⟩
theorem FN_Rg_8 : xfin 3 8 false := ⟨_, _, _, rfl, rfl, rfl⟩
theorem FN_Rg_9 : xfin 3 9 false := ⟨_, _, _, rfl, rfl, rfl⟩
theorem FN_Rg_10 : xfin 3 10 false := ⟨_, _, _, rfl, rfl, rfl⟩
theorem FN_Rg_11 : xfin 3 11 false := ⟨_, _, _, rfl, rfl, rfl⟩
theorem in_Sh : ∀ w ∈ u_ws "DviBytes$Sheet" T_Sh 2, w ∈ xtb := by
  have h : ∀ w ∈ u_ws "DviBytes$Sheet" T_Sh 2, w ∈ lw_tbl ∧ goodWord w = true := by decide +kernel
  exact fun w hw => xtb_in (h w hw).1 (h w hw).2
theorem CI_Sh : ∃ (T : u_T) (N : Nat), vwCl[4]? = some ("DviBytes$Sheet", T, N) := ⟨_, _, rfl⟩
theorem FT_Sh : xft 4 y_Sh := ⟨_, _, _, rfl, by decide +kernel, by decide +kernel⟩
theorem FN_Sh_0 : xfin 4 0 true := ⟨_, _, _, rfl, rfl, rfl⟩
theorem FN_Sh_1 : xfin 4 1 false := ⟨_, _, _, rfl, rfl, rfl⟩
theorem in_Wa : ∀ w ∈ u_ws "DviBytes$Way" T_Wa 5, w ∈ xtb := by
  have h : ∀ w ∈ u_ws "DviBytes$Way" T_Wa 5, w ∈ lw_tbl ∧ goodWord w = true := by decide +kernel
  exact fun w hw => xtb_in (h w hw).1 (h w hw).2
theorem CI_Wa : ∃ (T : u_T) (N : Nat), vwCl[5]? = some ("DviBytes$Way", T, N) := ⟨_, _, rfl⟩
theorem FT_Wa : xft 5 y_Wa := ⟨_, _, _, rfl, by decide +kernel, by decide +kernel⟩
theorem FN_Wa_0 : xfin 5 0 true := ⟨_, _, _, rfl, rfl, rfl⟩
theorem FN_Wa_1 : xfin 5 1 true := ⟨_, _, _, rfl, rfl, rfl⟩
theorem FN_Wa_2 : xfin 5 2 false := ⟨_, _, _, rfl, rfl, rfl⟩
theorem FN_Wa_3 : xfin 5 3 false := ⟨_, _, _, rfl, rfl, rfl⟩
theorem FN_Wa_4 : xfin 5 4 false := ⟨_, _, _, rfl, rfl, rfl⟩
theorem in_Wi : ∀ w ∈ u_ws "DviBytes$Widths" T_Wi 1, w ∈ xtb := by
  have h : ∀ w ∈ u_ws "DviBytes$Widths" T_Wi 1, w ∈ lw_tbl ∧ goodWord w = true := by decide +kernel
  exact fun w hw => xtb_in (h w hw).1 (h w hw).2
theorem CI_Wi : ∃ (T : u_T) (N : Nat), vwCl[6]? = some ("DviBytes$Widths", T, N) := ⟨_, _, rfl⟩
theorem FT_Wi : xft 6 y_Wi := ⟨_, _, _, rfl, by decide +kernel, by decide +kernel⟩
theorem FN_Wi_0 : xfin 6 0 true := ⟨_, _, _, rfl, rfl, rfl⟩
theorem in_Wr : ∀ w ∈ u_ws "DviBytes$Writer" T_Wr 17, w ∈ xtb := by
  have h : ∀ w ∈ u_ws "DviBytes$Writer" T_Wr 17, w ∈ lw_tbl ∧ goodWord w = true := by decide +kernel
  exact fun w hw => xtb_in (h w hw).1 (h w hw).2
theorem CI_Wr : ∃ (T : u_T) (N : Nat), vwCl[7]? = some ("DviBytes$Writer", T, N) := ⟨_, _, rfl⟩
theorem FT_Wr : xft 7 y_Wr := ⟨_, _, _, rfl, by decide +kernel, by decide +kernel⟩
theorem FN_Wr_0 : xfin 7 0 true := ⟨_, _, _, rfl, rfl, rfl⟩
theorem FN_Wr_1 : xfin 7 1 true := ⟨_, _, _, rfl, rfl, rfl⟩
theorem FN_Wr_2 : xfin 7 2 true := ⟨_, _, _, rfl, rfl, rfl⟩
theorem FN_Wr_3 : xfin 7 3 true := ⟨_, _, _, rfl, rfl, rfl⟩
theorem FN_Wr_4 : xfin 7 4 true := ⟨_, _, _, rfl, rfl, rfl⟩
theorem FN_Wr_5 : xfin 7 5 true := ⟨_, _, _, rfl, rfl, rfl⟩
theorem FN_Wr_6 : xfin 7 6 true := ⟨_, _, _, rfl, rfl, rfl⟩
theorem FN_Wr_7 : xfin 7 7 false := ⟨_, _, _, rfl, rfl, rfl⟩
theorem FN_Wr_8 : xfin 7 8 false := ⟨_, _, _, rfl, rfl, rfl⟩
theorem FN_Wr_9 : xfin 7 9 false := ⟨_, _, _, rfl, rfl, rfl⟩
theorem FN_Wr_10 : xfin 7 10 false := ⟨_, _, _, rfl, rfl, rfl⟩
theorem FN_Wr_11 : xfin 7 11 false := ⟨_, _, _, rfl, rfl, rfl⟩
theorem FN_Wr_12 : xfin 7 12 false := ⟨_, _, _, rfl, rfl, rfl⟩
theorem FN_Wr_13 : xfin 7 13 false := ⟨_, _, _, rfl, rfl, rfl⟩
theorem FN_Wr_14 : xfin 7 14 false := ⟨_, _, _, rfl, rfl, rfl⟩
theorem FN_Wr_15 : xfin 7 15 false := ⟨_, _, _, rfl, rfl, rfl⟩
theorem FN_Wr_16 : xfin 7 16 false := ⟨_, _, _, rfl, rfl, rfl⟩
theorem in_Dv : ∀ w ∈ u_ws "DviBytes" T_Dv 8, w ∈ xtb := by
  have h : ∀ w ∈ u_ws "DviBytes" T_Dv 8, w ∈ lw_tbl ∧ goodWord w = true := by decide +kernel
  exact fun w hw => xtb_in (h w hw).1 (h w hw).2
theorem CI_Dv : ∃ (T : u_T) (N : Nat), vwCl[8]? = some ("DviBytes", T, N) := ⟨_, _, rfl⟩
theorem FT_Dv : xft 8 y_Dv := ⟨_, _, _, rfl, by decide +kernel, by decide +kernel⟩
theorem FN_Dv_0 : xfin 8 0 true := ⟨_, _, _, rfl, rfl, rfl⟩
theorem FN_Dv_1 : xfin 8 1 true := ⟨_, _, _, rfl, rfl, rfl⟩
theorem FN_Dv_2 : xfin 8 2 true := ⟨_, _, _, rfl, rfl, rfl⟩
theorem FN_Dv_3 : xfin 8 3 true := ⟨_, _, _, rfl, rfl, rfl⟩
theorem FN_Dv_4 : xfin 8 4 true := ⟨_, _, _, rfl, rfl, rfl⟩
theorem FN_Dv_5 : xfin 8 5 true := ⟨_, _, _, rfl, rfl, rfl⟩
theorem FN_Dv_6 : xfin 8 6 true := ⟨_, _, _, rfl, rfl, rfl⟩
theorem FN_Dv_7 : xfin 8 7 true := ⟨_, _, _, rfl, rfl, rfl⟩
theorem in_Mo : ∀ w ∈ u_ws "DviBytesModel" T_Mo 53, w ∈ xtb := by
  have h : ∀ w ∈ u_ws "DviBytesModel" T_Mo 53, w ∈ lw_tbl ∧ goodWord w = true := by decide +kernel
  exact fun w hw => xtb_in (h w hw).1 (h w hw).2
theorem CI_Mo : ∃ (T : u_T) (N : Nat), vwCl[9]? = some ("DviBytesModel", T, N) := ⟨_, _, rfl⟩
theorem FT_Mo : xft 9 y_Mo := ⟨_, _, _, rfl, by decide +kernel, by decide +kernel⟩
theorem FN_Mo_0 : xfin 9 0 false := ⟨_, _, _, rfl, rfl, rfl⟩
theorem FN_Mo_1 : xfin 9 1 true := ⟨_, _, _, rfl, rfl, rfl⟩
theorem FN_Mo_2 : xfin 9 2 true := ⟨_, _, _, rfl, rfl, rfl⟩
theorem FN_Mo_3 : xfin 9 3 true := ⟨_, _, _, rfl, rfl, rfl⟩
theorem FN_Mo_4 : xfin 9 4 true := ⟨_, _, _, rfl, rfl, rfl⟩
theorem FN_Mo_5 : xfin 9 5 true := ⟨_, _, _, rfl, rfl, rfl⟩
theorem FN_Mo_6 : xfin 9 6 true := ⟨_, _, _, rfl, rfl, rfl⟩
theorem FN_Mo_7 : xfin 9 7 true := ⟨_, _, _, rfl, rfl, rfl⟩
theorem FN_Mo_8 : xfin 9 8 true := ⟨_, _, _, rfl, rfl, rfl⟩
theorem FN_Mo_9 : xfin 9 9 false := ⟨_, _, _, rfl, rfl, rfl⟩
theorem FN_Mo_10 : xfin 9 10 true := ⟨_, _, _, rfl, rfl, rfl⟩
theorem FN_Mo_11 : xfin 9 11 false := ⟨_, _, _, rfl, rfl, rfl⟩
theorem FN_Mo_12 : xfin 9 12 false := ⟨_, _, _, rfl, rfl, rfl⟩
theorem FN_Mo_13 : xfin 9 13 false := ⟨_, _, _, rfl, rfl, rfl⟩
theorem FN_Mo_14 : xfin 9 14 false := ⟨_, _, _, rfl, rfl, rfl⟩
theorem FN_Mo_15 : xfin 9 15 false := ⟨_, _, _, rfl, rfl, rfl⟩
theorem FN_Mo_16 : xfin 9 16 false := ⟨_, _, _, rfl, rfl, rfl⟩
theorem FN_Mo_17 : xfin 9 17 false := ⟨_, _, _, rfl, rfl, rfl⟩
theorem FN_Mo_18 : xfin 9 18 false := ⟨_, _, _, rfl, rfl, rfl⟩
theorem FN_Mo_19 : xfin 9 19 true := ⟨_, _, _, rfl, rfl, rfl⟩
theorem FN_Mo_20 : xfin 9 20 false := ⟨_, _, _, rfl, rfl, rfl⟩
theorem FN_Mo_21 : xfin 9 21 true := ⟨_, _, _, rfl, rfl, rfl⟩
theorem FN_Mo_22 : xfin 9 22 true := ⟨_, _, _, rfl, rfl, rfl⟩
theorem FN_Mo_23 : xfin 9 23 true := ⟨_, _, _, rfl, rfl, rfl⟩
theorem FN_Mo_24 : xfin 9 24 true := ⟨_, _, _, rfl, rfl, rfl⟩
theorem FN_Mo_25 : xfin 9 25 true := ⟨_, _, _, rfl, rfl, rfl⟩
theorem FN_Mo_26 : xfin 9 26 true := ⟨_, _, _, rfl, rfl, rfl⟩
theorem FN_Mo_27 : xfin 9 27 true := ⟨_, _, _, rfl, rfl, rfl⟩
theorem FN_Mo_28 : xfin 9 28 true := ⟨_, _, _, rfl, rfl, rfl⟩
theorem FN_Mo_29 : xfin 9 29 false := ⟨_, _, _, rfl, rfl, rfl⟩
theorem FN_Mo_30 : xfin 9 30 true := ⟨_, _, _, rfl, rfl, rfl⟩
theorem FN_Mo_31 : xfin 9 31 true := ⟨_, _, _, rfl, rfl, rfl⟩
theorem FN_Mo_32 : xfin 9 32 false := ⟨_, _, _, rfl, rfl, rfl⟩
theorem FN_Mo_33 : xfin 9 33 true := ⟨_, _, _, rfl, rfl, rfl⟩
theorem FN_Mo_34 : xfin 9 34 false := ⟨_, _, _, rfl, rfl, rfl⟩
theorem FN_Mo_35 : xfin 9 35 true := ⟨_, _, _, rfl, rfl, rfl⟩
theorem FN_Mo_36 : xfin 9 36 false := ⟨_, _, _, rfl, rfl, rfl⟩
theorem FN_Mo_37 : xfin 9 37 true := ⟨_, _, _, rfl, rfl, rfl⟩
theorem FN_Mo_38 : xfin 9 38 true := ⟨_, _, _, rfl, rfl, rfl⟩
theorem FN_Mo_39 : xfin 9 39 false := ⟨_, _, _, rfl, rfl, rfl⟩
theorem FN_Mo_40 : xfin 9 40 false := ⟨_, _, _, rfl, rfl, rfl⟩
theorem FN_Mo_41 : xfin 9 41 false := ⟨_, _, _, rfl, rfl, rfl⟩
theorem FN_Mo_42 : xfin 9 42 false := ⟨_, _, _, rfl, rfl, rfl⟩
theorem FN_Mo_43 : xfin 9 43 false := ⟨_, _, _, rfl, rfl, rfl⟩
theorem FN_Mo_44 : xfin 9 44 false := ⟨_, _, _, rfl, rfl, rfl⟩
theorem FN_Mo_45 : xfin 9 45 false := ⟨_, _, _, rfl, rfl, rfl⟩
theorem FN_Mo_46 : xfin 9 46 false := ⟨_, _, _, rfl, rfl, rfl⟩
theorem FN_Mo_47 : xfin 9 47 false := ⟨_, _, _, rfl, rfl, rfl⟩
theorem FN_Mo_48 : xfin 9 48 false := ⟨_, _, _, rfl, rfl, rfl⟩
theorem FN_Mo_49 : xfin 9 49 false := ⟨_, _, _, rfl, rfl, rfl⟩
theorem FN_Mo_50 : xfin 9 50 false := ⟨_, _, _, rfl, rfl, rfl⟩
theorem FN_Mo_51 : xfin 9 51 true := ⟨_, _, _, rfl, rfl, rfl⟩
theorem FN_Mo_52 : xfin 9 52 true := ⟨_, _, _, rfl, rfl, rfl⟩
theorem F_Wi_10 : xfl "DviBytes$Widths" 10 6 0 := ⟨_, _, _, rfl, by decide, in_Wi, Or.inl (xtb_at 97 (by decide +kernel) (by decide +kernel))⟩
theorem F_Fo_9 : xfl "DviBytes$Fonts" 9 1 0 := ⟨_, _, _, rfl, by decide, in_Fo, Or.inl (xtb_at 108 (by decide +kernel) (by decide +kernel))⟩
theorem F_Fo_15 : xfl "DviBytes$Fonts" 15 1 1 := ⟨_, _, _, rfl, by decide, in_Fo, Or.inl (xtb_at 109 (by decide +kernel) (by decide +kernel))⟩
theorem F_Fo_18 : xfl "DviBytes$Fonts" 18 1 2 := ⟨_, _, _, rfl, by decide, in_Fo, Or.inl (xtb_at 110 (by decide +kernel) (by decide +kernel))⟩
theorem F_Fo_21 : xfl "DviBytes$Fonts" 21 1 3 := ⟨_, _, _, rfl, by decide, in_Fo, Or.inl (xtb_at 111 (by decide +kernel) (by decide +kernel))⟩
theorem F_Fo_25 : xfl "DviBytes$Fonts" 25 1 4 := ⟨_, _, _, rfl, by decide, in_Fo, Or.inl (xtb_at 112 (by decide +kernel) (by decide +kernel))⟩
theorem F_Fo_28 : xfl "DviBytes$Fonts" 28 1 5 := ⟨_, _, _, rfl, by decide, in_Fo, Or.inl (xtb_at 113 (by decide +kernel) (by decide +kernel))⟩
theorem F_Sh_11 : xfl "DviBytes$Sheet" 11 4 0 := ⟨_, _, _, rfl, by decide, in_Sh, Or.inl (xtb_at 134 (by decide +kernel) (by decide +kernel))⟩
theorem F_Sh_15 : xfl "DviBytes$Sheet" 15 4 1 := ⟨_, _, _, rfl, by decide, in_Sh, Or.inl (xtb_at 135 (by decide +kernel) (by decide +kernel))⟩
theorem F_By_10 : xfl "DviBytes$Bytes" 10 0 0 := ⟨_, _, _, rfl, by decide, in_By, Or.inl (xtb_at 154 (by decide +kernel) (by decide +kernel))⟩
theorem F_By_16 : xfl "DviBytes$Bytes" 16 0 1 := ⟨_, _, _, rfl, by decide, in_By, Or.inl (xtb_at 155 (by decide +kernel) (by decide +kernel))⟩
theorem F_Wa_15 : xfl "DviBytes$Way" 15 5 0 := ⟨_, _, _, rfl, by decide, in_Wa, Or.inl (xtb_at 168 (by decide +kernel) (by decide +kernel))⟩
theorem F_Wa_9 : xfl "DviBytes$Way" 9 5 1 := ⟨_, _, _, rfl, by decide, in_Wa, Or.inl (xtb_at 169 (by decide +kernel) (by decide +kernel))⟩
theorem F_Wa_19 : xfl "DviBytes$Way" 19 5 2 := ⟨_, _, _, rfl, by decide, in_Wa, Or.inl (xtb_at 170 (by decide +kernel) (by decide +kernel))⟩
theorem F_Wa_22 : xfl "DviBytes$Way" 22 5 3 := ⟨_, _, _, rfl, by decide, in_Wa, Or.inl (xtb_at 171 (by decide +kernel) (by decide +kernel))⟩
theorem F_Wa_25 : xfl "DviBytes$Way" 25 5 4 := ⟨_, _, _, rfl, by decide, in_Wa, Or.inl (xtb_at 172 (by decide +kernel) (by decide +kernel))⟩
theorem F_Wr_42 : xfl "DviBytes$Writer" 42 7 0 := ⟨_, _, _, rfl, by decide, in_Wr, Or.inl (xtb_at 184 (by decide +kernel) (by decide +kernel))⟩
theorem F_Wr_46 : xfl "DviBytes$Writer" 46 7 1 := ⟨_, _, _, rfl, by decide, in_Wr, Or.inl (xtb_at 185 (by decide +kernel) (by decide +kernel))⟩
theorem F_Wr_12 : xfl "DviBytes$Writer" 12 7 2 := ⟨_, _, _, rfl, by decide, in_Wr, Or.inl (xtb_at 186 (by decide +kernel) (by decide +kernel))⟩
theorem F_Wr_23 : xfl "DviBytes$Writer" 23 7 3 := ⟨_, _, _, rfl, by decide, in_Wr, Or.inl (xtb_at 187 (by decide +kernel) (by decide +kernel))⟩
theorem F_Wr_27 : xfl "DviBytes$Writer" 27 7 4 := ⟨_, _, _, rfl, by decide, in_Wr, Or.inl (xtb_at 188 (by decide +kernel) (by decide +kernel))⟩
theorem F_Wr_30 : xfl "DviBytes$Writer" 30 7 5 := ⟨_, _, _, rfl, by decide, in_Wr, Or.inl (xtb_at 189 (by decide +kernel) (by decide +kernel))⟩
theorem F_Wr_34 : xfl "DviBytes$Writer" 34 7 6 := ⟨_, _, _, rfl, by decide, in_Wr, Or.inl (xtb_at 190 (by decide +kernel) (by decide +kernel))⟩
theorem F_Wr_80 : xfl "DviBytes$Writer" 80 7 7 := ⟨_, _, _, rfl, by decide, in_Wr, Or.inl (xtb_at 191 (by decide +kernel) (by decide +kernel))⟩
theorem F_Wr_65 : xfl "DviBytes$Writer" 65 7 8 := ⟨_, _, _, rfl, by decide, in_Wr, Or.inl (xtb_at 192 (by decide +kernel) (by decide +kernel))⟩
theorem F_Wr_68 : xfl "DviBytes$Writer" 68 7 9 := ⟨_, _, _, rfl, by decide, in_Wr, Or.inl (xtb_at 193 (by decide +kernel) (by decide +kernel))⟩
theorem F_Wr_50 : xfl "DviBytes$Writer" 50 7 10 := ⟨_, _, _, rfl, by decide, in_Wr, Or.inl (xtb_at 194 (by decide +kernel) (by decide +kernel))⟩
theorem F_Wr_54 : xfl "DviBytes$Writer" 54 7 11 := ⟨_, _, _, rfl, by decide, in_Wr, Or.inl (xtb_at 195 (by decide +kernel) (by decide +kernel))⟩
theorem F_Wr_38 : xfl "DviBytes$Writer" 38 7 12 := ⟨_, _, _, rfl, by decide, in_Wr, Or.inl (xtb_at 196 (by decide +kernel) (by decide +kernel))⟩
theorem F_Wr_71 : xfl "DviBytes$Writer" 71 7 13 := ⟨_, _, _, rfl, by decide, in_Wr, Or.inl (xtb_at 197 (by decide +kernel) (by decide +kernel))⟩
theorem F_Wr_74 : xfl "DviBytes$Writer" 74 7 14 := ⟨_, _, _, rfl, by decide, in_Wr, Or.inl (xtb_at 198 (by decide +kernel) (by decide +kernel))⟩
theorem F_Wr_86 : xfl "DviBytes$Writer" 86 7 15 := ⟨_, _, _, rfl, by decide, in_Wr, Or.inl (xtb_at 199 (by decide +kernel) (by decide +kernel))⟩
theorem F_Wr_89 : xfl "DviBytes$Writer" 89 7 16 := ⟨_, _, _, rfl, by decide, in_Wr, Or.inl (xtb_at 200 (by decide +kernel) (by decide +kernel))⟩
theorem F_Rg_11 : xfl "DviBytes$Reading" 11 3 0 := ⟨_, _, _, rfl, by decide, in_Rg, Or.inl (xtb_at 247 (by decide +kernel) (by decide +kernel))⟩
theorem F_Rg_15 : xfl "DviBytes$Reading" 15 3 1 := ⟨_, _, _, rfl, by decide, in_Rg, Or.inl (xtb_at 248 (by decide +kernel) (by decide +kernel))⟩
theorem F_Rg_18 : xfl "DviBytes$Reading" 18 3 2 := ⟨_, _, _, rfl, by decide, in_Rg, Or.inl (xtb_at 249 (by decide +kernel) (by decide +kernel))⟩
theorem F_Rg_21 : xfl "DviBytes$Reading" 21 3 3 := ⟨_, _, _, rfl, by decide, in_Rg, Or.inl (xtb_at 250 (by decide +kernel) (by decide +kernel))⟩
theorem F_Rg_27 : xfl "DviBytes$Reading" 27 3 4 := ⟨_, _, _, rfl, by decide, in_Rg, Or.inl (xtb_at 251 (by decide +kernel) (by decide +kernel))⟩
theorem F_Rg_35 : xfl "DviBytes$Reading" 35 3 5 := ⟨_, _, _, rfl, by decide, in_Rg, Or.inl (xtb_at 252 (by decide +kernel) (by decide +kernel))⟩
theorem F_Dv_204 : xfl "DviBytes" 204 3 5 := ⟨_, _, _, rfl, by decide, in_Rg, Or.inr ⟨"DviBytes", xnest_at 253 (by decide +kernel) (by decide +kernel)⟩⟩
theorem F_Rg_39 : xfl "DviBytes$Reading" 39 3 6 := ⟨_, _, _, rfl, by decide, in_Rg, Or.inl (xtb_at 254 (by decide +kernel) (by decide +kernel))⟩
theorem F_Dv_208 : xfl "DviBytes" 208 3 6 := ⟨_, _, _, rfl, by decide, in_Rg, Or.inr ⟨"DviBytes", xnest_at 255 (by decide +kernel) (by decide +kernel)⟩⟩
theorem F_Rd_176 : xfl "DviBytes$Reader" 176 3 6 := ⟨_, _, _, rfl, by decide, in_Rg, Or.inr ⟨"DviBytes", xnest_at 256 (by decide +kernel) (by decide +kernel)⟩⟩
theorem F_Rg_42 : xfl "DviBytes$Reading" 42 3 7 := ⟨_, _, _, rfl, by decide, in_Rg, Or.inl (xtb_at 257 (by decide +kernel) (by decide +kernel))⟩
theorem F_Dv_211 : xfl "DviBytes" 211 3 7 := ⟨_, _, _, rfl, by decide, in_Rg, Or.inr ⟨"DviBytes", xnest_at 258 (by decide +kernel) (by decide +kernel)⟩⟩
theorem F_Rg_45 : xfl "DviBytes$Reading" 45 3 8 := ⟨_, _, _, rfl, by decide, in_Rg, Or.inl (xtb_at 259 (by decide +kernel) (by decide +kernel))⟩
theorem F_Rd_116 : xfl "DviBytes$Reader" 116 3 8 := ⟨_, _, _, rfl, by decide, in_Rg, Or.inr ⟨"DviBytes", xnest_at 260 (by decide +kernel) (by decide +kernel)⟩⟩
theorem F_Dv_214 : xfl "DviBytes" 214 3 8 := ⟨_, _, _, rfl, by decide, in_Rg, Or.inr ⟨"DviBytes", xnest_at 261 (by decide +kernel) (by decide +kernel)⟩⟩
theorem F_Rg_48 : xfl "DviBytes$Reading" 48 3 9 := ⟨_, _, _, rfl, by decide, in_Rg, Or.inl (xtb_at 262 (by decide +kernel) (by decide +kernel))⟩
theorem F_Dv_217 : xfl "DviBytes" 217 3 9 := ⟨_, _, _, rfl, by decide, in_Rg, Or.inr ⟨"DviBytes", xnest_at 263 (by decide +kernel) (by decide +kernel)⟩⟩
theorem F_Rd_180 : xfl "DviBytes$Reader" 180 3 9 := ⟨_, _, _, rfl, by decide, in_Rg, Or.inr ⟨"DviBytes", xnest_at 264 (by decide +kernel) (by decide +kernel)⟩⟩
theorem F_Rg_51 : xfl "DviBytes$Reading" 51 3 10 := ⟨_, _, _, rfl, by decide, in_Rg, Or.inl (xtb_at 265 (by decide +kernel) (by decide +kernel))⟩
theorem F_Dv_220 : xfl "DviBytes" 220 3 10 := ⟨_, _, _, rfl, by decide, in_Rg, Or.inr ⟨"DviBytes", xnest_at 266 (by decide +kernel) (by decide +kernel)⟩⟩
theorem F_Rd_183 : xfl "DviBytes$Reader" 183 3 10 := ⟨_, _, _, rfl, by decide, in_Rg, Or.inr ⟨"DviBytes", xnest_at 267 (by decide +kernel) (by decide +kernel)⟩⟩
theorem F_Rg_54 : xfl "DviBytes$Reading" 54 3 11 := ⟨_, _, _, rfl, by decide, in_Rg, Or.inl (xtb_at 268 (by decide +kernel) (by decide +kernel))⟩
theorem F_Dv_223 : xfl "DviBytes" 223 3 11 := ⟨_, _, _, rfl, by decide, in_Rg, Or.inr ⟨"DviBytes", xnest_at 269 (by decide +kernel) (by decide +kernel)⟩⟩
theorem F_Rd_168 : xfl "DviBytes$Reader" 168 3 11 := ⟨_, _, _, rfl, by decide, in_Rg, Or.inr ⟨"DviBytes", xnest_at 270 (by decide +kernel) (by decide +kernel)⟩⟩
theorem F_Rd_18 : xfl "DviBytes$Reader" 18 2 0 := ⟨_, _, _, rfl, by decide, in_Rd, Or.inl (xtb_at 302 (by decide +kernel) (by decide +kernel))⟩
theorem F_Rd_22 : xfl "DviBytes$Reader" 22 2 1 := ⟨_, _, _, rfl, by decide, in_Rd, Or.inl (xtb_at 303 (by decide +kernel) (by decide +kernel))⟩
theorem F_Rd_26 : xfl "DviBytes$Reader" 26 2 2 := ⟨_, _, _, rfl, by decide, in_Rd, Or.inl (xtb_at 304 (by decide +kernel) (by decide +kernel))⟩
theorem F_Rd_11 : xfl "DviBytes$Reader" 11 2 3 := ⟨_, _, _, rfl, by decide, in_Rd, Or.inl (xtb_at 305 (by decide +kernel) (by decide +kernel))⟩
theorem F_Rd_15 : xfl "DviBytes$Reader" 15 2 4 := ⟨_, _, _, rfl, by decide, in_Rd, Or.inl (xtb_at 306 (by decide +kernel) (by decide +kernel))⟩
theorem F_Rd_107 : xfl "DviBytes$Reader" 107 2 5 := ⟨_, _, _, rfl, by decide, in_Rd, Or.inl (xtb_at 307 (by decide +kernel) (by decide +kernel))⟩
theorem F_Rd_35 : xfl "DviBytes$Reader" 35 2 6 := ⟨_, _, _, rfl, by decide, in_Rd, Or.inl (xtb_at 308 (by decide +kernel) (by decide +kernel))⟩
theorem F_Rd_39 : xfl "DviBytes$Reader" 39 2 7 := ⟨_, _, _, rfl, by decide, in_Rd, Or.inl (xtb_at 309 (by decide +kernel) (by decide +kernel))⟩
theorem F_Rd_57 : xfl "DviBytes$Reader" 57 2 8 := ⟨_, _, _, rfl, by decide, in_Rd, Or.inl (xtb_at 310 (by decide +kernel) (by decide +kernel))⟩
theorem F_Rd_63 : xfl "DviBytes$Reader" 63 2 9 := ⟨_, _, _, rfl, by decide, in_Rd, Or.inl (xtb_at 311 (by decide +kernel) (by decide +kernel))⟩
theorem F_Rd_128 : xfl "DviBytes$Reader" 128 2 10 := ⟨_, _, _, rfl, by decide, in_Rd, Or.inl (xtb_at 312 (by decide +kernel) (by decide +kernel))⟩
theorem F_Rd_42 : xfl "DviBytes$Reader" 42 2 11 := ⟨_, _, _, rfl, by decide, in_Rd, Or.inl (xtb_at 313 (by decide +kernel) (by decide +kernel))⟩
theorem F_Rd_122 : xfl "DviBytes$Reader" 122 2 12 := ⟨_, _, _, rfl, by decide, in_Rd, Or.inl (xtb_at 314 (by decide +kernel) (by decide +kernel))⟩
theorem F_Rd_45 : xfl "DviBytes$Reader" 45 2 13 := ⟨_, _, _, rfl, by decide, in_Rd, Or.inl (xtb_at 315 (by decide +kernel) (by decide +kernel))⟩
theorem F_Dv_10 : xfl "DviBytes" 10 8 0 := ⟨_, _, _, rfl, by decide, in_Dv, Or.inl (xtb_at 345 (by decide +kernel) (by decide +kernel))⟩
theorem F_Dv_19 : xfl "DviBytes" 19 8 1 := ⟨_, _, _, rfl, by decide, in_Dv, Or.inl (xtb_at 346 (by decide +kernel) (by decide +kernel))⟩
theorem F_Dv_23 : xfl "DviBytes" 23 8 2 := ⟨_, _, _, rfl, by decide, in_Dv, Or.inl (xtb_at 347 (by decide +kernel) (by decide +kernel))⟩
theorem F_Dv_30 : xfl "DviBytes" 30 8 3 := ⟨_, _, _, rfl, by decide, in_Dv, Or.inl (xtb_at 348 (by decide +kernel) (by decide +kernel))⟩
theorem F_Dv_39 : xfl "DviBytes" 39 8 4 := ⟨_, _, _, rfl, by decide, in_Dv, Or.inl (xtb_at 349 (by decide +kernel) (by decide +kernel))⟩
theorem F_Dv_46 : xfl "DviBytes" 46 8 5 := ⟨_, _, _, rfl, by decide, in_Dv, Or.inl (xtb_at 350 (by decide +kernel) (by decide +kernel))⟩
theorem F_Dv_53 : xfl "DviBytes" 53 8 6 := ⟨_, _, _, rfl, by decide, in_Dv, Or.inl (xtb_at 351 (by decide +kernel) (by decide +kernel))⟩
theorem F_Dv_62 : xfl "DviBytes" 62 8 7 := ⟨_, _, _, rfl, by decide, in_Dv, Or.inl (xtb_at 352 (by decide +kernel) (by decide +kernel))⟩
theorem F_Mo_97 : xfl "DviBytesModel" 97 9 0 := ⟨_, _, _, rfl, by decide, in_Mo, Or.inl (xtb_at 1015 (by decide +kernel) (by decide +kernel))⟩
theorem F_Mo_7 : xfl "DviBytesModel" 7 9 1 := ⟨_, _, _, rfl, by decide, in_Mo, Or.inl (xtb_at 1016 (by decide +kernel) (by decide +kernel))⟩
theorem F_Mo_13 : xfl "DviBytesModel" 13 9 2 := ⟨_, _, _, rfl, by decide, in_Mo, Or.inl (xtb_at 1017 (by decide +kernel) (by decide +kernel))⟩
theorem F_Mo_17 : xfl "DviBytesModel" 17 9 3 := ⟨_, _, _, rfl, by decide, in_Mo, Or.inl (xtb_at 1018 (by decide +kernel) (by decide +kernel))⟩
theorem F_Mo_20 : xfl "DviBytesModel" 20 9 4 := ⟨_, _, _, rfl, by decide, in_Mo, Or.inl (xtb_at 1019 (by decide +kernel) (by decide +kernel))⟩
theorem F_Mo_23 : xfl "DviBytesModel" 23 9 5 := ⟨_, _, _, rfl, by decide, in_Mo, Or.inl (xtb_at 1020 (by decide +kernel) (by decide +kernel))⟩
theorem F_Mo_26 : xfl "DviBytesModel" 26 9 6 := ⟨_, _, _, rfl, by decide, in_Mo, Or.inl (xtb_at 1021 (by decide +kernel) (by decide +kernel))⟩
theorem F_Mo_31 : xfl "DviBytesModel" 31 9 7 := ⟨_, _, _, rfl, by decide, in_Mo, Or.inl (xtb_at 1022 (by decide +kernel) (by decide +kernel))⟩
theorem F_Mo_34 : xfl "DviBytesModel" 34 9 8 := ⟨_, _, _, rfl, by decide, in_Mo, Or.inl (xtb_at 1023 (by decide +kernel) (by decide +kernel))⟩
theorem F_Mo_116 : xfl "DviBytesModel" 116 9 9 := ⟨_, _, _, rfl, by decide, in_Mo, Or.inl (xtb_at 1024 (by decide +kernel) (by decide +kernel))⟩
theorem F_Mo_38 : xfl "DviBytesModel" 38 9 10 := ⟨_, _, _, rfl, by decide, in_Mo, Or.inl (xtb_at 1025 (by decide +kernel) (by decide +kernel))⟩
theorem F_Mo_122 : xfl "DviBytesModel" 122 9 11 := ⟨_, _, _, rfl, by decide, in_Mo, Or.inl (xtb_at 1026 (by decide +kernel) (by decide +kernel))⟩
theorem F_Mo_125 : xfl "DviBytesModel" 125 9 12 := ⟨_, _, _, rfl, by decide, in_Mo, Or.inl (xtb_at 1027 (by decide +kernel) (by decide +kernel))⟩
theorem F_Mo_128 : xfl "DviBytesModel" 128 9 13 := ⟨_, _, _, rfl, by decide, in_Mo, Or.inl (xtb_at 1028 (by decide +kernel) (by decide +kernel))⟩
theorem F_Mo_132 : xfl "DviBytesModel" 132 9 14 := ⟨_, _, _, rfl, by decide, in_Mo, Or.inl (xtb_at 1029 (by decide +kernel) (by decide +kernel))⟩
theorem F_Mo_41 : xfl "DviBytesModel" 41 9 15 := ⟨_, _, _, rfl, by decide, in_Mo, Or.inl (xtb_at 1030 (by decide +kernel) (by decide +kernel))⟩
theorem F_Mo_135 : xfl "DviBytesModel" 135 9 16 := ⟨_, _, _, rfl, by decide, in_Mo, Or.inl (xtb_at 1031 (by decide +kernel) (by decide +kernel))⟩
theorem F_Mo_138 : xfl "DviBytesModel" 138 9 17 := ⟨_, _, _, rfl, by decide, in_Mo, Or.inl (xtb_at 1032 (by decide +kernel) (by decide +kernel))⟩
theorem F_Mo_100 : xfl "DviBytesModel" 100 9 18 := ⟨_, _, _, rfl, by decide, in_Mo, Or.inl (xtb_at 1033 (by decide +kernel) (by decide +kernel))⟩
theorem F_Mo_45 : xfl "DviBytesModel" 45 9 19 := ⟨_, _, _, rfl, by decide, in_Mo, Or.inl (xtb_at 1034 (by decide +kernel) (by decide +kernel))⟩
theorem F_Mo_119 : xfl "DviBytesModel" 119 9 20 := ⟨_, _, _, rfl, by decide, in_Mo, Or.inl (xtb_at 1035 (by decide +kernel) (by decide +kernel))⟩
theorem F_Mo_48 : xfl "DviBytesModel" 48 9 21 := ⟨_, _, _, rfl, by decide, in_Mo, Or.inl (xtb_at 1036 (by decide +kernel) (by decide +kernel))⟩
theorem F_Mo_51 : xfl "DviBytesModel" 51 9 22 := ⟨_, _, _, rfl, by decide, in_Mo, Or.inl (xtb_at 1037 (by decide +kernel) (by decide +kernel))⟩
theorem F_Mo_54 : xfl "DviBytesModel" 54 9 23 := ⟨_, _, _, rfl, by decide, in_Mo, Or.inl (xtb_at 1038 (by decide +kernel) (by decide +kernel))⟩
theorem F_Mo_57 : xfl "DviBytesModel" 57 9 24 := ⟨_, _, _, rfl, by decide, in_Mo, Or.inl (xtb_at 1039 (by decide +kernel) (by decide +kernel))⟩
theorem F_Mo_60 : xfl "DviBytesModel" 60 9 25 := ⟨_, _, _, rfl, by decide, in_Mo, Or.inl (xtb_at 1040 (by decide +kernel) (by decide +kernel))⟩
theorem F_Mo_63 : xfl "DviBytesModel" 63 9 26 := ⟨_, _, _, rfl, by decide, in_Mo, Or.inl (xtb_at 1041 (by decide +kernel) (by decide +kernel))⟩
theorem F_Mo_66 : xfl "DviBytesModel" 66 9 27 := ⟨_, _, _, rfl, by decide, in_Mo, Or.inl (xtb_at 1042 (by decide +kernel) (by decide +kernel))⟩
theorem F_Mo_69 : xfl "DviBytesModel" 69 9 28 := ⟨_, _, _, rfl, by decide, in_Mo, Or.inl (xtb_at 1043 (by decide +kernel) (by decide +kernel))⟩
theorem F_Mo_197 : xfl "DviBytesModel" 197 9 29 := ⟨_, _, _, rfl, by decide, in_Mo, Or.inl (xtb_at 1044 (by decide +kernel) (by decide +kernel))⟩
theorem F_Mo_73 : xfl "DviBytesModel" 73 9 30 := ⟨_, _, _, rfl, by decide, in_Mo, Or.inl (xtb_at 1045 (by decide +kernel) (by decide +kernel))⟩
theorem F_Mo_76 : xfl "DviBytesModel" 76 9 31 := ⟨_, _, _, rfl, by decide, in_Mo, Or.inl (xtb_at 1046 (by decide +kernel) (by decide +kernel))⟩
theorem F_Mo_279 : xfl "DviBytesModel" 279 9 32 := ⟨_, _, _, rfl, by decide, in_Mo, Or.inl (xtb_at 1047 (by decide +kernel) (by decide +kernel))⟩
theorem F_Mo_79 : xfl "DviBytesModel" 79 9 33 := ⟨_, _, _, rfl, by decide, in_Mo, Or.inl (xtb_at 1048 (by decide +kernel) (by decide +kernel))⟩
theorem F_Mo_257 : xfl "DviBytesModel" 257 9 34 := ⟨_, _, _, rfl, by decide, in_Mo, Or.inl (xtb_at 1049 (by decide +kernel) (by decide +kernel))⟩
theorem F_Mo_82 : xfl "DviBytesModel" 82 9 35 := ⟨_, _, _, rfl, by decide, in_Mo, Or.inl (xtb_at 1050 (by decide +kernel) (by decide +kernel))⟩
theorem F_Mo_238 : xfl "DviBytesModel" 238 9 36 := ⟨_, _, _, rfl, by decide, in_Mo, Or.inl (xtb_at 1051 (by decide +kernel) (by decide +kernel))⟩
theorem F_Mo_85 : xfl "DviBytesModel" 85 9 37 := ⟨_, _, _, rfl, by decide, in_Mo, Or.inl (xtb_at 1052 (by decide +kernel) (by decide +kernel))⟩
theorem F_Mo_88 : xfl "DviBytesModel" 88 9 38 := ⟨_, _, _, rfl, by decide, in_Mo, Or.inl (xtb_at 1053 (by decide +kernel) (by decide +kernel))⟩
theorem F_Mo_267 : xfl "DviBytesModel" 267 9 39 := ⟨_, _, _, rfl, by decide, in_Mo, Or.inl (xtb_at 1054 (by decide +kernel) (by decide +kernel))⟩
theorem F_Mo_270 : xfl "DviBytesModel" 270 9 40 := ⟨_, _, _, rfl, by decide, in_Mo, Or.inl (xtb_at 1055 (by decide +kernel) (by decide +kernel))⟩
theorem F_Mo_273 : xfl "DviBytesModel" 273 9 41 := ⟨_, _, _, rfl, by decide, in_Mo, Or.inl (xtb_at 1056 (by decide +kernel) (by decide +kernel))⟩
theorem F_Mo_292 : xfl "DviBytesModel" 292 9 42 := ⟨_, _, _, rfl, by decide, in_Mo, Or.inl (xtb_at 1057 (by decide +kernel) (by decide +kernel))⟩
theorem F_Mo_232 : xfl "DviBytesModel" 232 9 43 := ⟨_, _, _, rfl, by decide, in_Mo, Or.inl (xtb_at 1058 (by decide +kernel) (by decide +kernel))⟩
theorem F_Mo_203 : xfl "DviBytesModel" 203 9 44 := ⟨_, _, _, rfl, by decide, in_Mo, Or.inl (xtb_at 1059 (by decide +kernel) (by decide +kernel))⟩
theorem F_Mo_206 : xfl "DviBytesModel" 206 9 45 := ⟨_, _, _, rfl, by decide, in_Mo, Or.inl (xtb_at 1060 (by decide +kernel) (by decide +kernel))⟩
theorem F_Mo_254 : xfl "DviBytesModel" 254 9 46 := ⟨_, _, _, rfl, by decide, in_Mo, Or.inl (xtb_at 1061 (by decide +kernel) (by decide +kernel))⟩
theorem F_Mo_276 : xfl "DviBytesModel" 276 9 47 := ⟨_, _, _, rfl, by decide, in_Mo, Or.inl (xtb_at 1062 (by decide +kernel) (by decide +kernel))⟩
theorem F_Mo_282 : xfl "DviBytesModel" 282 9 48 := ⟨_, _, _, rfl, by decide, in_Mo, Or.inl (xtb_at 1063 (by decide +kernel) (by decide +kernel))⟩
theorem F_Mo_260 : xfl "DviBytesModel" 260 9 49 := ⟨_, _, _, rfl, by decide, in_Mo, Or.inl (xtb_at 1064 (by decide +kernel) (by decide +kernel))⟩
theorem F_Mo_263 : xfl "DviBytesModel" 263 9 50 := ⟨_, _, _, rfl, by decide, in_Mo, Or.inl (xtb_at 1065 (by decide +kernel) (by decide +kernel))⟩
theorem F_Mo_91 : xfl "DviBytesModel" 91 9 51 := ⟨_, _, _, rfl, by decide, in_Mo, Or.inl (xtb_at 1066 (by decide +kernel) (by decide +kernel))⟩
theorem F_Mo_94 : xfl "DviBytesModel" 94 9 52 := ⟨_, _, _, rfl, by decide, in_Mo, Or.inl (xtb_at 1067 (by decide +kernel) (by decide +kernel))⟩
theorem CD_Dv_init : xcd m_Dv_init := xtb_at 86 (by decide +kernel) (by decide +kernel)
theorem CD_Wi_init : xcd m_Wi_init := xtb_at 94 (by decide +kernel) (by decide +kernel)
theorem CD_Fo_init : xcd m_Fo_init := xtb_at 106 (by decide +kernel) (by decide +kernel)
theorem CD_Sh_init : xcd m_Sh_init := xtb_at 132 (by decide +kernel) (by decide +kernel)
theorem CD_Wr_init : xcd m_Wr_init := xtb_at 145 (by decide +kernel) (by decide +kernel)
theorem CD_By_init : xcd m_By_init := xtb_at 151 (by decide +kernel) (by decide +kernel)
theorem CD_Wa_init : xcd m_Wa_init := xtb_at 166 (by decide +kernel) (by decide +kernel)
theorem CD_Rg_init : xcd m_Rg_init := xtb_at 243 (by decide +kernel) (by decide +kernel)
theorem CD_Rd_init : xcd m_Rd_init := xtb_at 300 (by decide +kernel) (by decide +kernel)
theorem CD_Dv_size : xcd m_Dv_size := xtb_at 373 (by decide +kernel) (by decide +kernel)
theorem CD_Wr_bytes : xcd m_Wr_bytes := xtb_at 377 (by decide +kernel) (by decide +kernel)
theorem CD_By_length : xcd m_By_length := xtb_at 381 (by decide +kernel) (by decide +kernel)
theorem CD_Dv_feed : xcd m_Dv_feed := xtb_at 385 (by decide +kernel) (by decide +kernel)
theorem CD_By_add : xcd m_By_add := xtb_at 390 (by decide +kernel) (by decide +kernel)
theorem CD_Dv_keep : xcd m_Dv_keep := xtb_at 394 (by decide +kernel) (by decide +kernel)
theorem CD_By_cut : xcd m_By_cut := xtb_at 398 (by decide +kernel) (by decide +kernel)
theorem CD_Dv_copy : xcd m_Dv_copy := xtb_at 402 (by decide +kernel) (by decide +kernel)
theorem CD_By_become : xcd m_By_become := xtb_at 406 (by decide +kernel) (by decide +kernel)
theorem CD_Dv_read : xcd m_Dv_read := xtb_at 416 (by decide +kernel) (by decide +kernel)
theorem CD_Rd_restart : xcd m_Rd_restart := xtb_at 420 (by decide +kernel) (by decide +kernel)
theorem CD_Rg_clear : xcd m_Rg_clear := xtb_at 424 (by decide +kernel) (by decide +kernel)
theorem CD_Rd_readCommands : xcd m_Rd_readCommands := xtb_at 429 (by decide +kernel) (by decide +kernel)
theorem CD_By_at : xcd m_By_at := xtb_at 434 (by decide +kernel) (by decide +kernel)
theorem CD_Rd_bytesOfNumber : xcd m_Rd_bytesOfNumber := xtb_at 437 (by decide +kernel) (by decide +kernel)
theorem CD_Rd_bytesBehind : xcd m_Rd_bytesBehind := xtb_at 443 (by decide +kernel) (by decide +kernel)
theorem CD_Rd_fixedBytes : xcd m_Rd_fixedBytes := xtb_at 447 (by decide +kernel) (by decide +kernel)
theorem CD_Rd_isDefinition : xcd m_Rd_isDefinition := xtb_at 451 (by decide +kernel) (by decide +kernel)
theorem CD_Rd_bytesOfText : xcd m_Rd_bytesOfText := xtb_at 455 (by decide +kernel) (by decide +kernel)
theorem CD_By_number : xcd m_By_number := xtb_at 459 (by decide +kernel) (by decide +kernel)
theorem CD_Rd_canStand : xcd m_Rd_canStand := xtb_at 464 (by decide +kernel) (by decide +kernel)
theorem CD_Rd_obey : xcd m_Rd_obey := xtb_at 468 (by decide +kernel) (by decide +kernel)
theorem CD_Rd_obeyMove : xcd m_Rd_obeyMove := xtb_at 472 (by decide +kernel) (by decide +kernel)
theorem CD_By_signedNumber : xcd m_By_signedNumber := xtb_at 476 (by decide +kernel) (by decide +kernel)
theorem CD_Rd_grow : xcd m_Rd_grow := xtb_at 481 (by decide +kernel) (by decide +kernel)
theorem CD_Dv_isInt : xcd m_Dv_isInt := xtb_at 484 (by decide +kernel) (by decide +kernel)
theorem CD_Rd_obeyFont : xcd m_Rd_obeyFont := xtb_at 488 (by decide +kernel) (by decide +kernel)
theorem CD_Rg_findFont : xcd m_Rg_findFont := xtb_at 492 (by decide +kernel) (by decide +kernel)
theorem CD_Rd_obeyDefinition : xcd m_Rd_obeyDefinition := xtb_at 496 (by decide +kernel) (by decide +kernel)
theorem CD_Rg_isSameFont : xcd m_Rg_isSameFont := xtb_at 500 (by decide +kernel) (by decide +kernel)
theorem CD_Rg_fontPart : xcd m_Rg_fontPart := xtb_at 504 (by decide +kernel) (by decide +kernel)
theorem CD_Rg_isIn : xcd m_Rg_isIn := xtb_at 507 (by decide +kernel) (by decide +kernel)
theorem CD_Rg_nameLengthAt : xcd m_Rg_nameLengthAt := xtb_at 512 (by decide +kernel) (by decide +kernel)
theorem CD_Rg_addFont : xcd m_Rg_addFont := xtb_at 516 (by decide +kernel) (by decide +kernel)
theorem CD_Rd_obeyRule : xcd m_Rd_obeyRule := xtb_at 522 (by decide +kernel) (by decide +kernel)
theorem CD_Rg_addMark : xcd m_Rg_addMark := xtb_at 526 (by decide +kernel) (by decide +kernel)
theorem CD_Rd_obeyBegin : xcd m_Rd_obeyBegin := xtb_at 530 (by decide +kernel) (by decide +kernel)
theorem CD_Rg_addPage : xcd m_Rg_addPage := xtb_at 534 (by decide +kernel) (by decide +kernel)
theorem CD_Rd_obeyPush : xcd m_Rd_obeyPush := xtb_at 538 (by decide +kernel) (by decide +kernel)
theorem CD_Rd_obeyPop : xcd m_Rd_obeyPop := xtb_at 545 (by decide +kernel) (by decide +kernel)
theorem CD_Rd_obeyLast : xcd m_Rd_obeyLast := xtb_at 549 (by decide +kernel) (by decide +kernel)
theorem CD_Rd_obeyCharacter : xcd m_Rd_obeyCharacter := xtb_at 554 (by decide +kernel) (by decide +kernel)
theorem CD_Wi_of : xcd m_Wi_of := xtb_at 559 (by decide +kernel) (by decide +kernel)
theorem CD_Dv_isByte : xcd m_Dv_isByte := xtb_at 562 (by decide +kernel) (by decide +kernel)
theorem CD_Rd_place : xcd m_Rd_place := xtb_at 568 (by decide +kernel) (by decide +kernel)
theorem CD_Dv_font : xcd m_Dv_font := xtb_at 577 (by decide +kernel) (by decide +kernel)
theorem CD_Dv_isName : xcd m_Dv_isName := xtb_at 581 (by decide +kernel) (by decide +kernel)
theorem CD_Dv_letterOf : xcd m_Dv_letterOf := xtb_at 584 (by decide +kernel) (by decide +kernel)
theorem CD_Wr_hasTold : xcd m_Wr_hasTold := xtb_at 657 (by decide +kernel) (by decide +kernel)
theorem CD_Fo_define : xcd m_Fo_define := xtb_at 678 (by decide +kernel) (by decide +kernel)
theorem CD_Fo_call : xcd m_Fo_call := xtb_at 683 (by decide +kernel) (by decide +kernel)
theorem CD_Dv_width : xcd m_Dv_width := xtb_at 690 (by decide +kernel) (by decide +kernel)
theorem CD_Wi_change : xcd m_Wi_change := xtb_at 695 (by decide +kernel) (by decide +kernel)
theorem CD_Dv_count : xcd m_Dv_count := xtb_at 702 (by decide +kernel) (by decide +kernel)
theorem CD_Dv_begin : xcd m_Dv_begin := xtb_at 710 (by decide +kernel) (by decide +kernel)
theorem CD_Wr_restart : xcd m_Wr_restart := xtb_at 715 (by decide +kernel) (by decide +kernel)
theorem CD_Wr_goBack : xcd m_Wr_goBack := xtb_at 719 (by decide +kernel) (by decide +kernel)
theorem CD_Sh_clear : xcd m_Sh_clear := xtb_at 724 (by decide +kernel) (by decide +kernel)
theorem CD_Dv_put : xcd m_Dv_put := xtb_at 732 (by decide +kernel) (by decide +kernel)
theorem CD_Fo_isDefined : xcd m_Fo_isDefined := xtb_at 736 (by decide +kernel) (by decide +kernel)
theorem CD_Dv_isNear : xcd m_Dv_isNear := xtb_at 739 (by decide +kernel) (by decide +kernel)
theorem CD_Sh_isFull : xcd m_Sh_isFull := xtb_at 746 (by decide +kernel) (by decide +kernel)
theorem CD_Sh_add : xcd m_Sh_add := xtb_at 766 (by decide +kernel) (by decide +kernel)
theorem CD_Dv_rule : xcd m_Dv_rule := xtb_at 773 (by decide +kernel) (by decide +kernel)
theorem CD_Dv_isExtent : xcd m_Dv_isExtent := xtb_at 776 (by decide +kernel) (by decide +kernel)
theorem CD_Dv_ship : xcd m_Dv_ship := xtb_at 785 (by decide +kernel) (by decide +kernel)
theorem CD_Wr_isClosed : xcd m_Wr_isClosed := xtb_at 789 (by decide +kernel) (by decide +kernel)
theorem CD_Wr_planPage : xcd m_Wr_planPage := xtb_at 794 (by decide +kernel) (by decide +kernel)
theorem CD_Wa_clear : xcd m_Wa_clear := xtb_at 798 (by decide +kernel) (by decide +kernel)
theorem CD_Sh_length : xcd m_Sh_length := xtb_at 802 (by decide +kernel) (by decide +kernel)
theorem CD_Sh_x : xcd m_Sh_x := xtb_at 806 (by decide +kernel) (by decide +kernel)
theorem CD_Sh_part : xcd m_Sh_part := xtb_at 810 (by decide +kernel) (by decide +kernel)
theorem CD_Sh_y : xcd m_Sh_y := xtb_at 814 (by decide +kernel) (by decide +kernel)
theorem CD_Wr_growth : xcd m_Wr_growth := xtb_at 818 (by decide +kernel) (by decide +kernel)
theorem CD_Sh_isRule : xcd m_Sh_isRule := xtb_at 822 (by decide +kernel) (by decide +kernel)
theorem CD_Sh_fontOf : xcd m_Sh_fontOf := xtb_at 826 (by decide +kernel) (by decide +kernel)
theorem CD_Sh_characterOrWidth : xcd m_Sh_characterOrWidth := xtb_at 830 (by decide +kernel) (by decide +kernel)
theorem CD_Wa_plan : xcd m_Wa_plan := xtb_at 836 (by decide +kernel) (by decide +kernel)
theorem CD_Wr_writePage : xcd m_Wr_writePage := xtb_at 857 (by decide +kernel) (by decide +kernel)
theorem CD_Wr_writeStart : xcd m_Wr_writeStart := xtb_at 862 (by decide +kernel) (by decide +kernel)
theorem CD_Wr_writeScale : xcd m_Wr_writeScale := xtb_at 867 (by decide +kernel) (by decide +kernel)
theorem CD_By_addNumber : xcd m_By_addNumber := xtb_at 872 (by decide +kernel) (by decide +kernel)
theorem CD_Wr_writeMarks : xcd m_Wr_writeMarks := xtb_at 878 (by decide +kernel) (by decide +kernel)
theorem CD_Wa_write : xcd m_Wa_write := xtb_at 882 (by decide +kernel) (by decide +kernel)
theorem CD_Wa_comesBehind : xcd m_Wa_comesBehind := xtb_at 887 (by decide +kernel) (by decide +kernel)
theorem CD_By_addShortest : xcd m_By_addShortest := xtb_at 891 (by decide +kernel) (by decide +kernel)
theorem CD_By_bytesFor : xcd m_By_bytesFor := xtb_at 894 (by decide +kernel) (by decide +kernel)
theorem CD_Sh_height : xcd m_Sh_height := xtb_at 902 (by decide +kernel) (by decide +kernel)
theorem CD_Wr_writeFont : xcd m_Wr_writeFont := xtb_at 906 (by decide +kernel) (by decide +kernel)
theorem CD_Fo_writeDefinition : xcd m_Fo_writeDefinition := xtb_at 911 (by decide +kernel) (by decide +kernel)
theorem CD_Wr_remember : xcd m_Wr_remember := xtb_at 918 (by decide +kernel) (by decide +kernel)
theorem CD_Wr_writeCharacter : xcd m_Wr_writeCharacter := xtb_at 922 (by decide +kernel) (by decide +kernel)
theorem CD_Wr_pageCount : xcd m_Wr_pageCount := xtb_at 928 (by decide +kernel) (by decide +kernel)
theorem CD_Dv_close : xcd m_Dv_close := xtb_at 935 (by decide +kernel) (by decide +kernel)
theorem CD_Wr_writeEnd : xcd m_Wr_writeEnd := xtb_at 939 (by decide +kernel) (by decide +kernel)
theorem CD_Dv_out : xcd m_Dv_out := xtb_at 947 (by decide +kernel) (by decide +kernel)
theorem CD_Dv_about : xcd m_Dv_about := xtb_at 971 (by decide +kernel) (by decide +kernel)
theorem CD_Dv_mark : xcd m_Dv_mark := xtb_at 979 (by decide +kernel) (by decide +kernel)
theorem CD_Rg_markPart : xcd m_Rg_markPart := xtb_at 984 (by decide +kernel) (by decide +kernel)
theorem CD_Dv_page : xcd m_Dv_page := xtb_at 991 (by decide +kernel) (by decide +kernel)
theorem CD_Rg_pagePart : xcd m_Rg_pagePart := xtb_at 996 (by decide +kernel) (by decide +kernel)
theorem CD_Dv_told : xcd m_Dv_told := xtb_at 1003 (by decide +kernel) (by decide +kernel)
theorem CD_Mo_init : xcd m_Mo_init := xtb_at 1010 (by decide +kernel) (by decide +kernel)
theorem CD_Mo_thrown : xcd m_Mo_thrown := xtb_at 1178 (by decide +kernel) (by decide +kernel)
theorem CD_Mo_font : xcd m_Mo_font := xtb_at 1182 (by decide +kernel) (by decide +kernel)
theorem CD_Mo_isByte : xcd m_Mo_isByte := xtb_at 1185 (by decide +kernel) (by decide +kernel)
theorem CD_Mo_letter : xcd m_Mo_letter := xtb_at 1188 (by decide +kernel) (by decide +kernel)
theorem CD_Mo_isTold : xcd m_Mo_isTold := xtb_at 1193 (by decide +kernel) (by decide +kernel)
theorem CD_Mo_width : xcd m_Mo_width := xtb_at 1197 (by decide +kernel) (by decide +kernel)
theorem CD_Mo_count : xcd m_Mo_count := xtb_at 1201 (by decide +kernel) (by decide +kernel)
theorem CD_Mo_begin : xcd m_Mo_begin := xtb_at 1205 (by decide +kernel) (by decide +kernel)
theorem CD_Mo_put : xcd m_Mo_put := xtb_at 1209 (by decide +kernel) (by decide +kernel)
theorem CD_Mo_isPlace : xcd m_Mo_isPlace := xtb_at 1212 (by decide +kernel) (by decide +kernel)
theorem CD_Mo_mark5 : xcd m_Mo_mark5 := xtb_at 1218 (by decide +kernel) (by decide +kernel)
theorem CD_Mo_rule : xcd m_Mo_rule := xtb_at 1222 (by decide +kernel) (by decide +kernel)
theorem CD_Mo_ship : xcd m_Mo_ship := xtb_at 1226 (by decide +kernel) (by decide +kernel)
theorem CD_Mo_findMoves : xcd m_Mo_findMoves := xtb_at 1230 (by decide +kernel) (by decide +kernel)
theorem CD_Mo_isInt : xcd m_Mo_isInt := xtb_at 1233 (by decide +kernel) (by decide +kernel)
theorem CD_Mo_writePage : xcd m_Mo_writePage := xtb_at 1239 (by decide +kernel) (by decide +kernel)
theorem CD_Mo_open : xcd m_Mo_open := xtb_at 1243 (by decide +kernel) (by decide +kernel)
theorem CD_Mo_lay : xcd m_Mo_lay := xtb_at 1247 (by decide +kernel) (by decide +kernel)
theorem CD_Mo_layNumber : xcd m_Mo_layNumber := xtb_at 1252 (by decide +kernel) (by decide +kernel)
theorem CD_Mo_move : xcd m_Mo_move := xtb_at 1257 (by decide +kernel) (by decide +kernel)
theorem CD_Mo_bytesOf : xcd m_Mo_bytesOf := xtb_at 1260 (by decide +kernel) (by decide +kernel)
theorem CD_Mo_comes : xcd m_Mo_comes := xtb_at 1267 (by decide +kernel) (by decide +kernel)
theorem CD_Mo_define : xcd m_Mo_define := xtb_at 1271 (by decide +kernel) (by decide +kernel)
theorem CD_Mo_close : xcd m_Mo_close := xtb_at 1276 (by decide +kernel) (by decide +kernel)
theorem CD_Mo_size : xcd m_Mo_size := xtb_at 1280 (by decide +kernel) (by decide +kernel)
theorem CD_Mo_out : xcd m_Mo_out := xtb_at 1284 (by decide +kernel) (by decide +kernel)
theorem CD_Mo_feed : xcd m_Mo_feed := xtb_at 1288 (by decide +kernel) (by decide +kernel)
theorem CD_Mo_keep : xcd m_Mo_keep := xtb_at 1292 (by decide +kernel) (by decide +kernel)
theorem CD_Mo_copy : xcd m_Mo_copy := xtb_at 1296 (by decide +kernel) (by decide +kernel)
theorem CD_Mo_read : xcd m_Mo_read := xtb_at 1300 (by decide +kernel) (by decide +kernel)
theorem CD_Mo_forget : xcd m_Mo_forget := xtb_at 1304 (by decide +kernel) (by decide +kernel)
theorem CD_Mo_goThrough : xcd m_Mo_goThrough := xtb_at 1308 (by decide +kernel) (by decide +kernel)
theorem CD_Mo_fault : xcd m_Mo_fault := xtb_at 1311 (by decide +kernel) (by decide +kernel)
theorem CD_Mo_byteAt : xcd m_Mo_byteAt := xtb_at 1316 (by decide +kernel) (by decide +kernel)
theorem CD_Mo_length : xcd m_Mo_length := xtb_at 1320 (by decide +kernel) (by decide +kernel)
theorem CD_Mo_among : xcd m_Mo_among := xtb_at 1323 (by decide +kernel) (by decide +kernel)
theorem CD_Mo_moveBytes : xcd m_Mo_moveBytes := xtb_at 1328 (by decide +kernel) (by decide +kernel)
theorem CD_Mo_number : xcd m_Mo_number := xtb_at 1332 (by decide +kernel) (by decide +kernel)
theorem CD_Mo_mayStand : xcd m_Mo_mayStand := xtb_at 1340 (by decide +kernel) (by decide +kernel)
theorem CD_Mo_isFontTold : xcd m_Mo_isFontTold := xtb_at 1344 (by decide +kernel) (by decide +kernel)
theorem CD_Mo_within : xcd m_Mo_within := xtb_at 1348 (by decide +kernel) (by decide +kernel)
theorem CD_Mo_setCharacter : xcd m_Mo_setCharacter := xtb_at 1352 (by decide +kernel) (by decide +kernel)
theorem CD_Mo_noteMark : xcd m_Mo_noteMark := xtb_at 1356 (by decide +kernel) (by decide +kernel)
theorem CD_Mo_add : xcd m_Mo_add := xtb_at 1360 (by decide +kernel) (by decide +kernel)
theorem CD_Mo_setRule : xcd m_Mo_setRule := xtb_at 1364 (by decide +kernel) (by decide +kernel)
theorem CD_Mo_push : xcd m_Mo_push := xtb_at 1368 (by decide +kernel) (by decide +kernel)
theorem CD_Mo_pop : xcd m_Mo_pop := xtb_at 1372 (by decide +kernel) (by decide +kernel)
theorem CD_Mo_moveBy : xcd m_Mo_moveBy := xtb_at 1376 (by decide +kernel) (by decide +kernel)
theorem CD_Mo_take : xcd m_Mo_take := xtb_at 1380 (by decide +kernel) (by decide +kernel)
theorem CD_Mo_fontAt : xcd m_Mo_fontAt := xtb_at 1384 (by decide +kernel) (by decide +kernel)
theorem CD_Mo_tell : xcd m_Mo_tell := xtb_at 1388 (by decide +kernel) (by decide +kernel)
theorem CD_Mo_isSame : xcd m_Mo_isSame := xtb_at 1392 (by decide +kernel) (by decide +kernel)
theorem CD_Mo_nameSize : xcd m_Mo_nameSize := xtb_at 1396 (by decide +kernel) (by decide +kernel)
theorem CD_Mo_behindNumber : xcd m_Mo_behindNumber := xtb_at 1400 (by decide +kernel) (by decide +kernel)
theorem CD_Mo_outside : xcd m_Mo_outside := xtb_at 1404 (by decide +kernel) (by decide +kernel)
theorem CD_Mo_beginPage : xcd m_Mo_beginPage := xtb_at 1408 (by decide +kernel) (by decide +kernel)
theorem CD_Mo_post : xcd m_Mo_post := xtb_at 1412 (by decide +kernel) (by decide +kernel)
theorem CD_Mo_about : xcd m_Mo_about := xtb_at 1417 (by decide +kernel) (by decide +kernel)
theorem CD_Mo_mark2 : xcd m_Mo_mark2 := xtb_at 1421 (by decide +kernel) (by decide +kernel)
theorem CD_Mo_page : xcd m_Mo_page := xtb_at 1425 (by decide +kernel) (by decide +kernel)
theorem CD_Mo_told : xcd m_Mo_told := xtb_at 1429 (by decide +kernel) (by decide +kernel)
theorem L_La_65 : xlI "DviBytesLaw" 65 m_Dv_init.1 0 := ⟨Or.inl (xtb_at 84 (by decide +kernel) (by decide +kernel)), xtb_at 85 (by decide +kernel) (by decide +kernel), xtb_at 62 (by decide +kernel) (by decide +kernel), ⟨by decide, by decide, by decide +kernel⟩, rfl⟩
theorem L_Dv_9 : xlI "DviBytes" 9 m_Wi_init.1 0 := ⟨Or.inr ⟨"DviBytes", xnest_at 92 (by decide +kernel) (by decide +kernel)⟩, xtb_at 93 (by decide +kernel) (by decide +kernel), xtb_at 63 (by decide +kernel) (by decide +kernel), ⟨by decide, by decide, by decide +kernel⟩, rfl⟩
theorem L_Dv_18 : xlI "DviBytes" 18 m_Fo_init.1 0 := ⟨Or.inr ⟨"DviBytes", xnest_at 104 (by decide +kernel) (by decide +kernel)⟩, xtb_at 105 (by decide +kernel) (by decide +kernel), xtb_at 64 (by decide +kernel) (by decide +kernel), ⟨by decide, by decide, by decide +kernel⟩, rfl⟩
theorem L_Dv_29 : xlI "DviBytes" 29 m_Sh_init.1 0 := ⟨Or.inr ⟨"DviBytes", xnest_at 130 (by decide +kernel) (by decide +kernel)⟩, xtb_at 131 (by decide +kernel) (by decide +kernel), xtb_at 65 (by decide +kernel) (by decide +kernel), ⟨by decide, by decide, by decide +kernel⟩, rfl⟩
theorem L_Dv_36 : xlI "DviBytes" 36 m_Wr_init.1 2 := ⟨Or.inl (xtb_at 143 (by decide +kernel) (by decide +kernel)), xtb_at 144 (by decide +kernel) (by decide +kernel), xtb_at 66 (by decide +kernel) (by decide +kernel), ⟨by decide, by decide, by decide +kernel⟩, rfl⟩
theorem L_Wr_11 : xlI "DviBytes$Writer" 11 m_By_init.1 0 := ⟨Or.inr ⟨"DviBytes", xnest_at 149 (by decide +kernel) (by decide +kernel)⟩, xtb_at 150 (by decide +kernel) (by decide +kernel), xtb_at 67 (by decide +kernel) (by decide +kernel), ⟨by decide, by decide, by decide +kernel⟩, rfl⟩
theorem L_Wr_20 : xlI "DviBytes$Writer" 20 m_Wa_init.1 1 := ⟨Or.inl (xtb_at 164 (by decide +kernel) (by decide +kernel)), xtb_at 165 (by decide +kernel) (by decide +kernel), xtb_at 68 (by decide +kernel) (by decide +kernel), ⟨by decide, by decide, by decide +kernel⟩, rfl⟩
theorem L_Dv_45 : xlI "DviBytes" 45 m_By_init.1 0 := ⟨Or.inr ⟨"DviBytes", xnest_at 238 (by decide +kernel) (by decide +kernel)⟩, xtb_at 150 (by decide +kernel) (by decide +kernel), xtb_at 67 (by decide +kernel) (by decide +kernel), ⟨by decide, by decide, by decide +kernel⟩, rfl⟩
theorem L_Dv_52 : xlI "DviBytes" 52 m_Rg_init.1 0 := ⟨Or.inr ⟨"DviBytes", xnest_at 241 (by decide +kernel) (by decide +kernel)⟩, xtb_at 242 (by decide +kernel) (by decide +kernel), xtb_at 69 (by decide +kernel) (by decide +kernel), ⟨by decide, by decide, by decide +kernel⟩, rfl⟩
theorem L_Rg_26 : xlI "DviBytes$Reading" 26 m_By_init.1 0 := ⟨Or.inr ⟨"DviBytes", xnest_at 246 (by decide +kernel) (by decide +kernel)⟩, xtb_at 150 (by decide +kernel) (by decide +kernel), xtb_at 67 (by decide +kernel) (by decide +kernel), ⟨by decide, by decide, by decide +kernel⟩, rfl⟩
theorem L_Dv_59 : xlI "DviBytes" 59 m_Rd_init.1 3 := ⟨Or.inl (xtb_at 298 (by decide +kernel) (by decide +kernel)), xtb_at 299 (by decide +kernel) (by decide +kernel), xtb_at 70 (by decide +kernel) (by decide +kernel), ⟨by decide, by decide, by decide +kernel⟩, rfl⟩
theorem L_La_105 : xlV "DviBytesLaw" 105 m_Dv_size.1 0 := ⟨Or.inl (xtb_at 370 (by decide +kernel) (by decide +kernel)), xtb_at 371 (by decide +kernel) (by decide +kernel), xtb_at 372 (by decide +kernel) (by decide +kernel), xtb_at 62 (by decide +kernel) (by decide +kernel), ⟨by decide, by decide, by decide +kernel⟩⟩
theorem L_Dv_167 : xlV "DviBytes" 167 m_Wr_bytes.1 0 := ⟨Or.inl (xtb_at 374 (by decide +kernel) (by decide +kernel)), xtb_at 375 (by decide +kernel) (by decide +kernel), xtb_at 376 (by decide +kernel) (by decide +kernel), xtb_at 66 (by decide +kernel) (by decide +kernel), ⟨by decide, by decide, by decide +kernel⟩⟩
theorem L_Dv_171 : xlV "DviBytes" 171 m_By_length.1 0 := ⟨Or.inl (xtb_at 378 (by decide +kernel) (by decide +kernel)), xtb_at 379 (by decide +kernel) (by decide +kernel), xtb_at 380 (by decide +kernel) (by decide +kernel), xtb_at 67 (by decide +kernel) (by decide +kernel), ⟨by decide, by decide, by decide +kernel⟩⟩
theorem L_La_113 : xlV "DviBytesLaw" 113 m_Dv_feed.1 2 := ⟨Or.inl (xtb_at 382 (by decide +kernel) (by decide +kernel)), xtb_at 383 (by decide +kernel) (by decide +kernel), xtb_at 384 (by decide +kernel) (by decide +kernel), xtb_at 62 (by decide +kernel) (by decide +kernel), ⟨by decide, by decide, by decide +kernel⟩⟩
theorem L_Dv_184 : xlV "DviBytes" 184 m_By_add.1 1 := ⟨Or.inl (xtb_at 387 (by decide +kernel) (by decide +kernel)), xtb_at 388 (by decide +kernel) (by decide +kernel), xtb_at 389 (by decide +kernel) (by decide +kernel), xtb_at 67 (by decide +kernel) (by decide +kernel), ⟨by decide, by decide, by decide +kernel⟩⟩
theorem L_La_118 : xlV "DviBytesLaw" 118 m_Dv_keep.1 1 := ⟨Or.inl (xtb_at 391 (by decide +kernel) (by decide +kernel)), xtb_at 392 (by decide +kernel) (by decide +kernel), xtb_at 393 (by decide +kernel) (by decide +kernel), xtb_at 62 (by decide +kernel) (by decide +kernel), ⟨by decide, by decide, by decide +kernel⟩⟩
theorem L_Dv_187 : xlV "DviBytes" 187 m_By_cut.1 1 := ⟨Or.inl (xtb_at 395 (by decide +kernel) (by decide +kernel)), xtb_at 396 (by decide +kernel) (by decide +kernel), xtb_at 397 (by decide +kernel) (by decide +kernel), xtb_at 67 (by decide +kernel) (by decide +kernel), ⟨by decide, by decide, by decide +kernel⟩⟩
theorem L_La_123 : xlV "DviBytesLaw" 123 m_Dv_copy.1 0 := ⟨Or.inl (xtb_at 399 (by decide +kernel) (by decide +kernel)), xtb_at 400 (by decide +kernel) (by decide +kernel), xtb_at 401 (by decide +kernel) (by decide +kernel), xtb_at 62 (by decide +kernel) (by decide +kernel), ⟨by decide, by decide, by decide +kernel⟩⟩
theorem L_Dv_190 : xlV "DviBytes" 190 m_By_become.1 1 := ⟨Or.inl (xtb_at 403 (by decide +kernel) (by decide +kernel)), xtb_at 404 (by decide +kernel) (by decide +kernel), xtb_at 405 (by decide +kernel) (by decide +kernel), xtb_at 67 (by decide +kernel) (by decide +kernel), ⟨by decide, by decide, by decide +kernel⟩⟩
theorem L_La_127 : xlV "DviBytesLaw" 127 m_Dv_read.1 0 := ⟨Or.inl (xtb_at 413 (by decide +kernel) (by decide +kernel)), xtb_at 414 (by decide +kernel) (by decide +kernel), xtb_at 415 (by decide +kernel) (by decide +kernel), xtb_at 62 (by decide +kernel) (by decide +kernel), ⟨by decide, by decide, by decide +kernel⟩⟩
theorem L_Dv_194 : xlV "DviBytes" 194 m_Rd_restart.1 0 := ⟨Or.inl (xtb_at 417 (by decide +kernel) (by decide +kernel)), xtb_at 418 (by decide +kernel) (by decide +kernel), xtb_at 419 (by decide +kernel) (by decide +kernel), xtb_at 70 (by decide +kernel) (by decide +kernel), ⟨by decide, by decide, by decide +kernel⟩⟩
theorem L_Rd_30 : xlV "DviBytes$Reader" 30 m_Rg_clear.1 0 := ⟨Or.inl (xtb_at 421 (by decide +kernel) (by decide +kernel)), xtb_at 422 (by decide +kernel) (by decide +kernel), xtb_at 423 (by decide +kernel) (by decide +kernel), xtb_at 69 (by decide +kernel) (by decide +kernel), ⟨by decide, by decide, by decide +kernel⟩⟩
theorem L_Rg_31 : xlV "DviBytes$Reading" 31 m_By_cut.1 1 := ⟨Or.inl (xtb_at 425 (by decide +kernel) (by decide +kernel)), xtb_at 396 (by decide +kernel) (by decide +kernel), xtb_at 397 (by decide +kernel) (by decide +kernel), xtb_at 67 (by decide +kernel) (by decide +kernel), ⟨by decide, by decide, by decide +kernel⟩⟩
theorem L_Dv_196 : xlV "DviBytes" 196 m_Rd_readCommands.1 0 := ⟨Or.inl (xtb_at 426 (by decide +kernel) (by decide +kernel)), xtb_at 427 (by decide +kernel) (by decide +kernel), xtb_at 428 (by decide +kernel) (by decide +kernel), xtb_at 70 (by decide +kernel) (by decide +kernel), ⟨by decide, by decide, by decide +kernel⟩⟩
theorem L_Rd_48 : xlV "DviBytes$Reader" 48 m_By_length.1 0 := ⟨Or.inl (xtb_at 430 (by decide +kernel) (by decide +kernel)), xtb_at 379 (by decide +kernel) (by decide +kernel), xtb_at 380 (by decide +kernel) (by decide +kernel), xtb_at 67 (by decide +kernel) (by decide +kernel), ⟨by decide, by decide, by decide +kernel⟩⟩
theorem L_Rd_54 : xlV "DviBytes$Reader" 54 m_By_at.1 1 := ⟨Or.inl (xtb_at 431 (by decide +kernel) (by decide +kernel)), xtb_at 432 (by decide +kernel) (by decide +kernel), xtb_at 433 (by decide +kernel) (by decide +kernel), xtb_at 67 (by decide +kernel) (by decide +kernel), ⟨by decide, by decide, by decide +kernel⟩⟩
theorem L_Rd_60 : xlS "DviBytes$Reader" 60 m_Rd_bytesOfNumber.1 1 := ⟨Or.inl (xtb_at 435 (by decide +kernel) (by decide +kernel)), xtb_at 436 (by decide +kernel) (by decide +kernel), xtb_at 70 (by decide +kernel) (by decide +kernel), ⟨by decide, by decide, by decide +kernel⟩⟩
theorem L_Rd_66 : xlV "DviBytes$Reader" 66 m_Rd_bytesBehind.1 0 := ⟨Or.inl (xtb_at 440 (by decide +kernel) (by decide +kernel)), xtb_at 442 (by decide +kernel) (by decide +kernel), xtb_at 0 (by decide +kernel) (by decide +kernel), xtb_at 70 (by decide +kernel) (by decide +kernel), ⟨by decide, by decide, by decide +kernel⟩⟩
theorem L_Rd_79 : xlV "DviBytes$Reader" 79 m_Rd_fixedBytes.1 0 := ⟨Or.inl (xtb_at 444 (by decide +kernel) (by decide +kernel)), xtb_at 446 (by decide +kernel) (by decide +kernel), xtb_at 1 (by decide +kernel) (by decide +kernel), xtb_at 70 (by decide +kernel) (by decide +kernel), ⟨by decide, by decide, by decide +kernel⟩⟩
theorem L_Rd_85 : xlV "DviBytes$Reader" 85 m_Rd_isDefinition.1 0 := ⟨Or.inl (xtb_at 448 (by decide +kernel) (by decide +kernel)), xtb_at 450 (by decide +kernel) (by decide +kernel), xtb_at 2 (by decide +kernel) (by decide +kernel), xtb_at 70 (by decide +kernel) (by decide +kernel), ⟨by decide, by decide, by decide +kernel⟩⟩
theorem L_Rd_82 : xlV "DviBytes$Reader" 82 m_Rd_bytesOfText.1 1 := ⟨Or.inl (xtb_at 452 (by decide +kernel) (by decide +kernel)), xtb_at 454 (by decide +kernel) (by decide +kernel), xtb_at 3 (by decide +kernel) (by decide +kernel), xtb_at 70 (by decide +kernel) (by decide +kernel), ⟨by decide, by decide, by decide +kernel⟩⟩
theorem L_Rd_88 : xlV "DviBytes$Reader" 88 m_By_number.1 2 := ⟨Or.inl (xtb_at 456 (by decide +kernel) (by decide +kernel)), xtb_at 457 (by decide +kernel) (by decide +kernel), xtb_at 458 (by decide +kernel) (by decide +kernel), xtb_at 67 (by decide +kernel) (by decide +kernel), ⟨by decide, by decide, by decide +kernel⟩⟩
theorem L_By_35 : xlV "DviBytes$Bytes" 35 m_By_at.1 1 := ⟨Or.inl (xtb_at 460 (by decide +kernel) (by decide +kernel)), xtb_at 432 (by decide +kernel) (by decide +kernel), xtb_at 433 (by decide +kernel) (by decide +kernel), xtb_at 67 (by decide +kernel) (by decide +kernel), ⟨by decide, by decide, by decide +kernel⟩⟩
theorem L_Rd_69 : xlV "DviBytes$Reader" 69 m_Rd_canStand.1 0 := ⟨Or.inl (xtb_at 461 (by decide +kernel) (by decide +kernel)), xtb_at 463 (by decide +kernel) (by decide +kernel), xtb_at 4 (by decide +kernel) (by decide +kernel), xtb_at 70 (by decide +kernel) (by decide +kernel), ⟨by decide, by decide, by decide +kernel⟩⟩
theorem L_Rd_73 : xlV "DviBytes$Reader" 73 m_Rd_obey.1 0 := ⟨Or.inl (xtb_at 465 (by decide +kernel) (by decide +kernel)), xtb_at 467 (by decide +kernel) (by decide +kernel), xtb_at 5 (by decide +kernel) (by decide +kernel), xtb_at 70 (by decide +kernel) (by decide +kernel), ⟨by decide, by decide, by decide +kernel⟩⟩
theorem L_Rd_92 : xlV "DviBytes$Reader" 92 m_Rd_obeyMove.1 0 := ⟨Or.inl (xtb_at 469 (by decide +kernel) (by decide +kernel)), xtb_at 471 (by decide +kernel) (by decide +kernel), xtb_at 6 (by decide +kernel) (by decide +kernel), xtb_at 70 (by decide +kernel) (by decide +kernel), ⟨by decide, by decide, by decide +kernel⟩⟩
theorem L_Rd_151 : xlV "DviBytes$Reader" 151 m_By_signedNumber.1 2 := ⟨Or.inl (xtb_at 473 (by decide +kernel) (by decide +kernel)), xtb_at 474 (by decide +kernel) (by decide +kernel), xtb_at 475 (by decide +kernel) (by decide +kernel), xtb_at 67 (by decide +kernel) (by decide +kernel), ⟨by decide, by decide, by decide +kernel⟩⟩
theorem L_By_38 : xlV "DviBytes$Bytes" 38 m_By_number.1 2 := ⟨Or.inl (xtb_at 477 (by decide +kernel) (by decide +kernel)), xtb_at 457 (by decide +kernel) (by decide +kernel), xtb_at 458 (by decide +kernel) (by decide +kernel), xtb_at 67 (by decide +kernel) (by decide +kernel), ⟨by decide, by decide, by decide +kernel⟩⟩
theorem L_Rd_139 : xlV "DviBytes$Reader" 139 m_Rd_grow.1 2 := ⟨Or.inl (xtb_at 478 (by decide +kernel) (by decide +kernel)), xtb_at 480 (by decide +kernel) (by decide +kernel), xtb_at 7 (by decide +kernel) (by decide +kernel), xtb_at 70 (by decide +kernel) (by decide +kernel), ⟨by decide, by decide, by decide +kernel⟩⟩
theorem L_Rd_147 : xlS "DviBytes$Reader" 147 m_Dv_isInt.1 1 := ⟨Or.inr ⟨"DviBytes", xnest_at 482 (by decide +kernel) (by decide +kernel)⟩, xtb_at 483 (by decide +kernel) (by decide +kernel), xtb_at 62 (by decide +kernel) (by decide +kernel), ⟨by decide, by decide, by decide +kernel⟩⟩
theorem L_Rd_95 : xlV "DviBytes$Reader" 95 m_Rd_obeyFont.1 0 := ⟨Or.inl (xtb_at 485 (by decide +kernel) (by decide +kernel)), xtb_at 487 (by decide +kernel) (by decide +kernel), xtb_at 8 (by decide +kernel) (by decide +kernel), xtb_at 70 (by decide +kernel) (by decide +kernel), ⟨by decide, by decide, by decide +kernel⟩⟩
theorem L_Rd_154 : xlV "DviBytes$Reader" 154 m_Rg_findFont.1 1 := ⟨Or.inl (xtb_at 489 (by decide +kernel) (by decide +kernel)), xtb_at 490 (by decide +kernel) (by decide +kernel), xtb_at 491 (by decide +kernel) (by decide +kernel), xtb_at 69 (by decide +kernel) (by decide +kernel), ⟨by decide, by decide, by decide +kernel⟩⟩
theorem L_Rd_98 : xlV "DviBytes$Reader" 98 m_Rd_obeyDefinition.1 0 := ⟨Or.inl (xtb_at 493 (by decide +kernel) (by decide +kernel)), xtb_at 495 (by decide +kernel) (by decide +kernel), xtb_at 9 (by decide +kernel) (by decide +kernel), xtb_at 70 (by decide +kernel) (by decide +kernel), ⟨by decide, by decide, by decide +kernel⟩⟩
theorem L_Rd_157 : xlV "DviBytes$Reader" 157 m_Rg_isSameFont.1 3 := ⟨Or.inl (xtb_at 497 (by decide +kernel) (by decide +kernel)), xtb_at 498 (by decide +kernel) (by decide +kernel), xtb_at 499 (by decide +kernel) (by decide +kernel), xtb_at 69 (by decide +kernel) (by decide +kernel), ⟨by decide, by decide, by decide +kernel⟩⟩
theorem L_Rg_80 : xlV "DviBytes$Reading" 80 m_Rg_fontPart.1 2 := ⟨Or.inl (xtb_at 501 (by decide +kernel) (by decide +kernel)), xtb_at 502 (by decide +kernel) (by decide +kernel), xtb_at 503 (by decide +kernel) (by decide +kernel), xtb_at 69 (by decide +kernel) (by decide +kernel), ⟨by decide, by decide, by decide +kernel⟩⟩
theorem L_Rg_57 : xlS "DviBytes$Reading" 57 m_Rg_isIn.1 3 := ⟨Or.inl (xtb_at 505 (by decide +kernel) (by decide +kernel)), xtb_at 506 (by decide +kernel) (by decide +kernel), xtb_at 69 (by decide +kernel) (by decide +kernel), ⟨by decide, by decide, by decide +kernel⟩⟩
theorem L_Rg_61 : xlV "DviBytes$Reading" 61 m_By_at.1 1 := ⟨Or.inl (xtb_at 508 (by decide +kernel) (by decide +kernel)), xtb_at 432 (by decide +kernel) (by decide +kernel), xtb_at 433 (by decide +kernel) (by decide +kernel), xtb_at 67 (by decide +kernel) (by decide +kernel), ⟨by decide, by decide, by decide +kernel⟩⟩
theorem L_Rg_65 : xlV "DviBytes$Reading" 65 m_By_number.1 2 := ⟨Or.inl (xtb_at 509 (by decide +kernel) (by decide +kernel)), xtb_at 457 (by decide +kernel) (by decide +kernel), xtb_at 458 (by decide +kernel) (by decide +kernel), xtb_at 67 (by decide +kernel) (by decide +kernel), ⟨by decide, by decide, by decide +kernel⟩⟩
theorem L_Rg_69 : xlS "DviBytes$Reading" 69 m_Rg_nameLengthAt.1 2 := ⟨Or.inl (xtb_at 510 (by decide +kernel) (by decide +kernel)), xtb_at 511 (by decide +kernel) (by decide +kernel), xtb_at 69 (by decide +kernel) (by decide +kernel), ⟨by decide, by decide, by decide +kernel⟩⟩
theorem L_Rd_161 : xlV "DviBytes$Reader" 161 m_Rg_addFont.1 3 := ⟨Or.inl (xtb_at 513 (by decide +kernel) (by decide +kernel)), xtb_at 514 (by decide +kernel) (by decide +kernel), xtb_at 515 (by decide +kernel) (by decide +kernel), xtb_at 69 (by decide +kernel) (by decide +kernel), ⟨by decide, by decide, by decide +kernel⟩⟩
theorem L_Rg_73 : xlV "DviBytes$Reading" 73 m_By_length.1 0 := ⟨Or.inl (xtb_at 517 (by decide +kernel) (by decide +kernel)), xtb_at 379 (by decide +kernel) (by decide +kernel), xtb_at 380 (by decide +kernel) (by decide +kernel), xtb_at 67 (by decide +kernel) (by decide +kernel), ⟨by decide, by decide, by decide +kernel⟩⟩
theorem L_Rg_77 : xlV "DviBytes$Reading" 77 m_By_add.1 1 := ⟨Or.inl (xtb_at 518 (by decide +kernel) (by decide +kernel)), xtb_at 388 (by decide +kernel) (by decide +kernel), xtb_at 389 (by decide +kernel) (by decide +kernel), xtb_at 67 (by decide +kernel) (by decide +kernel), ⟨by decide, by decide, by decide +kernel⟩⟩
theorem L_Rd_101 : xlV "DviBytes$Reader" 101 m_Rd_obeyRule.1 0 := ⟨Or.inl (xtb_at 519 (by decide +kernel) (by decide +kernel)), xtb_at 521 (by decide +kernel) (by decide +kernel), xtb_at 10 (by decide +kernel) (by decide +kernel), xtb_at 70 (by decide +kernel) (by decide +kernel), ⟨by decide, by decide, by decide +kernel⟩⟩
theorem L_Rd_143 : xlV "DviBytes$Reader" 143 m_Rg_addMark.1 5 := ⟨Or.inl (xtb_at 523 (by decide +kernel) (by decide +kernel)), xtb_at 524 (by decide +kernel) (by decide +kernel), xtb_at 525 (by decide +kernel) (by decide +kernel), xtb_at 69 (by decide +kernel) (by decide +kernel), ⟨by decide, by decide, by decide +kernel⟩⟩
theorem L_Rd_104 : xlV "DviBytes$Reader" 104 m_Rd_obeyBegin.1 0 := ⟨Or.inl (xtb_at 527 (by decide +kernel) (by decide +kernel)), xtb_at 529 (by decide +kernel) (by decide +kernel), xtb_at 11 (by decide +kernel) (by decide +kernel), xtb_at 70 (by decide +kernel) (by decide +kernel), ⟨by decide, by decide, by decide +kernel⟩⟩
theorem L_Rd_164 : xlV "DviBytes$Reader" 164 m_Rg_addPage.1 2 := ⟨Or.inl (xtb_at 531 (by decide +kernel) (by decide +kernel)), xtb_at 532 (by decide +kernel) (by decide +kernel), xtb_at 533 (by decide +kernel) (by decide +kernel), xtb_at 69 (by decide +kernel) (by decide +kernel), ⟨by decide, by decide, by decide +kernel⟩⟩
theorem L_Rd_110 : xlV "DviBytes$Reader" 110 m_Rd_obeyPush.1 0 := ⟨Or.inl (xtb_at 535 (by decide +kernel) (by decide +kernel)), xtb_at 537 (by decide +kernel) (by decide +kernel), xtb_at 12 (by decide +kernel) (by decide +kernel), xtb_at 70 (by decide +kernel) (by decide +kernel), ⟨by decide, by decide, by decide +kernel⟩⟩
theorem L_Rd_113 : xlV "DviBytes$Reader" 113 m_Rd_obeyPop.1 0 := ⟨Or.inl (xtb_at 542 (by decide +kernel) (by decide +kernel)), xtb_at 544 (by decide +kernel) (by decide +kernel), xtb_at 13 (by decide +kernel) (by decide +kernel), xtb_at 70 (by decide +kernel) (by decide +kernel), ⟨by decide, by decide, by decide +kernel⟩⟩
theorem L_Rd_119 : xlV "DviBytes$Reader" 119 m_Rd_obeyLast.1 0 := ⟨Or.inl (xtb_at 546 (by decide +kernel) (by decide +kernel)), xtb_at 548 (by decide +kernel) (by decide +kernel), xtb_at 14 (by decide +kernel) (by decide +kernel), xtb_at 70 (by decide +kernel) (by decide +kernel), ⟨by decide, by decide, by decide +kernel⟩⟩
theorem L_Rd_125 : xlV "DviBytes$Reader" 125 m_Rd_obeyCharacter.1 0 := ⟨Or.inl (xtb_at 551 (by decide +kernel) (by decide +kernel)), xtb_at 553 (by decide +kernel) (by decide +kernel), xtb_at 15 (by decide +kernel) (by decide +kernel), xtb_at 70 (by decide +kernel) (by decide +kernel), ⟨by decide, by decide, by decide +kernel⟩⟩
theorem L_Rd_131 : xlV "DviBytes$Reader" 131 m_Rg_fontPart.1 2 := ⟨Or.inl (xtb_at 555 (by decide +kernel) (by decide +kernel)), xtb_at 502 (by decide +kernel) (by decide +kernel), xtb_at 503 (by decide +kernel) (by decide +kernel), xtb_at 69 (by decide +kernel) (by decide +kernel), ⟨by decide, by decide, by decide +kernel⟩⟩
theorem L_Rd_134 : xlV "DviBytes$Reader" 134 m_Wi_of.1 2 := ⟨Or.inl (xtb_at 556 (by decide +kernel) (by decide +kernel)), xtb_at 557 (by decide +kernel) (by decide +kernel), xtb_at 558 (by decide +kernel) (by decide +kernel), xtb_at 63 (by decide +kernel) (by decide +kernel), ⟨by decide, by decide, by decide +kernel⟩⟩
theorem L_Wi_16 : xlS "DviBytes$Widths" 16 m_Dv_isByte.1 1 := ⟨Or.inr ⟨"DviBytes", xnest_at 560 (by decide +kernel) (by decide +kernel)⟩, xtb_at 561 (by decide +kernel) (by decide +kernel), xtb_at 62 (by decide +kernel) (by decide +kernel), ⟨by decide, by decide, by decide +kernel⟩⟩
theorem L_Dv_199 : xlV "DviBytes" 199 m_Rg_clear.1 0 := ⟨Or.inl (xtb_at 563 (by decide +kernel) (by decide +kernel)), xtb_at 422 (by decide +kernel) (by decide +kernel), xtb_at 423 (by decide +kernel) (by decide +kernel), xtb_at 69 (by decide +kernel) (by decide +kernel), ⟨by decide, by decide, by decide +kernel⟩⟩
theorem L_Dv_201 : xlV "DviBytes" 201 m_Rd_place.1 0 := ⟨Or.inl (xtb_at 565 (by decide +kernel) (by decide +kernel)), xtb_at 566 (by decide +kernel) (by decide +kernel), xtb_at 567 (by decide +kernel) (by decide +kernel), xtb_at 70 (by decide +kernel) (by decide +kernel), ⟨by decide, by decide, by decide +kernel⟩⟩
theorem L_La_71 : xlS "DviBytesLaw" 71 m_La_font.1 8 := ⟨Or.inl (xtb_at 569 (by decide +kernel) (by decide +kernel)), xtb_at 570 (by decide +kernel) (by decide +kernel), xtb_at 61 (by decide +kernel) (by decide +kernel), ⟨by decide, by decide, by decide +kernel⟩⟩
theorem L_La_7 : xlV "DviBytesLaw" 7 m_Dv_font.1 7 := ⟨Or.inl (xtb_at 574 (by decide +kernel) (by decide +kernel)), xtb_at 575 (by decide +kernel) (by decide +kernel), xtb_at 576 (by decide +kernel) (by decide +kernel), xtb_at 62 (by decide +kernel) (by decide +kernel), ⟨by decide, by decide, by decide +kernel⟩⟩
theorem L_Dv_66 : xlS "DviBytes" 66 m_Dv_isByte.1 1 := ⟨Or.inl (xtb_at 578 (by decide +kernel) (by decide +kernel)), xtb_at 561 (by decide +kernel) (by decide +kernel), xtb_at 62 (by decide +kernel) (by decide +kernel), ⟨by decide, by decide, by decide +kernel⟩⟩
theorem L_Dv_70 : xlS "DviBytes" 70 m_Dv_isName.1 3 := ⟨Or.inl (xtb_at 579 (by decide +kernel) (by decide +kernel)), xtb_at 580 (by decide +kernel) (by decide +kernel), xtb_at 62 (by decide +kernel) (by decide +kernel), ⟨by decide, by decide, by decide +kernel⟩⟩
theorem L_Dv_246 : xlS "DviBytes" 246 m_Dv_letterOf.1 3 := ⟨Or.inl (xtb_at 582 (by decide +kernel) (by decide +kernel)), xtb_at 583 (by decide +kernel) (by decide +kernel), xtb_at 62 (by decide +kernel) (by decide +kernel), ⟨by decide, by decide, by decide +kernel⟩⟩
theorem L_Dv_81 : xlV "DviBytes" 81 m_Wr_hasTold.1 1 := ⟨Or.inl (xtb_at 654 (by decide +kernel) (by decide +kernel)), xtb_at 655 (by decide +kernel) (by decide +kernel), xtb_at 656 (by decide +kernel) (by decide +kernel), xtb_at 66 (by decide +kernel) (by decide +kernel), ⟨by decide, by decide, by decide +kernel⟩⟩
theorem L_Wr_57 : xlS "DviBytes$Writer" 57 m_Dv_isByte.1 1 := ⟨Or.inr ⟨"DviBytes", xnest_at 658 (by decide +kernel) (by decide +kernel)⟩, xtb_at 561 (by decide +kernel) (by decide +kernel), xtb_at 62 (by decide +kernel) (by decide +kernel), ⟨by decide, by decide, by decide +kernel⟩⟩
theorem L_Dv_89 : xlV "DviBytes" 89 m_Fo_define.1 4 := ⟨Or.inl (xtb_at 675 (by decide +kernel) (by decide +kernel)), xtb_at 676 (by decide +kernel) (by decide +kernel), xtb_at 677 (by decide +kernel) (by decide +kernel), xtb_at 64 (by decide +kernel) (by decide +kernel), ⟨by decide, by decide, by decide +kernel⟩⟩
theorem L_Fo_31 : xlS "DviBytes$Fonts" 31 m_Dv_isByte.1 1 := ⟨Or.inr ⟨"DviBytes", xnest_at 679 (by decide +kernel) (by decide +kernel)⟩, xtb_at 561 (by decide +kernel) (by decide +kernel), xtb_at 62 (by decide +kernel) (by decide +kernel), ⟨by decide, by decide, by decide +kernel⟩⟩
theorem L_Dv_93 : xlV "DviBytes" 93 m_Fo_call.1 4 := ⟨Or.inl (xtb_at 680 (by decide +kernel) (by decide +kernel)), xtb_at 681 (by decide +kernel) (by decide +kernel), xtb_at 682 (by decide +kernel) (by decide +kernel), xtb_at 64 (by decide +kernel) (by decide +kernel), ⟨by decide, by decide, by decide +kernel⟩⟩
theorem L_La_80 : xlS "DviBytesLaw" 80 m_La_width.1 4 := ⟨Or.inl (xtb_at 684 (by decide +kernel) (by decide +kernel)), xtb_at 685 (by decide +kernel) (by decide +kernel), xtb_at 61 (by decide +kernel) (by decide +kernel), ⟨by decide, by decide, by decide +kernel⟩⟩
theorem L_La_17 : xlV "DviBytesLaw" 17 m_Dv_width.1 3 := ⟨Or.inl (xtb_at 687 (by decide +kernel) (by decide +kernel)), xtb_at 688 (by decide +kernel) (by decide +kernel), xtb_at 689 (by decide +kernel) (by decide +kernel), xtb_at 62 (by decide +kernel) (by decide +kernel), ⟨by decide, by decide, by decide +kernel⟩⟩
theorem L_Dv_99 : xlV "DviBytes" 99 m_Wi_change.1 3 := ⟨Or.inl (xtb_at 692 (by decide +kernel) (by decide +kernel)), xtb_at 693 (by decide +kernel) (by decide +kernel), xtb_at 694 (by decide +kernel) (by decide +kernel), xtb_at 63 (by decide +kernel) (by decide +kernel), ⟨by decide, by decide, by decide +kernel⟩⟩
theorem L_La_84 : xlS "DviBytesLaw" 84 m_La_count.1 3 := ⟨Or.inl (xtb_at 696 (by decide +kernel) (by decide +kernel)), xtb_at 697 (by decide +kernel) (by decide +kernel), xtb_at 61 (by decide +kernel) (by decide +kernel), ⟨by decide, by decide, by decide +kernel⟩⟩
theorem L_La_21 : xlV "DviBytesLaw" 21 m_Dv_count.1 2 := ⟨Or.inl (xtb_at 699 (by decide +kernel) (by decide +kernel)), xtb_at 700 (by decide +kernel) (by decide +kernel), xtb_at 701 (by decide +kernel) (by decide +kernel), xtb_at 62 (by decide +kernel) (by decide +kernel), ⟨by decide, by decide, by decide +kernel⟩⟩
theorem L_La_88 : xlS "DviBytesLaw" 88 m_La_begin.1 3 := ⟨Or.inl (xtb_at 704 (by decide +kernel) (by decide +kernel)), xtb_at 705 (by decide +kernel) (by decide +kernel), xtb_at 61 (by decide +kernel) (by decide +kernel), ⟨by decide, by decide, by decide +kernel⟩⟩
theorem L_La_25 : xlV "DviBytesLaw" 25 m_Dv_begin.1 2 := ⟨Or.inl (xtb_at 707 (by decide +kernel) (by decide +kernel)), xtb_at 708 (by decide +kernel) (by decide +kernel), xtb_at 709 (by decide +kernel) (by decide +kernel), xtb_at 62 (by decide +kernel) (by decide +kernel), ⟨by decide, by decide, by decide +kernel⟩⟩
theorem L_Dv_107 : xlV "DviBytes" 107 m_Wr_restart.1 2 := ⟨Or.inl (xtb_at 712 (by decide +kernel) (by decide +kernel)), xtb_at 713 (by decide +kernel) (by decide +kernel), xtb_at 714 (by decide +kernel) (by decide +kernel), xtb_at 66 (by decide +kernel) (by decide +kernel), ⟨by decide, by decide, by decide +kernel⟩⟩
theorem L_Wr_61 : xlV "DviBytes$Writer" 61 m_Wr_goBack.1 2 := ⟨Or.inl (xtb_at 716 (by decide +kernel) (by decide +kernel)), xtb_at 718 (by decide +kernel) (by decide +kernel), xtb_at 17 (by decide +kernel) (by decide +kernel), xtb_at 66 (by decide +kernel) (by decide +kernel), ⟨by decide, by decide, by decide +kernel⟩⟩
theorem L_Wr_77 : xlV "DviBytes$Writer" 77 m_By_cut.1 1 := ⟨Or.inl (xtb_at 720 (by decide +kernel) (by decide +kernel)), xtb_at 396 (by decide +kernel) (by decide +kernel), xtb_at 397 (by decide +kernel) (by decide +kernel), xtb_at 67 (by decide +kernel) (by decide +kernel), ⟨by decide, by decide, by decide +kernel⟩⟩
theorem L_Dv_111 : xlV "DviBytes" 111 m_Sh_clear.1 0 := ⟨Or.inl (xtb_at 721 (by decide +kernel) (by decide +kernel)), xtb_at 722 (by decide +kernel) (by decide +kernel), xtb_at 723 (by decide +kernel) (by decide +kernel), xtb_at 65 (by decide +kernel) (by decide +kernel), ⟨by decide, by decide, by decide +kernel⟩⟩
theorem L_La_91 : xlS "DviBytesLaw" 91 m_La_put.1 6 := ⟨Or.inl (xtb_at 725 (by decide +kernel) (by decide +kernel)), xtb_at 726 (by decide +kernel) (by decide +kernel), xtb_at 61 (by decide +kernel) (by decide +kernel), ⟨by decide, by decide, by decide +kernel⟩⟩
theorem L_La_28 : xlV "DviBytesLaw" 28 m_Dv_put.1 4 := ⟨Or.inl (xtb_at 729 (by decide +kernel) (by decide +kernel)), xtb_at 730 (by decide +kernel) (by decide +kernel), xtb_at 731 (by decide +kernel) (by decide +kernel), xtb_at 62 (by decide +kernel) (by decide +kernel), ⟨by decide, by decide, by decide +kernel⟩⟩
theorem L_Dv_114 : xlV "DviBytes" 114 m_Fo_isDefined.1 1 := ⟨Or.inl (xtb_at 733 (by decide +kernel) (by decide +kernel)), xtb_at 734 (by decide +kernel) (by decide +kernel), xtb_at 735 (by decide +kernel) (by decide +kernel), xtb_at 64 (by decide +kernel) (by decide +kernel), ⟨by decide, by decide, by decide +kernel⟩⟩
theorem L_Dv_117 : xlS "DviBytes" 117 m_Dv_isNear.1 1 := ⟨Or.inl (xtb_at 737 (by decide +kernel) (by decide +kernel)), xtb_at 738 (by decide +kernel) (by decide +kernel), xtb_at 62 (by decide +kernel) (by decide +kernel), ⟨by decide, by decide, by decide +kernel⟩⟩
theorem L_Dv_122 : xlV "DviBytes" 122 m_Sh_isFull.1 0 := ⟨Or.inl (xtb_at 743 (by decide +kernel) (by decide +kernel)), xtb_at 744 (by decide +kernel) (by decide +kernel), xtb_at 745 (by decide +kernel) (by decide +kernel), xtb_at 65 (by decide +kernel) (by decide +kernel), ⟨by decide, by decide, by decide +kernel⟩⟩
theorem L_Dv_131 : xlV "DviBytes" 131 m_Sh_add.1 5 := ⟨Or.inl (xtb_at 763 (by decide +kernel) (by decide +kernel)), xtb_at 764 (by decide +kernel) (by decide +kernel), xtb_at 765 (by decide +kernel) (by decide +kernel), xtb_at 65 (by decide +kernel) (by decide +kernel), ⟨by decide, by decide, by decide +kernel⟩⟩
theorem L_La_95 : xlS "DviBytesLaw" 95 m_La_rule.1 6 := ⟨Or.inl (xtb_at 767 (by decide +kernel) (by decide +kernel)), xtb_at 768 (by decide +kernel) (by decide +kernel), xtb_at 61 (by decide +kernel) (by decide +kernel), ⟨by decide, by decide, by decide +kernel⟩⟩
theorem L_La_34 : xlV "DviBytesLaw" 34 m_Dv_rule.1 4 := ⟨Or.inl (xtb_at 770 (by decide +kernel) (by decide +kernel)), xtb_at 771 (by decide +kernel) (by decide +kernel), xtb_at 772 (by decide +kernel) (by decide +kernel), xtb_at 62 (by decide +kernel) (by decide +kernel), ⟨by decide, by decide, by decide +kernel⟩⟩
theorem L_Dv_135 : xlS "DviBytes" 135 m_Dv_isExtent.1 1 := ⟨Or.inl (xtb_at 774 (by decide +kernel) (by decide +kernel)), xtb_at 775 (by decide +kernel) (by decide +kernel), xtb_at 62 (by decide +kernel) (by decide +kernel), ⟨by decide, by decide, by decide +kernel⟩⟩
theorem L_La_98 : xlS "DviBytesLaw" 98 m_La_ship.1 2 := ⟨Or.inl (xtb_at 778 (by decide +kernel) (by decide +kernel)), xtb_at 779 (by decide +kernel) (by decide +kernel), xtb_at 61 (by decide +kernel) (by decide +kernel), ⟨by decide, by decide, by decide +kernel⟩⟩
theorem L_La_37 : xlV "DviBytesLaw" 37 m_Dv_ship.1 0 := ⟨Or.inl (xtb_at 782 (by decide +kernel) (by decide +kernel)), xtb_at 783 (by decide +kernel) (by decide +kernel), xtb_at 784 (by decide +kernel) (by decide +kernel), xtb_at 62 (by decide +kernel) (by decide +kernel), ⟨by decide, by decide, by decide +kernel⟩⟩
theorem L_Dv_140 : xlV "DviBytes" 140 m_Wr_isClosed.1 0 := ⟨Or.inl (xtb_at 786 (by decide +kernel) (by decide +kernel)), xtb_at 787 (by decide +kernel) (by decide +kernel), xtb_at 788 (by decide +kernel) (by decide +kernel), xtb_at 66 (by decide +kernel) (by decide +kernel), ⟨by decide, by decide, by decide +kernel⟩⟩
theorem L_Dv_145 : xlV "DviBytes" 145 m_Wr_planPage.1 1 := ⟨Or.inl (xtb_at 791 (by decide +kernel) (by decide +kernel)), xtb_at 792 (by decide +kernel) (by decide +kernel), xtb_at 793 (by decide +kernel) (by decide +kernel), xtb_at 66 (by decide +kernel) (by decide +kernel), ⟨by decide, by decide, by decide +kernel⟩⟩
theorem L_Wr_83 : xlV "DviBytes$Writer" 83 m_Wa_clear.1 0 := ⟨Or.inl (xtb_at 795 (by decide +kernel) (by decide +kernel)), xtb_at 796 (by decide +kernel) (by decide +kernel), xtb_at 797 (by decide +kernel) (by decide +kernel), xtb_at 68 (by decide +kernel) (by decide +kernel), ⟨by decide, by decide, by decide +kernel⟩⟩
theorem L_Wr_92 : xlV "DviBytes$Writer" 92 m_Sh_length.1 0 := ⟨Or.inl (xtb_at 799 (by decide +kernel) (by decide +kernel)), xtb_at 800 (by decide +kernel) (by decide +kernel), xtb_at 801 (by decide +kernel) (by decide +kernel), xtb_at 65 (by decide +kernel) (by decide +kernel), ⟨by decide, by decide, by decide +kernel⟩⟩
theorem L_Wr_98 : xlV "DviBytes$Writer" 98 m_Sh_x.1 1 := ⟨Or.inl (xtb_at 803 (by decide +kernel) (by decide +kernel)), xtb_at 804 (by decide +kernel) (by decide +kernel), xtb_at 805 (by decide +kernel) (by decide +kernel), xtb_at 65 (by decide +kernel) (by decide +kernel), ⟨by decide, by decide, by decide +kernel⟩⟩
theorem L_Sh_19 : xlV "DviBytes$Sheet" 19 m_Sh_part.1 2 := ⟨Or.inl (xtb_at 807 (by decide +kernel) (by decide +kernel)), xtb_at 809 (by decide +kernel) (by decide +kernel), xtb_at 18 (by decide +kernel) (by decide +kernel), xtb_at 65 (by decide +kernel) (by decide +kernel), ⟨by decide, by decide, by decide +kernel⟩⟩
theorem L_Wr_102 : xlV "DviBytes$Writer" 102 m_Sh_y.1 1 := ⟨Or.inl (xtb_at 811 (by decide +kernel) (by decide +kernel)), xtb_at 812 (by decide +kernel) (by decide +kernel), xtb_at 813 (by decide +kernel) (by decide +kernel), xtb_at 65 (by decide +kernel) (by decide +kernel), ⟨by decide, by decide, by decide +kernel⟩⟩
theorem L_Wr_105 : xlV "DviBytes$Writer" 105 m_Wr_growth.1 2 := ⟨Or.inl (xtb_at 815 (by decide +kernel) (by decide +kernel)), xtb_at 817 (by decide +kernel) (by decide +kernel), xtb_at 19 (by decide +kernel) (by decide +kernel), xtb_at 66 (by decide +kernel) (by decide +kernel), ⟨by decide, by decide, by decide +kernel⟩⟩
theorem L_Wr_122 : xlV "DviBytes$Writer" 122 m_Sh_isRule.1 1 := ⟨Or.inl (xtb_at 819 (by decide +kernel) (by decide +kernel)), xtb_at 820 (by decide +kernel) (by decide +kernel), xtb_at 821 (by decide +kernel) (by decide +kernel), xtb_at 65 (by decide +kernel) (by decide +kernel), ⟨by decide, by decide, by decide +kernel⟩⟩
theorem L_Wr_125 : xlV "DviBytes$Writer" 125 m_Sh_fontOf.1 1 := ⟨Or.inl (xtb_at 823 (by decide +kernel) (by decide +kernel)), xtb_at 824 (by decide +kernel) (by decide +kernel), xtb_at 825 (by decide +kernel) (by decide +kernel), xtb_at 65 (by decide +kernel) (by decide +kernel), ⟨by decide, by decide, by decide +kernel⟩⟩
theorem L_Wr_128 : xlV "DviBytes$Writer" 128 m_Sh_characterOrWidth.1 1 := ⟨Or.inl (xtb_at 827 (by decide +kernel) (by decide +kernel)), xtb_at 828 (by decide +kernel) (by decide +kernel), xtb_at 829 (by decide +kernel) (by decide +kernel), xtb_at 65 (by decide +kernel) (by decide +kernel), ⟨by decide, by decide, by decide +kernel⟩⟩
theorem L_Wr_131 : xlV "DviBytes$Writer" 131 m_Wi_of.1 2 := ⟨Or.inl (xtb_at 831 (by decide +kernel) (by decide +kernel)), xtb_at 557 (by decide +kernel) (by decide +kernel), xtb_at 558 (by decide +kernel) (by decide +kernel), xtb_at 63 (by decide +kernel) (by decide +kernel), ⟨by decide, by decide, by decide +kernel⟩⟩
theorem L_Wr_109 : xlS "DviBytes$Writer" 109 m_Dv_isInt.1 1 := ⟨Or.inr ⟨"DviBytes", xnest_at 832 (by decide +kernel) (by decide +kernel)⟩, xtb_at 483 (by decide +kernel) (by decide +kernel), xtb_at 62 (by decide +kernel) (by decide +kernel), ⟨by decide, by decide, by decide +kernel⟩⟩
theorem L_Wr_113 : xlV "DviBytes$Writer" 113 m_Wa_plan.1 1 := ⟨Or.inl (xtb_at 833 (by decide +kernel) (by decide +kernel)), xtb_at 834 (by decide +kernel) (by decide +kernel), xtb_at 835 (by decide +kernel) (by decide +kernel), xtb_at 68 (by decide +kernel) (by decide +kernel), ⟨by decide, by decide, by decide +kernel⟩⟩
theorem L_Dv_154 : xlV "DviBytes" 154 m_Wr_writePage.1 2 := ⟨Or.inl (xtb_at 854 (by decide +kernel) (by decide +kernel)), xtb_at 855 (by decide +kernel) (by decide +kernel), xtb_at 856 (by decide +kernel) (by decide +kernel), xtb_at 66 (by decide +kernel) (by decide +kernel), ⟨by decide, by decide, by decide +kernel⟩⟩
theorem L_Wr_136 : xlV "DviBytes$Writer" 136 m_By_length.1 0 := ⟨Or.inl (xtb_at 858 (by decide +kernel) (by decide +kernel)), xtb_at 379 (by decide +kernel) (by decide +kernel), xtb_at 380 (by decide +kernel) (by decide +kernel), xtb_at 67 (by decide +kernel) (by decide +kernel), ⟨by decide, by decide, by decide +kernel⟩⟩
theorem L_Wr_137 : xlV "DviBytes$Writer" 137 m_Wr_writeStart.1 0 := ⟨Or.inl (xtb_at 859 (by decide +kernel) (by decide +kernel)), xtb_at 861 (by decide +kernel) (by decide +kernel), xtb_at 20 (by decide +kernel) (by decide +kernel), xtb_at 66 (by decide +kernel) (by decide +kernel), ⟨by decide, by decide, by decide +kernel⟩⟩
theorem L_Wr_140 : xlV "DviBytes$Writer" 140 m_By_add.1 1 := ⟨Or.inl (xtb_at 863 (by decide +kernel) (by decide +kernel)), xtb_at 388 (by decide +kernel) (by decide +kernel), xtb_at 389 (by decide +kernel) (by decide +kernel), xtb_at 67 (by decide +kernel) (by decide +kernel), ⟨by decide, by decide, by decide +kernel⟩⟩
theorem L_Wr_151 : xlV "DviBytes$Writer" 151 m_Wr_writeScale.1 0 := ⟨Or.inl (xtb_at 864 (by decide +kernel) (by decide +kernel)), xtb_at 866 (by decide +kernel) (by decide +kernel), xtb_at 21 (by decide +kernel) (by decide +kernel), xtb_at 66 (by decide +kernel) (by decide +kernel), ⟨by decide, by decide, by decide +kernel⟩⟩
theorem L_Wr_143 : xlV "DviBytes$Writer" 143 m_By_addNumber.1 2 := ⟨Or.inl (xtb_at 869 (by decide +kernel) (by decide +kernel)), xtb_at 870 (by decide +kernel) (by decide +kernel), xtb_at 871 (by decide +kernel) (by decide +kernel), xtb_at 67 (by decide +kernel) (by decide +kernel), ⟨by decide, by decide, by decide +kernel⟩⟩
theorem L_By_20 : xlV "DviBytes$Bytes" 20 m_By_add.1 1 := ⟨Or.inl (xtb_at 873 (by decide +kernel) (by decide +kernel)), xtb_at 388 (by decide +kernel) (by decide +kernel), xtb_at 389 (by decide +kernel) (by decide +kernel), xtb_at 67 (by decide +kernel) (by decide +kernel), ⟨by decide, by decide, by decide +kernel⟩⟩
theorem L_Wr_146 : xlV "DviBytes$Writer" 146 m_Wr_writeMarks.1 1 := ⟨Or.inl (xtb_at 875 (by decide +kernel) (by decide +kernel)), xtb_at 877 (by decide +kernel) (by decide +kernel), xtb_at 22 (by decide +kernel) (by decide +kernel), xtb_at 66 (by decide +kernel) (by decide +kernel), ⟨by decide, by decide, by decide +kernel⟩⟩
theorem L_Wr_156 : xlV "DviBytes$Writer" 156 m_Wa_write.1 2 := ⟨Or.inl (xtb_at 879 (by decide +kernel) (by decide +kernel)), xtb_at 880 (by decide +kernel) (by decide +kernel), xtb_at 881 (by decide +kernel) (by decide +kernel), xtb_at 68 (by decide +kernel) (by decide +kernel), ⟨by decide, by decide, by decide +kernel⟩⟩
theorem L_Wa_28 : xlV "DviBytes$Way" 28 m_By_add.1 1 := ⟨Or.inl (xtb_at 883 (by decide +kernel) (by decide +kernel)), xtb_at 388 (by decide +kernel) (by decide +kernel), xtb_at 389 (by decide +kernel) (by decide +kernel), xtb_at 67 (by decide +kernel) (by decide +kernel), ⟨by decide, by decide, by decide +kernel⟩⟩
theorem L_Wa_34 : xlV "DviBytes$Way" 34 m_Wa_comesBehind.1 2 := ⟨Or.inl (xtb_at 884 (by decide +kernel) (by decide +kernel)), xtb_at 886 (by decide +kernel) (by decide +kernel), xtb_at 23 (by decide +kernel) (by decide +kernel), xtb_at 68 (by decide +kernel) (by decide +kernel), ⟨by decide, by decide, by decide +kernel⟩⟩
theorem L_Wa_38 : xlV "DviBytes$Way" 38 m_By_addShortest.1 2 := ⟨Or.inl (xtb_at 888 (by decide +kernel) (by decide +kernel)), xtb_at 889 (by decide +kernel) (by decide +kernel), xtb_at 890 (by decide +kernel) (by decide +kernel), xtb_at 67 (by decide +kernel) (by decide +kernel), ⟨by decide, by decide, by decide +kernel⟩⟩
theorem L_By_24 : xlS "DviBytes$Bytes" 24 m_By_bytesFor.1 1 := ⟨Or.inl (xtb_at 892 (by decide +kernel) (by decide +kernel)), xtb_at 893 (by decide +kernel) (by decide +kernel), xtb_at 67 (by decide +kernel) (by decide +kernel), ⟨by decide, by decide, by decide +kernel⟩⟩
theorem L_By_28 : xlV "DviBytes$Bytes" 28 m_By_addNumber.1 2 := ⟨Or.inl (xtb_at 898 (by decide +kernel) (by decide +kernel)), xtb_at 870 (by decide +kernel) (by decide +kernel), xtb_at 871 (by decide +kernel) (by decide +kernel), xtb_at 67 (by decide +kernel) (by decide +kernel), ⟨by decide, by decide, by decide +kernel⟩⟩
theorem L_Wr_160 : xlV "DviBytes$Writer" 160 m_Sh_height.1 1 := ⟨Or.inl (xtb_at 899 (by decide +kernel) (by decide +kernel)), xtb_at 900 (by decide +kernel) (by decide +kernel), xtb_at 901 (by decide +kernel) (by decide +kernel), xtb_at 65 (by decide +kernel) (by decide +kernel), ⟨by decide, by decide, by decide +kernel⟩⟩
theorem L_Wr_163 : xlV "DviBytes$Writer" 163 m_Wr_writeFont.1 1 := ⟨Or.inl (xtb_at 903 (by decide +kernel) (by decide +kernel)), xtb_at 905 (by decide +kernel) (by decide +kernel), xtb_at 24 (by decide +kernel) (by decide +kernel), xtb_at 66 (by decide +kernel) (by decide +kernel), ⟨by decide, by decide, by decide +kernel⟩⟩
theorem L_Wr_169 : xlV "DviBytes$Writer" 169 m_Wr_hasTold.1 1 := ⟨Or.inl (xtb_at 907 (by decide +kernel) (by decide +kernel)), xtb_at 655 (by decide +kernel) (by decide +kernel), xtb_at 656 (by decide +kernel) (by decide +kernel), xtb_at 66 (by decide +kernel) (by decide +kernel), ⟨by decide, by decide, by decide +kernel⟩⟩
theorem L_Wr_172 : xlV "DviBytes$Writer" 172 m_Fo_writeDefinition.1 2 := ⟨Or.inl (xtb_at 908 (by decide +kernel) (by decide +kernel)), xtb_at 909 (by decide +kernel) (by decide +kernel), xtb_at 910 (by decide +kernel) (by decide +kernel), xtb_at 64 (by decide +kernel) (by decide +kernel), ⟨by decide, by decide, by decide +kernel⟩⟩
theorem L_Fo_35 : xlV "DviBytes$Fonts" 35 m_By_add.1 1 := ⟨Or.inl (xtb_at 912 (by decide +kernel) (by decide +kernel)), xtb_at 388 (by decide +kernel) (by decide +kernel), xtb_at 389 (by decide +kernel) (by decide +kernel), xtb_at 67 (by decide +kernel) (by decide +kernel), ⟨by decide, by decide, by decide +kernel⟩⟩
theorem L_Fo_41 : xlV "DviBytes$Fonts" 41 m_By_addNumber.1 2 := ⟨Or.inl (xtb_at 913 (by decide +kernel) (by decide +kernel)), xtb_at 870 (by decide +kernel) (by decide +kernel), xtb_at 871 (by decide +kernel) (by decide +kernel), xtb_at 67 (by decide +kernel) (by decide +kernel), ⟨by decide, by decide, by decide +kernel⟩⟩
theorem L_Fo_45 : xlS "DviBytes$Fonts" 45 m_Dv_letterOf.1 3 := ⟨Or.inr ⟨"DviBytes", xnest_at 914 (by decide +kernel) (by decide +kernel)⟩, xtb_at 583 (by decide +kernel) (by decide +kernel), xtb_at 62 (by decide +kernel) (by decide +kernel), ⟨by decide, by decide, by decide +kernel⟩⟩
theorem L_Wr_177 : xlV "DviBytes$Writer" 177 m_Wr_remember.1 1 := ⟨Or.inl (xtb_at 915 (by decide +kernel) (by decide +kernel)), xtb_at 917 (by decide +kernel) (by decide +kernel), xtb_at 25 (by decide +kernel) (by decide +kernel), xtb_at 66 (by decide +kernel) (by decide +kernel), ⟨by decide, by decide, by decide +kernel⟩⟩
theorem L_Wr_166 : xlV "DviBytes$Writer" 166 m_Wr_writeCharacter.1 1 := ⟨Or.inl (xtb_at 919 (by decide +kernel) (by decide +kernel)), xtb_at 921 (by decide +kernel) (by decide +kernel), xtb_at 26 (by decide +kernel) (by decide +kernel), xtb_at 66 (by decide +kernel) (by decide +kernel), ⟨by decide, by decide, by decide +kernel⟩⟩
theorem L_Dv_160 : xlV "DviBytes" 160 m_Wr_pageCount.1 0 := ⟨Or.inl (xtb_at 925 (by decide +kernel) (by decide +kernel)), xtb_at 926 (by decide +kernel) (by decide +kernel), xtb_at 927 (by decide +kernel) (by decide +kernel), xtb_at 66 (by decide +kernel) (by decide +kernel), ⟨by decide, by decide, by decide +kernel⟩⟩
theorem L_La_102 : xlS "DviBytesLaw" 102 m_La_close.1 2 := ⟨Or.inl (xtb_at 929 (by decide +kernel) (by decide +kernel)), xtb_at 930 (by decide +kernel) (by decide +kernel), xtb_at 61 (by decide +kernel) (by decide +kernel), ⟨by decide, by decide, by decide +kernel⟩⟩
theorem L_La_43 : xlV "DviBytesLaw" 43 m_Dv_close.1 0 := ⟨Or.inl (xtb_at 932 (by decide +kernel) (by decide +kernel)), xtb_at 933 (by decide +kernel) (by decide +kernel), xtb_at 934 (by decide +kernel) (by decide +kernel), xtb_at 62 (by decide +kernel) (by decide +kernel), ⟨by decide, by decide, by decide +kernel⟩⟩
theorem L_Dv_164 : xlV "DviBytes" 164 m_Wr_writeEnd.1 0 := ⟨Or.inl (xtb_at 936 (by decide +kernel) (by decide +kernel)), xtb_at 937 (by decide +kernel) (by decide +kernel), xtb_at 938 (by decide +kernel) (by decide +kernel), xtb_at 66 (by decide +kernel) (by decide +kernel), ⟨by decide, by decide, by decide +kernel⟩⟩
theorem L_La_109 : xlS "DviBytesLaw" 109 m_La_out.1 3 := ⟨Or.inl (xtb_at 940 (by decide +kernel) (by decide +kernel)), xtb_at 941 (by decide +kernel) (by decide +kernel), xtb_at 61 (by decide +kernel) (by decide +kernel), ⟨by decide, by decide, by decide +kernel⟩⟩
theorem L_La_46 : xlV "DviBytesLaw" 46 m_Dv_out.1 1 := ⟨Or.inl (xtb_at 944 (by decide +kernel) (by decide +kernel)), xtb_at 945 (by decide +kernel) (by decide +kernel), xtb_at 946 (by decide +kernel) (by decide +kernel), xtb_at 62 (by decide +kernel) (by decide +kernel), ⟨by decide, by decide, by decide +kernel⟩⟩
theorem L_Dv_179 : xlV "DviBytes" 179 m_By_at.1 1 := ⟨Or.inl (xtb_at 964 (by decide +kernel) (by decide +kernel)), xtb_at 432 (by decide +kernel) (by decide +kernel), xtb_at 433 (by decide +kernel) (by decide +kernel), xtb_at 67 (by decide +kernel) (by decide +kernel), ⟨by decide, by decide, by decide +kernel⟩⟩
theorem L_La_131 : xlS "DviBytesLaw" 131 m_La_about.1 3 := ⟨Or.inl (xtb_at 965 (by decide +kernel) (by decide +kernel)), xtb_at 966 (by decide +kernel) (by decide +kernel), xtb_at 61 (by decide +kernel) (by decide +kernel), ⟨by decide, by decide, by decide +kernel⟩⟩
theorem L_La_52 : xlV "DviBytesLaw" 52 m_Dv_about.1 1 := ⟨Or.inl (xtb_at 968 (by decide +kernel) (by decide +kernel)), xtb_at 969 (by decide +kernel) (by decide +kernel), xtb_at 970 (by decide +kernel) (by decide +kernel), xtb_at 62 (by decide +kernel) (by decide +kernel), ⟨by decide, by decide, by decide +kernel⟩⟩
theorem L_La_134 : xlS "DviBytesLaw" 134 m_La_mark.1 4 := ⟨Or.inl (xtb_at 973 (by decide +kernel) (by decide +kernel)), xtb_at 974 (by decide +kernel) (by decide +kernel), xtb_at 61 (by decide +kernel) (by decide +kernel), ⟨by decide, by decide, by decide +kernel⟩⟩
theorem L_La_55 : xlV "DviBytesLaw" 55 m_Dv_mark.1 2 := ⟨Or.inl (xtb_at 976 (by decide +kernel) (by decide +kernel)), xtb_at 977 (by decide +kernel) (by decide +kernel), xtb_at 978 (by decide +kernel) (by decide +kernel), xtb_at 62 (by decide +kernel) (by decide +kernel), ⟨by decide, by decide, by decide +kernel⟩⟩
theorem L_Dv_230 : xlV "DviBytes" 230 m_Rg_markPart.1 2 := ⟨Or.inl (xtb_at 981 (by decide +kernel) (by decide +kernel)), xtb_at 982 (by decide +kernel) (by decide +kernel), xtb_at 983 (by decide +kernel) (by decide +kernel), xtb_at 69 (by decide +kernel) (by decide +kernel), ⟨by decide, by decide, by decide +kernel⟩⟩
theorem L_La_138 : xlS "DviBytesLaw" 138 m_La_page.1 4 := ⟨Or.inl (xtb_at 985 (by decide +kernel) (by decide +kernel)), xtb_at 986 (by decide +kernel) (by decide +kernel), xtb_at 61 (by decide +kernel) (by decide +kernel), ⟨by decide, by decide, by decide +kernel⟩⟩
theorem L_La_59 : xlV "DviBytesLaw" 59 m_Dv_page.1 2 := ⟨Or.inl (xtb_at 988 (by decide +kernel) (by decide +kernel)), xtb_at 989 (by decide +kernel) (by decide +kernel), xtb_at 990 (by decide +kernel) (by decide +kernel), xtb_at 62 (by decide +kernel) (by decide +kernel), ⟨by decide, by decide, by decide +kernel⟩⟩
theorem L_Dv_236 : xlV "DviBytes" 236 m_Rg_pagePart.1 2 := ⟨Or.inl (xtb_at 993 (by decide +kernel) (by decide +kernel)), xtb_at 994 (by decide +kernel) (by decide +kernel), xtb_at 995 (by decide +kernel) (by decide +kernel), xtb_at 69 (by decide +kernel) (by decide +kernel), ⟨by decide, by decide, by decide +kernel⟩⟩
theorem L_La_141 : xlS "DviBytesLaw" 141 m_La_told.1 4 := ⟨Or.inl (xtb_at 997 (by decide +kernel) (by decide +kernel)), xtb_at 998 (by decide +kernel) (by decide +kernel), xtb_at 61 (by decide +kernel) (by decide +kernel), ⟨by decide, by decide, by decide +kernel⟩⟩
theorem L_La_62 : xlV "DviBytesLaw" 62 m_Dv_told.1 2 := ⟨Or.inl (xtb_at 1000 (by decide +kernel) (by decide +kernel)), xtb_at 1001 (by decide +kernel) (by decide +kernel), xtb_at 1002 (by decide +kernel) (by decide +kernel), xtb_at 62 (by decide +kernel) (by decide +kernel), ⟨by decide, by decide, by decide +kernel⟩⟩
theorem L_Dv_241 : xlV "DviBytes" 241 m_Rg_fontPart.1 2 := ⟨Or.inl (xtb_at 1005 (by decide +kernel) (by decide +kernel)), xtb_at 502 (by decide +kernel) (by decide +kernel), xtb_at 503 (by decide +kernel) (by decide +kernel), xtb_at 69 (by decide +kernel) (by decide +kernel), ⟨by decide, by decide, by decide +kernel⟩⟩
theorem L_La_68 : xlI "DviBytesLaw" 68 m_Mo_init.1 0 := ⟨Or.inl (xtb_at 1008 (by decide +kernel) (by decide +kernel)), xtb_at 1009 (by decide +kernel) (by decide +kernel), xtb_at 71 (by decide +kernel) (by decide +kernel), ⟨by decide, by decide, by decide +kernel⟩, rfl⟩
theorem L_La_77 : xlV "DviBytesLaw" 77 m_Mo_thrown.1 0 := ⟨Or.inl (xtb_at 1175 (by decide +kernel) (by decide +kernel)), xtb_at 1176 (by decide +kernel) (by decide +kernel), xtb_at 1177 (by decide +kernel) (by decide +kernel), xtb_at 71 (by decide +kernel) (by decide +kernel), ⟨by decide, by decide, by decide +kernel⟩⟩
theorem L_La_76 : xlV "DviBytesLaw" 76 m_Mo_font.1 7 := ⟨Or.inl (xtb_at 1179 (by decide +kernel) (by decide +kernel)), xtb_at 1180 (by decide +kernel) (by decide +kernel), xtb_at 1181 (by decide +kernel) (by decide +kernel), xtb_at 71 (by decide +kernel) (by decide +kernel), ⟨by decide, by decide, by decide +kernel⟩⟩
theorem L_Mo_105 : xlS "DviBytesModel" 105 m_Mo_isByte.1 1 := ⟨Or.inl (xtb_at 1183 (by decide +kernel) (by decide +kernel)), xtb_at 1184 (by decide +kernel) (by decide +kernel), xtb_at 71 (by decide +kernel) (by decide +kernel), ⟨by decide, by decide, by decide +kernel⟩⟩
theorem L_Mo_109 : xlS "DviBytesModel" 109 m_Mo_letter.1 3 := ⟨Or.inl (xtb_at 1186 (by decide +kernel) (by decide +kernel)), xtb_at 1187 (by decide +kernel) (by decide +kernel), xtb_at 71 (by decide +kernel) (by decide +kernel), ⟨by decide, by decide, by decide +kernel⟩⟩
theorem L_Mo_113 : xlV "DviBytesModel" 113 m_Mo_isTold.1 1 := ⟨Or.inl (xtb_at 1190 (by decide +kernel) (by decide +kernel)), xtb_at 1192 (by decide +kernel) (by decide +kernel), xtb_at 27 (by decide +kernel) (by decide +kernel), xtb_at 71 (by decide +kernel) (by decide +kernel), ⟨by decide, by decide, by decide +kernel⟩⟩
theorem L_La_83 : xlV "DviBytesLaw" 83 m_Mo_width.1 3 := ⟨Or.inl (xtb_at 1194 (by decide +kernel) (by decide +kernel)), xtb_at 1195 (by decide +kernel) (by decide +kernel), xtb_at 1196 (by decide +kernel) (by decide +kernel), xtb_at 71 (by decide +kernel) (by decide +kernel), ⟨by decide, by decide, by decide +kernel⟩⟩
theorem L_La_87 : xlV "DviBytesLaw" 87 m_Mo_count.1 2 := ⟨Or.inl (xtb_at 1198 (by decide +kernel) (by decide +kernel)), xtb_at 1199 (by decide +kernel) (by decide +kernel), xtb_at 1200 (by decide +kernel) (by decide +kernel), xtb_at 71 (by decide +kernel) (by decide +kernel), ⟨by decide, by decide, by decide +kernel⟩⟩
theorem L_La_90 : xlV "DviBytesLaw" 90 m_Mo_begin.1 2 := ⟨Or.inl (xtb_at 1202 (by decide +kernel) (by decide +kernel)), xtb_at 1203 (by decide +kernel) (by decide +kernel), xtb_at 1204 (by decide +kernel) (by decide +kernel), xtb_at 71 (by decide +kernel) (by decide +kernel), ⟨by decide, by decide, by decide +kernel⟩⟩
theorem L_La_94 : xlV "DviBytesLaw" 94 m_Mo_put.1 4 := ⟨Or.inl (xtb_at 1206 (by decide +kernel) (by decide +kernel)), xtb_at 1207 (by decide +kernel) (by decide +kernel), xtb_at 1208 (by decide +kernel) (by decide +kernel), xtb_at 71 (by decide +kernel) (by decide +kernel), ⟨by decide, by decide, by decide +kernel⟩⟩
theorem L_Mo_143 : xlS "DviBytesModel" 143 m_Mo_isPlace.1 1 := ⟨Or.inl (xtb_at 1210 (by decide +kernel) (by decide +kernel)), xtb_at 1211 (by decide +kernel) (by decide +kernel), xtb_at 71 (by decide +kernel) (by decide +kernel), ⟨by decide, by decide, by decide +kernel⟩⟩
theorem L_Mo_146 : xlV "DviBytesModel" 146 m_Mo_mark5.1 5 := ⟨Or.inl (xtb_at 1215 (by decide +kernel) (by decide +kernel)), xtb_at 1217 (by decide +kernel) (by decide +kernel), xtb_at 28 (by decide +kernel) (by decide +kernel), xtb_at 71 (by decide +kernel) (by decide +kernel), ⟨by decide, by decide, by decide +kernel⟩⟩
theorem L_La_97 : xlV "DviBytesLaw" 97 m_Mo_rule.1 4 := ⟨Or.inl (xtb_at 1219 (by decide +kernel) (by decide +kernel)), xtb_at 1220 (by decide +kernel) (by decide +kernel), xtb_at 1221 (by decide +kernel) (by decide +kernel), xtb_at 71 (by decide +kernel) (by decide +kernel), ⟨by decide, by decide, by decide +kernel⟩⟩
theorem L_La_101 : xlV "DviBytesLaw" 101 m_Mo_ship.1 0 := ⟨Or.inl (xtb_at 1223 (by decide +kernel) (by decide +kernel)), xtb_at 1224 (by decide +kernel) (by decide +kernel), xtb_at 1225 (by decide +kernel) (by decide +kernel), xtb_at 71 (by decide +kernel) (by decide +kernel), ⟨by decide, by decide, by decide +kernel⟩⟩
theorem L_Mo_189 : xlV "DviBytesModel" 189 m_Mo_findMoves.1 0 := ⟨Or.inl (xtb_at 1227 (by decide +kernel) (by decide +kernel)), xtb_at 1229 (by decide +kernel) (by decide +kernel), xtb_at 29 (by decide +kernel) (by decide +kernel), xtb_at 71 (by decide +kernel) (by decide +kernel), ⟨by decide, by decide, by decide +kernel⟩⟩
theorem L_Mo_158 : xlS "DviBytesModel" 158 m_Mo_isInt.1 1 := ⟨Or.inl (xtb_at 1231 (by decide +kernel) (by decide +kernel)), xtb_at 1232 (by decide +kernel) (by decide +kernel), xtb_at 71 (by decide +kernel) (by decide +kernel), ⟨by decide, by decide, by decide +kernel⟩⟩
theorem L_Mo_193 : xlV "DviBytesModel" 193 m_Mo_writePage.1 0 := ⟨Or.inl (xtb_at 1236 (by decide +kernel) (by decide +kernel)), xtb_at 1238 (by decide +kernel) (by decide +kernel), xtb_at 30 (by decide +kernel) (by decide +kernel), xtb_at 71 (by decide +kernel) (by decide +kernel), ⟨by decide, by decide, by decide +kernel⟩⟩
theorem L_Mo_179 : xlV "DviBytesModel" 179 m_Mo_open.1 0 := ⟨Or.inl (xtb_at 1240 (by decide +kernel) (by decide +kernel)), xtb_at 1242 (by decide +kernel) (by decide +kernel), xtb_at 31 (by decide +kernel) (by decide +kernel), xtb_at 71 (by decide +kernel) (by decide +kernel), ⟨by decide, by decide, by decide +kernel⟩⟩
theorem L_Mo_150 : xlV "DviBytesModel" 150 m_Mo_lay.1 1 := ⟨Or.inl (xtb_at 1244 (by decide +kernel) (by decide +kernel)), xtb_at 1246 (by decide +kernel) (by decide +kernel), xtb_at 32 (by decide +kernel) (by decide +kernel), xtb_at 71 (by decide +kernel) (by decide +kernel), ⟨by decide, by decide, by decide +kernel⟩⟩
theorem L_Mo_173 : xlV "DviBytesModel" 173 m_Mo_layNumber.1 2 := ⟨Or.inl (xtb_at 1249 (by decide +kernel) (by decide +kernel)), xtb_at 1251 (by decide +kernel) (by decide +kernel), xtb_at 33 (by decide +kernel) (by decide +kernel), xtb_at 71 (by decide +kernel) (by decide +kernel), ⟨by decide, by decide, by decide +kernel⟩⟩
theorem L_Mo_182 : xlV "DviBytesModel" 182 m_Mo_move.1 4 := ⟨Or.inl (xtb_at 1254 (by decide +kernel) (by decide +kernel)), xtb_at 1256 (by decide +kernel) (by decide +kernel), xtb_at 34 (by decide +kernel) (by decide +kernel), xtb_at 71 (by decide +kernel) (by decide +kernel), ⟨by decide, by decide, by decide +kernel⟩⟩
theorem L_Mo_165 : xlS "DviBytesModel" 165 m_Mo_bytesOf.1 1 := ⟨Or.inl (xtb_at 1258 (by decide +kernel) (by decide +kernel)), xtb_at 1259 (by decide +kernel) (by decide +kernel), xtb_at 71 (by decide +kernel) (by decide +kernel), ⟨by decide, by decide, by decide +kernel⟩⟩
theorem L_Mo_169 : xlV "DviBytesModel" 169 m_Mo_comes.1 3 := ⟨Or.inl (xtb_at 1264 (by decide +kernel) (by decide +kernel)), xtb_at 1266 (by decide +kernel) (by decide +kernel), xtb_at 35 (by decide +kernel) (by decide +kernel), xtb_at 71 (by decide +kernel) (by decide +kernel), ⟨by decide, by decide, by decide +kernel⟩⟩
theorem L_Mo_186 : xlV "DviBytesModel" 186 m_Mo_define.1 1 := ⟨Or.inl (xtb_at 1268 (by decide +kernel) (by decide +kernel)), xtb_at 1270 (by decide +kernel) (by decide +kernel), xtb_at 36 (by decide +kernel) (by decide +kernel), xtb_at 71 (by decide +kernel) (by decide +kernel), ⟨by decide, by decide, by decide +kernel⟩⟩
theorem L_La_104 : xlV "DviBytesLaw" 104 m_Mo_close.1 0 := ⟨Or.inl (xtb_at 1273 (by decide +kernel) (by decide +kernel)), xtb_at 1274 (by decide +kernel) (by decide +kernel), xtb_at 1275 (by decide +kernel) (by decide +kernel), xtb_at 71 (by decide +kernel) (by decide +kernel), ⟨by decide, by decide, by decide +kernel⟩⟩
theorem L_La_108 : xlV "DviBytesLaw" 108 m_Mo_size.1 0 := ⟨Or.inl (xtb_at 1277 (by decide +kernel) (by decide +kernel)), xtb_at 1278 (by decide +kernel) (by decide +kernel), xtb_at 1279 (by decide +kernel) (by decide +kernel), xtb_at 71 (by decide +kernel) (by decide +kernel), ⟨by decide, by decide, by decide +kernel⟩⟩
theorem L_La_112 : xlV "DviBytesLaw" 112 m_Mo_out.1 1 := ⟨Or.inl (xtb_at 1281 (by decide +kernel) (by decide +kernel)), xtb_at 1282 (by decide +kernel) (by decide +kernel), xtb_at 1283 (by decide +kernel) (by decide +kernel), xtb_at 71 (by decide +kernel) (by decide +kernel), ⟨by decide, by decide, by decide +kernel⟩⟩
theorem L_La_117 : xlV "DviBytesLaw" 117 m_Mo_feed.1 2 := ⟨Or.inl (xtb_at 1285 (by decide +kernel) (by decide +kernel)), xtb_at 1286 (by decide +kernel) (by decide +kernel), xtb_at 1287 (by decide +kernel) (by decide +kernel), xtb_at 71 (by decide +kernel) (by decide +kernel), ⟨by decide, by decide, by decide +kernel⟩⟩
theorem L_La_122 : xlV "DviBytesLaw" 122 m_Mo_keep.1 1 := ⟨Or.inl (xtb_at 1289 (by decide +kernel) (by decide +kernel)), xtb_at 1290 (by decide +kernel) (by decide +kernel), xtb_at 1291 (by decide +kernel) (by decide +kernel), xtb_at 71 (by decide +kernel) (by decide +kernel), ⟨by decide, by decide, by decide +kernel⟩⟩
theorem L_La_126 : xlV "DviBytesLaw" 126 m_Mo_copy.1 0 := ⟨Or.inl (xtb_at 1293 (by decide +kernel) (by decide +kernel)), xtb_at 1294 (by decide +kernel) (by decide +kernel), xtb_at 1295 (by decide +kernel) (by decide +kernel), xtb_at 71 (by decide +kernel) (by decide +kernel), ⟨by decide, by decide, by decide +kernel⟩⟩
theorem L_La_130 : xlV "DviBytesLaw" 130 m_Mo_read.1 0 := ⟨Or.inl (xtb_at 1297 (by decide +kernel) (by decide +kernel)), xtb_at 1298 (by decide +kernel) (by decide +kernel), xtb_at 1299 (by decide +kernel) (by decide +kernel), xtb_at 71 (by decide +kernel) (by decide +kernel), ⟨by decide, by decide, by decide +kernel⟩⟩
theorem L_Mo_341 : xlV "DviBytesModel" 341 m_Mo_forget.1 0 := ⟨Or.inl (xtb_at 1301 (by decide +kernel) (by decide +kernel)), xtb_at 1303 (by decide +kernel) (by decide +kernel), xtb_at 37 (by decide +kernel) (by decide +kernel), xtb_at 71 (by decide +kernel) (by decide +kernel), ⟨by decide, by decide, by decide +kernel⟩⟩
theorem L_Mo_344 : xlV "DviBytesModel" 344 m_Mo_goThrough.1 0 := ⟨Or.inl (xtb_at 1305 (by decide +kernel) (by decide +kernel)), xtb_at 1307 (by decide +kernel) (by decide +kernel), xtb_at 38 (by decide +kernel) (by decide +kernel), xtb_at 71 (by decide +kernel) (by decide +kernel), ⟨by decide, by decide, by decide +kernel⟩⟩
theorem L_Mo_326 : xlS "DviBytesModel" 326 m_Mo_fault.1 2 := ⟨Or.inl (xtb_at 1309 (by decide +kernel) (by decide +kernel)), xtb_at 1310 (by decide +kernel) (by decide +kernel), xtb_at 71 (by decide +kernel) (by decide +kernel), ⟨by decide, by decide, by decide +kernel⟩⟩
theorem L_Mo_200 : xlV "DviBytesModel" 200 m_Mo_byteAt.1 1 := ⟨Or.inl (xtb_at 1313 (by decide +kernel) (by decide +kernel)), xtb_at 1315 (by decide +kernel) (by decide +kernel), xtb_at 39 (by decide +kernel) (by decide +kernel), xtb_at 71 (by decide +kernel) (by decide +kernel), ⟨by decide, by decide, by decide +kernel⟩⟩
theorem L_Mo_329 : xlV "DviBytesModel" 329 m_Mo_length.1 0 := ⟨Or.inl (xtb_at 1317 (by decide +kernel) (by decide +kernel)), xtb_at 1319 (by decide +kernel) (by decide +kernel), xtb_at 40 (by decide +kernel) (by decide +kernel), xtb_at 71 (by decide +kernel) (by decide +kernel), ⟨by decide, by decide, by decide +kernel⟩⟩
theorem L_Mo_209 : xlS "DviBytesModel" 209 m_Mo_among.1 2 := ⟨Or.inl (xtb_at 1321 (by decide +kernel) (by decide +kernel)), xtb_at 1322 (by decide +kernel) (by decide +kernel), xtb_at 71 (by decide +kernel) (by decide +kernel), ⟨by decide, by decide, by decide +kernel⟩⟩
theorem L_Mo_217 : xlS "DviBytesModel" 217 m_Mo_moveBytes.1 1 := ⟨Or.inl (xtb_at 1326 (by decide +kernel) (by decide +kernel)), xtb_at 1327 (by decide +kernel) (by decide +kernel), xtb_at 71 (by decide +kernel) (by decide +kernel), ⟨by decide, by decide, by decide +kernel⟩⟩
theorem L_Mo_220 : xlV "DviBytesModel" 220 m_Mo_number.1 3 := ⟨Or.inl (xtb_at 1329 (by decide +kernel) (by decide +kernel)), xtb_at 1331 (by decide +kernel) (by decide +kernel), xtb_at 41 (by decide +kernel) (by decide +kernel), xtb_at 71 (by decide +kernel) (by decide +kernel), ⟨by decide, by decide, by decide +kernel⟩⟩
theorem L_Mo_332 : xlV "DviBytesModel" 332 m_Mo_mayStand.1 1 := ⟨Or.inl (xtb_at 1337 (by decide +kernel) (by decide +kernel)), xtb_at 1339 (by decide +kernel) (by decide +kernel), xtb_at 42 (by decide +kernel) (by decide +kernel), xtb_at 71 (by decide +kernel) (by decide +kernel), ⟨by decide, by decide, by decide +kernel⟩⟩
theorem L_Mo_235 : xlV "DviBytesModel" 235 m_Mo_isFontTold.1 1 := ⟨Or.inl (xtb_at 1341 (by decide +kernel) (by decide +kernel)), xtb_at 1343 (by decide +kernel) (by decide +kernel), xtb_at 43 (by decide +kernel) (by decide +kernel), xtb_at 71 (by decide +kernel) (by decide +kernel), ⟨by decide, by decide, by decide +kernel⟩⟩
theorem L_Mo_335 : xlV "DviBytesModel" 335 m_Mo_within.1 1 := ⟨Or.inl (xtb_at 1345 (by decide +kernel) (by decide +kernel)), xtb_at 1347 (by decide +kernel) (by decide +kernel), xtb_at 44 (by decide +kernel) (by decide +kernel), xtb_at 71 (by decide +kernel) (by decide +kernel), ⟨by decide, by decide, by decide +kernel⟩⟩
theorem L_Mo_295 : xlV "DviBytesModel" 295 m_Mo_setCharacter.1 2 := ⟨Or.inl (xtb_at 1349 (by decide +kernel) (by decide +kernel)), xtb_at 1351 (by decide +kernel) (by decide +kernel), xtb_at 45 (by decide +kernel) (by decide +kernel), xtb_at 71 (by decide +kernel) (by decide +kernel), ⟨by decide, by decide, by decide +kernel⟩⟩
theorem L_Mo_285 : xlV "DviBytesModel" 285 m_Mo_noteMark.1 3 := ⟨Or.inl (xtb_at 1353 (by decide +kernel) (by decide +kernel)), xtb_at 1355 (by decide +kernel) (by decide +kernel), xtb_at 46 (by decide +kernel) (by decide +kernel), xtb_at 71 (by decide +kernel) (by decide +kernel), ⟨by decide, by decide, by decide +kernel⟩⟩
theorem L_Mo_289 : xlV "DviBytesModel" 289 m_Mo_add.1 2 := ⟨Or.inl (xtb_at 1357 (by decide +kernel) (by decide +kernel)), xtb_at 1359 (by decide +kernel) (by decide +kernel), xtb_at 47 (by decide +kernel) (by decide +kernel), xtb_at 71 (by decide +kernel) (by decide +kernel), ⟨by decide, by decide, by decide +kernel⟩⟩
theorem L_Mo_299 : xlV "DviBytesModel" 299 m_Mo_setRule.1 1 := ⟨Or.inl (xtb_at 1361 (by decide +kernel) (by decide +kernel)), xtb_at 1363 (by decide +kernel) (by decide +kernel), xtb_at 48 (by decide +kernel) (by decide +kernel), xtb_at 71 (by decide +kernel) (by decide +kernel), ⟨by decide, by decide, by decide +kernel⟩⟩
theorem L_Mo_303 : xlV "DviBytesModel" 303 m_Mo_push.1 0 := ⟨Or.inl (xtb_at 1365 (by decide +kernel) (by decide +kernel)), xtb_at 1367 (by decide +kernel) (by decide +kernel), xtb_at 49 (by decide +kernel) (by decide +kernel), xtb_at 71 (by decide +kernel) (by decide +kernel), ⟨by decide, by decide, by decide +kernel⟩⟩
theorem L_Mo_307 : xlV "DviBytesModel" 307 m_Mo_pop.1 0 := ⟨Or.inl (xtb_at 1369 (by decide +kernel) (by decide +kernel)), xtb_at 1371 (by decide +kernel) (by decide +kernel), xtb_at 50 (by decide +kernel) (by decide +kernel), xtb_at 71 (by decide +kernel) (by decide +kernel), ⟨by decide, by decide, by decide +kernel⟩⟩
theorem L_Mo_310 : xlV "DviBytesModel" 310 m_Mo_moveBy.1 1 := ⟨Or.inl (xtb_at 1373 (by decide +kernel) (by decide +kernel)), xtb_at 1375 (by decide +kernel) (by decide +kernel), xtb_at 51 (by decide +kernel) (by decide +kernel), xtb_at 71 (by decide +kernel) (by decide +kernel), ⟨by decide, by decide, by decide +kernel⟩⟩
theorem L_Mo_313 : xlV "DviBytesModel" 313 m_Mo_take.1 1 := ⟨Or.inl (xtb_at 1377 (by decide +kernel) (by decide +kernel)), xtb_at 1379 (by decide +kernel) (by decide +kernel), xtb_at 52 (by decide +kernel) (by decide +kernel), xtb_at 71 (by decide +kernel) (by decide +kernel), ⟨by decide, by decide, by decide +kernel⟩⟩
theorem L_Mo_247 : xlV "DviBytesModel" 247 m_Mo_fontAt.1 1 := ⟨Or.inl (xtb_at 1381 (by decide +kernel) (by decide +kernel)), xtb_at 1383 (by decide +kernel) (by decide +kernel), xtb_at 53 (by decide +kernel) (by decide +kernel), xtb_at 71 (by decide +kernel) (by decide +kernel), ⟨by decide, by decide, by decide +kernel⟩⟩
theorem L_Mo_316 : xlV "DviBytesModel" 316 m_Mo_tell.1 0 := ⟨Or.inl (xtb_at 1385 (by decide +kernel) (by decide +kernel)), xtb_at 1387 (by decide +kernel) (by decide +kernel), xtb_at 54 (by decide +kernel) (by decide +kernel), xtb_at 71 (by decide +kernel) (by decide +kernel), ⟨by decide, by decide, by decide +kernel⟩⟩
theorem L_Mo_250 : xlV "DviBytesModel" 250 m_Mo_isSame.1 2 := ⟨Or.inl (xtb_at 1389 (by decide +kernel) (by decide +kernel)), xtb_at 1391 (by decide +kernel) (by decide +kernel), xtb_at 55 (by decide +kernel) (by decide +kernel), xtb_at 71 (by decide +kernel) (by decide +kernel), ⟨by decide, by decide, by decide +kernel⟩⟩
theorem L_Mo_244 : xlV "DviBytesModel" 244 m_Mo_nameSize.1 1 := ⟨Or.inl (xtb_at 1393 (by decide +kernel) (by decide +kernel)), xtb_at 1395 (by decide +kernel) (by decide +kernel), xtb_at 56 (by decide +kernel) (by decide +kernel), xtb_at 71 (by decide +kernel) (by decide +kernel), ⟨by decide, by decide, by decide +kernel⟩⟩
theorem L_Mo_241 : xlV "DviBytesModel" 241 m_Mo_behindNumber.1 1 := ⟨Or.inl (xtb_at 1397 (by decide +kernel) (by decide +kernel)), xtb_at 1399 (by decide +kernel) (by decide +kernel), xtb_at 57 (by decide +kernel) (by decide +kernel), xtb_at 71 (by decide +kernel) (by decide +kernel), ⟨by decide, by decide, by decide +kernel⟩⟩
theorem L_Mo_338 : xlV "DviBytesModel" 338 m_Mo_outside.1 1 := ⟨Or.inl (xtb_at 1401 (by decide +kernel) (by decide +kernel)), xtb_at 1403 (by decide +kernel) (by decide +kernel), xtb_at 58 (by decide +kernel) (by decide +kernel), xtb_at 71 (by decide +kernel) (by decide +kernel), ⟨by decide, by decide, by decide +kernel⟩⟩
theorem L_Mo_319 : xlV "DviBytesModel" 319 m_Mo_beginPage.1 0 := ⟨Or.inl (xtb_at 1405 (by decide +kernel) (by decide +kernel)), xtb_at 1407 (by decide +kernel) (by decide +kernel), xtb_at 59 (by decide +kernel) (by decide +kernel), xtb_at 71 (by decide +kernel) (by decide +kernel), ⟨by decide, by decide, by decide +kernel⟩⟩
theorem L_Mo_322 : xlV "DviBytesModel" 322 m_Mo_post.1 0 := ⟨Or.inl (xtb_at 1409 (by decide +kernel) (by decide +kernel)), xtb_at 1411 (by decide +kernel) (by decide +kernel), xtb_at 60 (by decide +kernel) (by decide +kernel), xtb_at 71 (by decide +kernel) (by decide +kernel), ⟨by decide, by decide, by decide +kernel⟩⟩
theorem L_La_133 : xlV "DviBytesLaw" 133 m_Mo_about.1 1 := ⟨Or.inl (xtb_at 1414 (by decide +kernel) (by decide +kernel)), xtb_at 1415 (by decide +kernel) (by decide +kernel), xtb_at 1416 (by decide +kernel) (by decide +kernel), xtb_at 71 (by decide +kernel) (by decide +kernel), ⟨by decide, by decide, by decide +kernel⟩⟩
theorem L_La_137 : xlV "DviBytesLaw" 137 m_Mo_mark2.1 2 := ⟨Or.inl (xtb_at 1418 (by decide +kernel) (by decide +kernel)), xtb_at 1419 (by decide +kernel) (by decide +kernel), xtb_at 1420 (by decide +kernel) (by decide +kernel), xtb_at 71 (by decide +kernel) (by decide +kernel), ⟨by decide, by decide, by decide +kernel⟩⟩
theorem L_La_140 : xlV "DviBytesLaw" 140 m_Mo_page.1 2 := ⟨Or.inl (xtb_at 1422 (by decide +kernel) (by decide +kernel)), xtb_at 1423 (by decide +kernel) (by decide +kernel), xtb_at 1424 (by decide +kernel) (by decide +kernel), xtb_at 71 (by decide +kernel) (by decide +kernel), ⟨by decide, by decide, by decide +kernel⟩⟩
theorem L_La_143 : xlV "DviBytesLaw" 143 m_Mo_told.1 2 := ⟨Or.inl (xtb_at 1426 (by decide +kernel) (by decide +kernel)), xtb_at 1427 (by decide +kernel) (by decide +kernel), xtb_at 1428 (by decide +kernel) (by decide +kernel), xtb_at 71 (by decide +kernel) (by decide +kernel), ⟨by decide, by decide, by decide +kernel⟩⟩
theorem K_Wi_9 : Cond.constant "DviBytes$Widths" 9 (65536) ∈ xtb := xtb_at 96 (by decide +kernel) (by decide +kernel)
theorem K_By_9 : Cond.constant "DviBytes$Bytes" 9 (70000) ∈ xtb := xtb_at 153 (by decide +kernel) (by decide +kernel)
theorem K_Dv_183 : Cond.constant "DviBytes" 183 (70000) ∈ xtb := xtb_at 386 (by decide +kernel) (by decide +kernel)
theorem K_Rd_179 : Cond.constant "DviBytes$Reader" 179 (65535) ∈ xtb := xtb_at 550 (by decide +kernel) (by decide +kernel)
theorem K_Dv_200 : Cond.constant "DviBytes" 200 (100000) ∈ xtb := xtb_at 564 (by decide +kernel) (by decide +kernel)
theorem K_Dv_244 : Cond.constant "DviBytes" 244 (-1000000000) ∈ xtb := xtb_at 740 (by decide +kernel) (by decide +kernel)
theorem K_Dv_245 : Cond.constant "DviBytes" 245 (1000000000) ∈ xtb := xtb_at 741 (by decide +kernel) (by decide +kernel)
theorem K_Wr_154 : Cond.constant "DviBytes$Writer" 154 (25400000) ∈ xtb := xtb_at 868 (by decide +kernel) (by decide +kernel)
theorem K_Wr_155 : Cond.constant "DviBytes$Writer" 155 (473628672) ∈ xtb := xtb_at 874 (by decide +kernel) (by decide +kernel)
theorem K_By_32 : Cond.constant "DviBytes$Bytes" 32 (32768) ∈ xtb := xtb_at 895 (by decide +kernel) (by decide +kernel)
theorem K_By_33 : Cond.constant "DviBytes$Bytes" 33 (-8388608) ∈ xtb := xtb_at 896 (by decide +kernel) (by decide +kernel)
theorem K_By_34 : Cond.constant "DviBytes$Bytes" 34 (8388608) ∈ xtb := xtb_at 897 (by decide +kernel) (by decide +kernel)
theorem K_Wr_150 : Cond.constant "DviBytes$Writer" 150 (60000) ∈ xtb := xtb_at 923 (by decide +kernel) (by decide +kernel)
theorem K_Mo_30 : Cond.constant "DviBytesModel" 30 (65536) ∈ xtb := xtb_at 1012 (by decide +kernel) (by decide +kernel)
theorem K_Mo_37 : Cond.constant "DviBytesModel" 37 (131072) ∈ xtb := xtb_at 1013 (by decide +kernel) (by decide +kernel)
theorem K_Mo_72 : Cond.constant "DviBytesModel" 72 (70000) ∈ xtb := xtb_at 1014 (by decide +kernel) (by decide +kernel)
theorem K_Mo_103 : Cond.constantLong "DviBytesModel" 103 (255) ∈ xtb := xtb_at 1189 (by decide +kernel) (by decide +kernel)
theorem K_Mo_141 : Cond.constant "DviBytesModel" 141 (-1000000000) ∈ xtb := xtb_at 1213 (by decide +kernel) (by decide +kernel)
theorem K_Mo_142 : Cond.constant "DviBytesModel" 142 (1000000000) ∈ xtb := xtb_at 1214 (by decide +kernel) (by decide +kernel)
theorem K_Mo_154 : Cond.constantLong "DviBytesModel" 154 (-2147483648) ∈ xtb := xtb_at 1234 (by decide +kernel) (by decide +kernel)
theorem K_Mo_156 : Cond.constantLong "DviBytesModel" 156 (2147483647) ∈ xtb := xtb_at 1235 (by decide +kernel) (by decide +kernel)
theorem K_Mo_177 : Cond.constant "DviBytesModel" 177 (25400000) ∈ xtb := xtb_at 1248 (by decide +kernel) (by decide +kernel)
theorem K_Mo_178 : Cond.constant "DviBytesModel" 178 (473628672) ∈ xtb := xtb_at 1253 (by decide +kernel) (by decide +kernel)
theorem K_Mo_162 : Cond.constant "DviBytesModel" 162 (32768) ∈ xtb := xtb_at 1261 (by decide +kernel) (by decide +kernel)
theorem K_Mo_163 : Cond.constant "DviBytesModel" 163 (-8388608) ∈ xtb := xtb_at 1262 (by decide +kernel) (by decide +kernel)
theorem K_Mo_164 : Cond.constant "DviBytesModel" 164 (8388608) ∈ xtb := xtb_at 1263 (by decide +kernel) (by decide +kernel)
theorem K_Mo_196 : Cond.constant "DviBytesModel" 196 (60000) ∈ xtb := xtb_at 1272 (by decide +kernel) (by decide +kernel)
theorem K_Mo_325 : Cond.constant "DviBytesModel" 325 (100000) ∈ xtb := xtb_at 1312 (by decide +kernel) (by decide +kernel)
theorem K_Mo_213 : Cond.constantLong "DviBytesModel" 213 (8) ∈ xtb := xtb_at 1324 (by decide +kernel) (by decide +kernel)
theorem K_Mo_215 : Cond.constantLong "DviBytesModel" 215 (44) ∈ xtb := xtb_at 1325 (by decide +kernel) (by decide +kernel)
theorem K_Mo_224 : Cond.constantLong "DviBytesModel" 224 (1000000) ∈ xtb := xtb_at 1333 (by decide +kernel) (by decide +kernel)
theorem K_Mo_226 : Cond.constantLong "DviBytesModel" 226 (14) ∈ xtb := xtb_at 1334 (by decide +kernel) (by decide +kernel)
theorem K_Mo_228 : Cond.constantLong "DviBytesModel" 228 (28) ∈ xtb := xtb_at 1335 (by decide +kernel) (by decide +kernel)
theorem K_Mo_230 : Cond.constantLong "DviBytesModel" 230 (5) ∈ xtb := xtb_at 1336 (by decide +kernel) (by decide +kernel)
theorem K_Mo_266 : Cond.constant "DviBytesModel" 266 (65535) ∈ xtb := xtb_at 1413 (by decide +kernel) (by decide +kernel)
theorem K_La_69 : Cond.constantLong "DviBytesLaw" 69 (4294967295) ∈ xtb := xtb_at 1430 (by decide +kernel) (by decide +kernel)
theorem M_Wr_116 : xwmax "DviBytes$Writer" 116 := ⟨xtb_at 837 (by decide +kernel) (by decide +kernel), xtb_at 540 (by decide +kernel) (by decide +kernel), xtb_at 78 (by decide +kernel) (by decide +kernel), xtb_at 541 (by decide +kernel) (by decide +kernel)⟩
theorem M_By_42 : xwmin "DviBytes$Bytes" 42 := ⟨xtb_at 407 (by decide +kernel) (by decide +kernel), xtb_at 408 (by decide +kernel) (by decide +kernel), xtb_at 78 (by decide +kernel) (by decide +kernel), xtb_at 409 (by decide +kernel) (by decide +kernel)⟩
theorem M_By_47 : xwcopy "DviBytes$Bytes" 47 := ⟨xtb_at 410 (by decide +kernel) (by decide +kernel), xtb_at 412 (by decide +kernel) (by decide +kernel), xtb_at 411 (by decide +kernel) (by decide +kernel), xtb_at 81 (by decide +kernel) (by decide +kernel)⟩
theorem M_Rd_171 : xwmax "DviBytes$Reader" 171 := ⟨xtb_at 539 (by decide +kernel) (by decide +kernel), xtb_at 540 (by decide +kernel) (by decide +kernel), xtb_at 78 (by decide +kernel) (by decide +kernel), xtb_at 541 (by decide +kernel) (by decide +kernel)⟩
end
section
abbrev mI : Type := Nat → Int32
abbrev mA : Type := Nat → Nat → Int32
abbrev mL : Type := Nat → Nat → Int64
def upA (A : mA) (k i : Nat) (x : Int32) : mA := fun j => if j = k then upd (A k) i x else A j
def upAf (A : mA) (k : Nat) (f : Nat → Int32) : mA := fun j => if j = k then f else A j
def upL (L : mL) (k i : Nat) (x : Int64) : mL := fun j => if j = k then vp_updL (L k) i x else L j
def frI (ks : List Nat) (I I' : mI) : Prop := ∀ k, k ∉ ks → I' k = I k
def frA (ks : List Nat) (A A' : mA) : Prop := ∀ k, k ∉ ks → A' k = A k
def frL (ks : List Nat) (L L' : mL) : Prop := ∀ k, k ∉ ks → L' k = L k
theorem frI_rf {ks : List Nat} {I : mI} : frI ks I I := fun _ _ => rfl
theorem frA_rf {ks : List Nat} {A : mA} : frA ks A A := fun _ _ => rfl
theorem frL_rf {ks : List Nat} {L : mL} : frL ks L L := fun _ _ => rfl
theorem frI_tr {ks k1 k2 : List Nat} {I J K : mI} (h1 : frI k1 I J) (h2 : frI k2 J K) (s1 : ∀ k ∈ k1, k ∈ ks) (s2 : ∀ k ∈ k2, k ∈ ks) : frI ks I K :=
  fun k hk => (h2 k fun h => hk (s2 k h)).trans (h1 k fun h => hk (s1 k h))
theorem frA_tr {ks k1 k2 : List Nat} {I J K : mA} (h1 : frA k1 I J) (h2 : frA k2 J K) (s1 : ∀ k ∈ k1, k ∈ ks) (s2 : ∀ k ∈ k2, k ∈ ks) : frA ks I K :=
  fun k hk => (h2 k fun h => hk (s2 k h)).trans (h1 k fun h => hk (s1 k h))
theorem frI_up {ks : List Nat} {I : mI} {k : Nat} {x : Int32} (h : k ∈ ks) : frI ks I (upd I k x) := fun j hj => if_neg fun (e : j = _) => hj (by rw [e]; exact h)
theorem frA_up {ks : List Nat} {A : mA} {k i : Nat} {x : Int32} (h : k ∈ ks) : frA ks A (upA A k i x) := fun j hj => if_neg fun (e : j = _) => hj (by rw [e]; exact h)
theorem frA_upf {ks : List Nat} {A : mA} {k : Nat} {f : Nat → Int32} (h : k ∈ ks) : frA ks A (upAf A k f) := fun j hj => if_neg fun (e : j = _) => hj (by rw [e]; exact h)
theorem frL_up {ks : List Nat} {A : mL} {k i : Nat} {x : Int64} (h : k ∈ ks) : frL ks A (upL A k i x) := fun j hj => if_neg fun (e : j = _) => hj (by rw [e]; exact h)
theorem upd_s {f : Nat → Int32} {k : Nat} {x : Int32} : upd f k x k = x := if_pos rfl
theorem upd_n {f : Nat → Int32} {k j : Nat} {x : Int32} (h : j ≠ k) : upd f k x j = f j := if_neg h
theorem upA_s {A : mA} {k i : Nat} {x : Int32} : upA A k i x k = upd (A k) i x := if_pos rfl
theorem upA_n {A : mA} {k i j : Nat} {x : Int32} (h : j ≠ k) : upA A k i x j = A j := if_neg h
theorem i_lt {x y : Int32} : x < y ↔ x.toInt < y.toInt := Int32.lt_iff_toInt_lt
theorem i_le {x y : Int32} : x ≤ y ↔ x.toInt ≤ y.toInt := Int32.le_iff_toInt_le
theorem i_eq {x y : Int32} : x = y ↔ x.toInt = y.toInt := Int32.toInt_inj.symm
theorem i_cl {x : Int32} : x.toNatClampNeg = x.toInt.toNat := rfl
theorem i_rg (x : Int32) : -2147483648 ≤ x.toInt ∧ x.toInt < 2147483648 := ⟨Int32.le_toInt x, Int32.toInt_lt x⟩
theorem i_in {i : Int32} {n : Nat} (h0 : 0 ≤ i.toInt) (h1 : i.toInt < (n : Int)) : vp_in i n := by
  intro q
  rcases q with q | q
  · have := i_lt.mp q
    have e : (0 : Int32).toInt = 0 := rfl
    omega
  · rw [i_cl] at q
    omega
theorem i_add {x y : Int32} (h0 : -2147483648 ≤ x.toInt + y.toInt) (h1 : x.toInt + y.toInt < 2147483648) : (x + y).toInt = x.toInt + y.toInt := by
  rw [Int32.toInt_add]
  exact Int.bmod_eq_of_le (by omega) (by omega)
theorem i_sub {x y : Int32} (h0 : -2147483648 ≤ x.toInt - y.toInt) (h1 : x.toInt - y.toInt < 2147483648) : (x - y).toInt = x.toInt - y.toInt := by
  rw [Int32.toInt_sub]
  exact Int.bmod_eq_of_le (by omega) (by omega)
theorem i_mul {x y : Int32} (h0 : -2147483648 ≤ x.toInt * y.toInt) (h1 : x.toInt * y.toInt < 2147483648) : (x * y).toInt = x.toInt * y.toInt := by
  rw [Int32.toInt_mul]
  exact Int.bmod_eq_of_le (by omega) (by omega)
theorem i_of {n : Nat} (h : n < 2147483648) : (Int32.ofNat n).toInt = n := by
  exact Int32.toInt_ofNat_of_lt (by omega)
def pic (I : mI) (A : mA) (L : mL) : List xC := [.inl (8, [.ref 1, .ref 3, .ref 10, .ref 11, .ref 13, .ref 22, .ref 24, .ref 31]),
  .inl (6, [.ref 2]),
  .inr (.int, 65536, .inl (A 2)),
  .inl (1, [.ref 4, .ref 5, .ref 6, .ref 7, .ref 8, .ref 9]),
  .inr (.int, 256, .inl (A 4)),
  .inr (.int, 256, .inl (A 5)),
  .inr (.int, 256, .inl (A 6)),
  .inr (.long, 256, .inr (.inl (L 7))),
  .inr (.long, 256, .inr (.inl (L 8))),
  .inr (.int, 256, .inl (A 9)),
  .inr (.int, 10, .inl (A 10)),
  .inl (4, [.ref 12, .int (I 1101)]),
  .inr (.int, 2500, .inl (A 12)),
  .inl (7, [.ref 3, .ref 1, .ref 14, .ref 16, .ref 18, .ref 20, .ref 21, .int (I 1307), .int (I 1308), .int (I 1309), .int (I 1310), .int (I 1311), .int (I 1312), .int (I 1313), .int (I 1314), .int (I 1315), .int (I 1316)]),
  .inl (0, [.ref 15, .int (I 1401)]),
  .inr (.byte, 70000, .inl (A 15)),
  .inl (5, [.int (I 1600), .ref 17, .int (I 1602), .int (I 1603), .int (I 1604)]),
  .inr (.int, 500, .inl (A 17)),
  .inl (5, [.int (I 1800), .ref 19, .int (I 1802), .int (I 1803), .int (I 1804)]),
  .inr (.int, 500, .inl (A 19)),
  .inr (.boolean, 256, .inl (A 20)),
  .inr (.int, 256, .inl (A 21)),
  .inl (0, [.ref 23, .int (I 2201)]),
  .inr (.byte, 70000, .inl (A 23)),
  .inl (3, [.ref 25, .ref 26, .ref 27, .ref 28, .ref 29, .int (I 2405), .int (I 2406), .int (I 2407), .int (I 2408), .int (I 2409), .int (I 2410), .int (I 2411)]),
  .inr (.int, 12000, .inl (A 25)),
  .inr (.int, 13000, .inl (A 26)),
  .inr (.int, 1280, .inl (A 27)),
  .inr (.int, 256, .inl (A 28)),
  .inl (0, [.ref 30, .int (I 2901)]),
  .inr (.byte, 70000, .inl (A 30)),
  .inl (2, [.ref 22, .ref 1, .ref 24, .ref 32, .ref 33, .int (I 3105), .int (I 3106), .int (I 3107), .int (I 3108), .int (I 3109), .int (I 3110), .int (I 3111), .int (I 3112), .int (I 3113)]),
  .inr (.int, 6, .inl (A 32)),
  .inr (.int, 600, .inl (A 33)),
  .inl (9, [.int (I 3400), .ref 35, .ref 36, .ref 37, .ref 38, .ref 39, .ref 40, .ref 41, .ref 42, .int (I 3409), .ref 43, .int (I 3411), .int (I 3412), .int (I 3413), .int (I 3414), .int (I 3415), .int (I 3416), .int (I 3417), .int (I 3418), .ref 44, .int (I 3420), .ref 45, .ref 46, .ref 47, .ref 48, .ref 49, .ref 50, .ref 51, .ref 52, .int (I 3429), .ref 53, .ref 54, .int (I 3432), .ref 55, .int (I 3434), .ref 56, .int (I 3436), .ref 57, .ref 58, .int (I 3439), .int (I 3440), .int (I 3441), .int (I 3442), .int (I 3443), .int (I 3444), .int (I 3445), .int (I 3446), .int (I 3447), .int (I 3448), .int (I 3449), .int (I 3450), .ref 59, .ref 60]),
  .inr (.boolean, 256, .inl (A 35)),
  .inr (.int, 256, .inl (A 36)),
  .inr (.int, 256, .inl (A 37)),
  .inr (.int, 256, .inl (A 38)),
  .inr (.int, 256, .inl (A 39)),
  .inr (.byte, 4096, .inl (A 40)),
  .inr (.int, 65536, .inl (A 41)),
  .inr (.int, 10, .inl (A 42)),
  .inr (.byte, 131072, .inl (A 43)),
  .inr (.int, 256, .inl (A 44)),
  .inr (.int, 500, .inl (A 45)),
  .inr (.int, 500, .inl (A 46)),
  .inr (.int, 500, .inl (A 47)),
  .inr (.int, 500, .inl (A 48)),
  .inr (.int, 500, .inl (A 49)),
  .inr (.int, 500, .inl (A 50)),
  .inr (.int, 500, .inl (A 51)),
  .inr (.int, 500, .inl (A 52)),
  .inr (.byte, 70000, .inl (A 53)),
  .inr (.byte, 70000, .inl (A 54)),
  .inr (.int, 12000, .inl (A 55)),
  .inr (.int, 13000, .inl (A 56)),
  .inr (.int, 256, .inl (A 57)),
  .inr (.int, 256, .inl (A 58)),
  .inr (.int, 606, .inl (A 59)),
  .inr (.int, 6, .inl (A 60)),
  .inr (.long, 1, .inr (.inl (L 61)))]
theorem pic_len {I : mI} {A : mA} {L : mL} : (pic I A L).length ≤ 1000000 := by show 62 ≤ 1000000; decide
theorem aset_2 {I : mI} {A : mA} {L : mL} {i : Nat} {x : Int32} : (pic I A L).set 2 (.inr (.int, 65536, .inl (upd (A 2) i x))) = pic I (upA A 2 i x) L := rfl
theorem aset_4 {I : mI} {A : mA} {L : mL} {i : Nat} {x : Int32} : (pic I A L).set 4 (.inr (.int, 256, .inl (upd (A 4) i x))) = pic I (upA A 4 i x) L := rfl
theorem aset_5 {I : mI} {A : mA} {L : mL} {i : Nat} {x : Int32} : (pic I A L).set 5 (.inr (.int, 256, .inl (upd (A 5) i x))) = pic I (upA A 5 i x) L := rfl
theorem aset_6 {I : mI} {A : mA} {L : mL} {i : Nat} {x : Int32} : (pic I A L).set 6 (.inr (.int, 256, .inl (upd (A 6) i x))) = pic I (upA A 6 i x) L := rfl
theorem aset_7 {I : mI} {A : mA} {L : mL} {i : Nat} {x : Int64} : (pic I A L).set 7 (.inr (.long, 256, .inr (.inl (vp_updL (L 7) i x)))) = pic I A (upL L 7 i x) := rfl
theorem aset_8 {I : mI} {A : mA} {L : mL} {i : Nat} {x : Int64} : (pic I A L).set 8 (.inr (.long, 256, .inr (.inl (vp_updL (L 8) i x)))) = pic I A (upL L 8 i x) := rfl
theorem aset_9 {I : mI} {A : mA} {L : mL} {i : Nat} {x : Int32} : (pic I A L).set 9 (.inr (.int, 256, .inl (upd (A 9) i x))) = pic I (upA A 9 i x) L := rfl
theorem aset_10 {I : mI} {A : mA} {L : mL} {i : Nat} {x : Int32} : (pic I A L).set 10 (.inr (.int, 10, .inl (upd (A 10) i x))) = pic I (upA A 10 i x) L := rfl
theorem pset_11_1 {I : mI} {A : mA} {L : mL} {x : Int32} : (pic I A L).set 11 (.inl (4, ([.ref 12, .int (I 1101)] : List Value).set 1 (.int x))) = pic (upd I 1101 x) A L := rfl
theorem aset_12 {I : mI} {A : mA} {L : mL} {i : Nat} {x : Int32} : (pic I A L).set 12 (.inr (.int, 2500, .inl (upd (A 12) i x))) = pic I (upA A 12 i x) L := rfl
theorem pset_13_7 {I : mI} {A : mA} {L : mL} {x : Int32} : (pic I A L).set 13 (.inl (7, ([.ref 3, .ref 1, .ref 14, .ref 16, .ref 18, .ref 20, .ref 21, .int (I 1307), .int (I 1308), .int (I 1309), .int (I 1310), .int (I 1311), .int (I 1312), .int (I 1313), .int (I 1314), .int (I 1315), .int (I 1316)] : List Value).set 7 (.int x))) = pic (upd I 1307 x) A L := rfl
theorem pset_13_8 {I : mI} {A : mA} {L : mL} {x : Int32} : (pic I A L).set 13 (.inl (7, ([.ref 3, .ref 1, .ref 14, .ref 16, .ref 18, .ref 20, .ref 21, .int (I 1307), .int (I 1308), .int (I 1309), .int (I 1310), .int (I 1311), .int (I 1312), .int (I 1313), .int (I 1314), .int (I 1315), .int (I 1316)] : List Value).set 8 (.int x))) = pic (upd I 1308 x) A L := rfl
theorem pset_13_9 {I : mI} {A : mA} {L : mL} {x : Int32} : (pic I A L).set 13 (.inl (7, ([.ref 3, .ref 1, .ref 14, .ref 16, .ref 18, .ref 20, .ref 21, .int (I 1307), .int (I 1308), .int (I 1309), .int (I 1310), .int (I 1311), .int (I 1312), .int (I 1313), .int (I 1314), .int (I 1315), .int (I 1316)] : List Value).set 9 (.int x))) = pic (upd I 1309 x) A L := rfl
theorem pset_13_10 {I : mI} {A : mA} {L : mL} {x : Int32} : (pic I A L).set 13 (.inl (7, ([.ref 3, .ref 1, .ref 14, .ref 16, .ref 18, .ref 20, .ref 21, .int (I 1307), .int (I 1308), .int (I 1309), .int (I 1310), .int (I 1311), .int (I 1312), .int (I 1313), .int (I 1314), .int (I 1315), .int (I 1316)] : List Value).set 10 (.int x))) = pic (upd I 1310 x) A L := rfl
theorem pset_13_11 {I : mI} {A : mA} {L : mL} {x : Int32} : (pic I A L).set 13 (.inl (7, ([.ref 3, .ref 1, .ref 14, .ref 16, .ref 18, .ref 20, .ref 21, .int (I 1307), .int (I 1308), .int (I 1309), .int (I 1310), .int (I 1311), .int (I 1312), .int (I 1313), .int (I 1314), .int (I 1315), .int (I 1316)] : List Value).set 11 (.int x))) = pic (upd I 1311 x) A L := rfl
theorem pset_13_12 {I : mI} {A : mA} {L : mL} {x : Int32} : (pic I A L).set 13 (.inl (7, ([.ref 3, .ref 1, .ref 14, .ref 16, .ref 18, .ref 20, .ref 21, .int (I 1307), .int (I 1308), .int (I 1309), .int (I 1310), .int (I 1311), .int (I 1312), .int (I 1313), .int (I 1314), .int (I 1315), .int (I 1316)] : List Value).set 12 (.int x))) = pic (upd I 1312 x) A L := rfl
theorem pset_13_13 {I : mI} {A : mA} {L : mL} {x : Int32} : (pic I A L).set 13 (.inl (7, ([.ref 3, .ref 1, .ref 14, .ref 16, .ref 18, .ref 20, .ref 21, .int (I 1307), .int (I 1308), .int (I 1309), .int (I 1310), .int (I 1311), .int (I 1312), .int (I 1313), .int (I 1314), .int (I 1315), .int (I 1316)] : List Value).set 13 (.int x))) = pic (upd I 1313 x) A L := rfl
theorem pset_13_14 {I : mI} {A : mA} {L : mL} {x : Int32} : (pic I A L).set 13 (.inl (7, ([.ref 3, .ref 1, .ref 14, .ref 16, .ref 18, .ref 20, .ref 21, .int (I 1307), .int (I 1308), .int (I 1309), .int (I 1310), .int (I 1311), .int (I 1312), .int (I 1313), .int (I 1314), .int (I 1315), .int (I 1316)] : List Value).set 14 (.int x))) = pic (upd I 1314 x) A L := rfl
theorem pset_13_15 {I : mI} {A : mA} {L : mL} {x : Int32} : (pic I A L).set 13 (.inl (7, ([.ref 3, .ref 1, .ref 14, .ref 16, .ref 18, .ref 20, .ref 21, .int (I 1307), .int (I 1308), .int (I 1309), .int (I 1310), .int (I 1311), .int (I 1312), .int (I 1313), .int (I 1314), .int (I 1315), .int (I 1316)] : List Value).set 15 (.int x))) = pic (upd I 1315 x) A L := rfl
theorem pset_13_16 {I : mI} {A : mA} {L : mL} {x : Int32} : (pic I A L).set 13 (.inl (7, ([.ref 3, .ref 1, .ref 14, .ref 16, .ref 18, .ref 20, .ref 21, .int (I 1307), .int (I 1308), .int (I 1309), .int (I 1310), .int (I 1311), .int (I 1312), .int (I 1313), .int (I 1314), .int (I 1315), .int (I 1316)] : List Value).set 16 (.int x))) = pic (upd I 1316 x) A L := rfl
theorem pset_14_1 {I : mI} {A : mA} {L : mL} {x : Int32} : (pic I A L).set 14 (.inl (0, ([.ref 15, .int (I 1401)] : List Value).set 1 (.int x))) = pic (upd I 1401 x) A L := rfl
theorem aset_15 {I : mI} {A : mA} {L : mL} {i : Nat} {x : Int32} : (pic I A L).set 15 (.inr (.byte, 70000, .inl (upd (A 15) i x))) = pic I (upA A 15 i x) L := rfl
theorem pset_16_0 {I : mI} {A : mA} {L : mL} {x : Int32} : (pic I A L).set 16 (.inl (5, ([.int (I 1600), .ref 17, .int (I 1602), .int (I 1603), .int (I 1604)] : List Value).set 0 (.int x))) = pic (upd I 1600 x) A L := rfl
theorem pset_16_2 {I : mI} {A : mA} {L : mL} {x : Int32} : (pic I A L).set 16 (.inl (5, ([.int (I 1600), .ref 17, .int (I 1602), .int (I 1603), .int (I 1604)] : List Value).set 2 (.int x))) = pic (upd I 1602 x) A L := rfl
theorem pset_16_3 {I : mI} {A : mA} {L : mL} {x : Int32} : (pic I A L).set 16 (.inl (5, ([.int (I 1600), .ref 17, .int (I 1602), .int (I 1603), .int (I 1604)] : List Value).set 3 (.int x))) = pic (upd I 1603 x) A L := rfl
theorem pset_16_4 {I : mI} {A : mA} {L : mL} {x : Int32} : (pic I A L).set 16 (.inl (5, ([.int (I 1600), .ref 17, .int (I 1602), .int (I 1603), .int (I 1604)] : List Value).set 4 (.int x))) = pic (upd I 1604 x) A L := rfl
theorem aset_17 {I : mI} {A : mA} {L : mL} {i : Nat} {x : Int32} : (pic I A L).set 17 (.inr (.int, 500, .inl (upd (A 17) i x))) = pic I (upA A 17 i x) L := rfl
theorem pset_18_0 {I : mI} {A : mA} {L : mL} {x : Int32} : (pic I A L).set 18 (.inl (5, ([.int (I 1800), .ref 19, .int (I 1802), .int (I 1803), .int (I 1804)] : List Value).set 0 (.int x))) = pic (upd I 1800 x) A L := rfl
theorem pset_18_2 {I : mI} {A : mA} {L : mL} {x : Int32} : (pic I A L).set 18 (.inl (5, ([.int (I 1800), .ref 19, .int (I 1802), .int (I 1803), .int (I 1804)] : List Value).set 2 (.int x))) = pic (upd I 1802 x) A L := rfl
theorem pset_18_3 {I : mI} {A : mA} {L : mL} {x : Int32} : (pic I A L).set 18 (.inl (5, ([.int (I 1800), .ref 19, .int (I 1802), .int (I 1803), .int (I 1804)] : List Value).set 3 (.int x))) = pic (upd I 1803 x) A L := rfl
theorem pset_18_4 {I : mI} {A : mA} {L : mL} {x : Int32} : (pic I A L).set 18 (.inl (5, ([.int (I 1800), .ref 19, .int (I 1802), .int (I 1803), .int (I 1804)] : List Value).set 4 (.int x))) = pic (upd I 1804 x) A L := rfl
theorem aset_19 {I : mI} {A : mA} {L : mL} {i : Nat} {x : Int32} : (pic I A L).set 19 (.inr (.int, 500, .inl (upd (A 19) i x))) = pic I (upA A 19 i x) L := rfl
theorem aset_20 {I : mI} {A : mA} {L : mL} {i : Nat} {x : Int32} : (pic I A L).set 20 (.inr (.boolean, 256, .inl (upd (A 20) i x))) = pic I (upA A 20 i x) L := rfl
theorem aset_21 {I : mI} {A : mA} {L : mL} {i : Nat} {x : Int32} : (pic I A L).set 21 (.inr (.int, 256, .inl (upd (A 21) i x))) = pic I (upA A 21 i x) L := rfl
theorem pset_22_1 {I : mI} {A : mA} {L : mL} {x : Int32} : (pic I A L).set 22 (.inl (0, ([.ref 23, .int (I 2201)] : List Value).set 1 (.int x))) = pic (upd I 2201 x) A L := rfl
theorem aset_23 {I : mI} {A : mA} {L : mL} {i : Nat} {x : Int32} : (pic I A L).set 23 (.inr (.byte, 70000, .inl (upd (A 23) i x))) = pic I (upA A 23 i x) L := rfl
theorem pset_24_5 {I : mI} {A : mA} {L : mL} {x : Int32} : (pic I A L).set 24 (.inl (3, ([.ref 25, .ref 26, .ref 27, .ref 28, .ref 29, .int (I 2405), .int (I 2406), .int (I 2407), .int (I 2408), .int (I 2409), .int (I 2410), .int (I 2411)] : List Value).set 5 (.int x))) = pic (upd I 2405 x) A L := rfl
theorem pset_24_6 {I : mI} {A : mA} {L : mL} {x : Int32} : (pic I A L).set 24 (.inl (3, ([.ref 25, .ref 26, .ref 27, .ref 28, .ref 29, .int (I 2405), .int (I 2406), .int (I 2407), .int (I 2408), .int (I 2409), .int (I 2410), .int (I 2411)] : List Value).set 6 (.int x))) = pic (upd I 2406 x) A L := rfl
theorem pset_24_7 {I : mI} {A : mA} {L : mL} {x : Int32} : (pic I A L).set 24 (.inl (3, ([.ref 25, .ref 26, .ref 27, .ref 28, .ref 29, .int (I 2405), .int (I 2406), .int (I 2407), .int (I 2408), .int (I 2409), .int (I 2410), .int (I 2411)] : List Value).set 7 (.int x))) = pic (upd I 2407 x) A L := rfl
theorem pset_24_8 {I : mI} {A : mA} {L : mL} {x : Int32} : (pic I A L).set 24 (.inl (3, ([.ref 25, .ref 26, .ref 27, .ref 28, .ref 29, .int (I 2405), .int (I 2406), .int (I 2407), .int (I 2408), .int (I 2409), .int (I 2410), .int (I 2411)] : List Value).set 8 (.int x))) = pic (upd I 2408 x) A L := rfl
theorem pset_24_9 {I : mI} {A : mA} {L : mL} {x : Int32} : (pic I A L).set 24 (.inl (3, ([.ref 25, .ref 26, .ref 27, .ref 28, .ref 29, .int (I 2405), .int (I 2406), .int (I 2407), .int (I 2408), .int (I 2409), .int (I 2410), .int (I 2411)] : List Value).set 9 (.int x))) = pic (upd I 2409 x) A L := rfl
theorem pset_24_10 {I : mI} {A : mA} {L : mL} {x : Int32} : (pic I A L).set 24 (.inl (3, ([.ref 25, .ref 26, .ref 27, .ref 28, .ref 29, .int (I 2405), .int (I 2406), .int (I 2407), .int (I 2408), .int (I 2409), .int (I 2410), .int (I 2411)] : List Value).set 10 (.int x))) = pic (upd I 2410 x) A L := rfl
theorem pset_24_11 {I : mI} {A : mA} {L : mL} {x : Int32} : (pic I A L).set 24 (.inl (3, ([.ref 25, .ref 26, .ref 27, .ref 28, .ref 29, .int (I 2405), .int (I 2406), .int (I 2407), .int (I 2408), .int (I 2409), .int (I 2410), .int (I 2411)] : List Value).set 11 (.int x))) = pic (upd I 2411 x) A L := rfl
theorem aset_25 {I : mI} {A : mA} {L : mL} {i : Nat} {x : Int32} : (pic I A L).set 25 (.inr (.int, 12000, .inl (upd (A 25) i x))) = pic I (upA A 25 i x) L := rfl
theorem aset_26 {I : mI} {A : mA} {L : mL} {i : Nat} {x : Int32} : (pic I A L).set 26 (.inr (.int, 13000, .inl (upd (A 26) i x))) = pic I (upA A 26 i x) L := rfl
theorem aset_27 {I : mI} {A : mA} {L : mL} {i : Nat} {x : Int32} : (pic I A L).set 27 (.inr (.int, 1280, .inl (upd (A 27) i x))) = pic I (upA A 27 i x) L := rfl
theorem aset_28 {I : mI} {A : mA} {L : mL} {i : Nat} {x : Int32} : (pic I A L).set 28 (.inr (.int, 256, .inl (upd (A 28) i x))) = pic I (upA A 28 i x) L := rfl
theorem pset_29_1 {I : mI} {A : mA} {L : mL} {x : Int32} : (pic I A L).set 29 (.inl (0, ([.ref 30, .int (I 2901)] : List Value).set 1 (.int x))) = pic (upd I 2901 x) A L := rfl
theorem aset_30 {I : mI} {A : mA} {L : mL} {i : Nat} {x : Int32} : (pic I A L).set 30 (.inr (.byte, 70000, .inl (upd (A 30) i x))) = pic I (upA A 30 i x) L := rfl
theorem pset_31_5 {I : mI} {A : mA} {L : mL} {x : Int32} : (pic I A L).set 31 (.inl (2, ([.ref 22, .ref 1, .ref 24, .ref 32, .ref 33, .int (I 3105), .int (I 3106), .int (I 3107), .int (I 3108), .int (I 3109), .int (I 3110), .int (I 3111), .int (I 3112), .int (I 3113)] : List Value).set 5 (.int x))) = pic (upd I 3105 x) A L := rfl
theorem pset_31_6 {I : mI} {A : mA} {L : mL} {x : Int32} : (pic I A L).set 31 (.inl (2, ([.ref 22, .ref 1, .ref 24, .ref 32, .ref 33, .int (I 3105), .int (I 3106), .int (I 3107), .int (I 3108), .int (I 3109), .int (I 3110), .int (I 3111), .int (I 3112), .int (I 3113)] : List Value).set 6 (.int x))) = pic (upd I 3106 x) A L := rfl
theorem pset_31_7 {I : mI} {A : mA} {L : mL} {x : Int32} : (pic I A L).set 31 (.inl (2, ([.ref 22, .ref 1, .ref 24, .ref 32, .ref 33, .int (I 3105), .int (I 3106), .int (I 3107), .int (I 3108), .int (I 3109), .int (I 3110), .int (I 3111), .int (I 3112), .int (I 3113)] : List Value).set 7 (.int x))) = pic (upd I 3107 x) A L := rfl
theorem pset_31_8 {I : mI} {A : mA} {L : mL} {x : Int32} : (pic I A L).set 31 (.inl (2, ([.ref 22, .ref 1, .ref 24, .ref 32, .ref 33, .int (I 3105), .int (I 3106), .int (I 3107), .int (I 3108), .int (I 3109), .int (I 3110), .int (I 3111), .int (I 3112), .int (I 3113)] : List Value).set 8 (.int x))) = pic (upd I 3108 x) A L := rfl
theorem pset_31_9 {I : mI} {A : mA} {L : mL} {x : Int32} : (pic I A L).set 31 (.inl (2, ([.ref 22, .ref 1, .ref 24, .ref 32, .ref 33, .int (I 3105), .int (I 3106), .int (I 3107), .int (I 3108), .int (I 3109), .int (I 3110), .int (I 3111), .int (I 3112), .int (I 3113)] : List Value).set 9 (.int x))) = pic (upd I 3109 x) A L := rfl
theorem pset_31_10 {I : mI} {A : mA} {L : mL} {x : Int32} : (pic I A L).set 31 (.inl (2, ([.ref 22, .ref 1, .ref 24, .ref 32, .ref 33, .int (I 3105), .int (I 3106), .int (I 3107), .int (I 3108), .int (I 3109), .int (I 3110), .int (I 3111), .int (I 3112), .int (I 3113)] : List Value).set 10 (.int x))) = pic (upd I 3110 x) A L := rfl
theorem pset_31_11 {I : mI} {A : mA} {L : mL} {x : Int32} : (pic I A L).set 31 (.inl (2, ([.ref 22, .ref 1, .ref 24, .ref 32, .ref 33, .int (I 3105), .int (I 3106), .int (I 3107), .int (I 3108), .int (I 3109), .int (I 3110), .int (I 3111), .int (I 3112), .int (I 3113)] : List Value).set 11 (.int x))) = pic (upd I 3111 x) A L := rfl
theorem pset_31_12 {I : mI} {A : mA} {L : mL} {x : Int32} : (pic I A L).set 31 (.inl (2, ([.ref 22, .ref 1, .ref 24, .ref 32, .ref 33, .int (I 3105), .int (I 3106), .int (I 3107), .int (I 3108), .int (I 3109), .int (I 3110), .int (I 3111), .int (I 3112), .int (I 3113)] : List Value).set 12 (.int x))) = pic (upd I 3112 x) A L := rfl
theorem pset_31_13 {I : mI} {A : mA} {L : mL} {x : Int32} : (pic I A L).set 31 (.inl (2, ([.ref 22, .ref 1, .ref 24, .ref 32, .ref 33, .int (I 3105), .int (I 3106), .int (I 3107), .int (I 3108), .int (I 3109), .int (I 3110), .int (I 3111), .int (I 3112), .int (I 3113)] : List Value).set 13 (.int x))) = pic (upd I 3113 x) A L := rfl
theorem aset_32 {I : mI} {A : mA} {L : mL} {i : Nat} {x : Int32} : (pic I A L).set 32 (.inr (.int, 6, .inl (upd (A 32) i x))) = pic I (upA A 32 i x) L := rfl
theorem aset_33 {I : mI} {A : mA} {L : mL} {i : Nat} {x : Int32} : (pic I A L).set 33 (.inr (.int, 600, .inl (upd (A 33) i x))) = pic I (upA A 33 i x) L := rfl
theorem pset_34_0 {I : mI} {A : mA} {L : mL} {x : Int32} : (pic I A L).set 34 (.inl (9, ([.int (I 3400), .ref 35, .ref 36, .ref 37, .ref 38, .ref 39, .ref 40, .ref 41, .ref 42, .int (I 3409), .ref 43, .int (I 3411), .int (I 3412), .int (I 3413), .int (I 3414), .int (I 3415), .int (I 3416), .int (I 3417), .int (I 3418), .ref 44, .int (I 3420), .ref 45, .ref 46, .ref 47, .ref 48, .ref 49, .ref 50, .ref 51, .ref 52, .int (I 3429), .ref 53, .ref 54, .int (I 3432), .ref 55, .int (I 3434), .ref 56, .int (I 3436), .ref 57, .ref 58, .int (I 3439), .int (I 3440), .int (I 3441), .int (I 3442), .int (I 3443), .int (I 3444), .int (I 3445), .int (I 3446), .int (I 3447), .int (I 3448), .int (I 3449), .int (I 3450), .ref 59, .ref 60] : List Value).set 0 (.int x))) = pic (upd I 3400 x) A L := rfl
theorem pset_34_9 {I : mI} {A : mA} {L : mL} {x : Int32} : (pic I A L).set 34 (.inl (9, ([.int (I 3400), .ref 35, .ref 36, .ref 37, .ref 38, .ref 39, .ref 40, .ref 41, .ref 42, .int (I 3409), .ref 43, .int (I 3411), .int (I 3412), .int (I 3413), .int (I 3414), .int (I 3415), .int (I 3416), .int (I 3417), .int (I 3418), .ref 44, .int (I 3420), .ref 45, .ref 46, .ref 47, .ref 48, .ref 49, .ref 50, .ref 51, .ref 52, .int (I 3429), .ref 53, .ref 54, .int (I 3432), .ref 55, .int (I 3434), .ref 56, .int (I 3436), .ref 57, .ref 58, .int (I 3439), .int (I 3440), .int (I 3441), .int (I 3442), .int (I 3443), .int (I 3444), .int (I 3445), .int (I 3446), .int (I 3447), .int (I 3448), .int (I 3449), .int (I 3450), .ref 59, .ref 60] : List Value).set 9 (.int x))) = pic (upd I 3409 x) A L := rfl
theorem pset_34_11 {I : mI} {A : mA} {L : mL} {x : Int32} : (pic I A L).set 34 (.inl (9, ([.int (I 3400), .ref 35, .ref 36, .ref 37, .ref 38, .ref 39, .ref 40, .ref 41, .ref 42, .int (I 3409), .ref 43, .int (I 3411), .int (I 3412), .int (I 3413), .int (I 3414), .int (I 3415), .int (I 3416), .int (I 3417), .int (I 3418), .ref 44, .int (I 3420), .ref 45, .ref 46, .ref 47, .ref 48, .ref 49, .ref 50, .ref 51, .ref 52, .int (I 3429), .ref 53, .ref 54, .int (I 3432), .ref 55, .int (I 3434), .ref 56, .int (I 3436), .ref 57, .ref 58, .int (I 3439), .int (I 3440), .int (I 3441), .int (I 3442), .int (I 3443), .int (I 3444), .int (I 3445), .int (I 3446), .int (I 3447), .int (I 3448), .int (I 3449), .int (I 3450), .ref 59, .ref 60] : List Value).set 11 (.int x))) = pic (upd I 3411 x) A L := rfl
theorem pset_34_12 {I : mI} {A : mA} {L : mL} {x : Int32} : (pic I A L).set 34 (.inl (9, ([.int (I 3400), .ref 35, .ref 36, .ref 37, .ref 38, .ref 39, .ref 40, .ref 41, .ref 42, .int (I 3409), .ref 43, .int (I 3411), .int (I 3412), .int (I 3413), .int (I 3414), .int (I 3415), .int (I 3416), .int (I 3417), .int (I 3418), .ref 44, .int (I 3420), .ref 45, .ref 46, .ref 47, .ref 48, .ref 49, .ref 50, .ref 51, .ref 52, .int (I 3429), .ref 53, .ref 54, .int (I 3432), .ref 55, .int (I 3434), .ref 56, .int (I 3436), .ref 57, .ref 58, .int (I 3439), .int (I 3440), .int (I 3441), .int (I 3442), .int (I 3443), .int (I 3444), .int (I 3445), .int (I 3446), .int (I 3447), .int (I 3448), .int (I 3449), .int (I 3450), .ref 59, .ref 60] : List Value).set 12 (.int x))) = pic (upd I 3412 x) A L := rfl
theorem pset_34_13 {I : mI} {A : mA} {L : mL} {x : Int32} : (pic I A L).set 34 (.inl (9, ([.int (I 3400), .ref 35, .ref 36, .ref 37, .ref 38, .ref 39, .ref 40, .ref 41, .ref 42, .int (I 3409), .ref 43, .int (I 3411), .int (I 3412), .int (I 3413), .int (I 3414), .int (I 3415), .int (I 3416), .int (I 3417), .int (I 3418), .ref 44, .int (I 3420), .ref 45, .ref 46, .ref 47, .ref 48, .ref 49, .ref 50, .ref 51, .ref 52, .int (I 3429), .ref 53, .ref 54, .int (I 3432), .ref 55, .int (I 3434), .ref 56, .int (I 3436), .ref 57, .ref 58, .int (I 3439), .int (I 3440), .int (I 3441), .int (I 3442), .int (I 3443), .int (I 3444), .int (I 3445), .int (I 3446), .int (I 3447), .int (I 3448), .int (I 3449), .int (I 3450), .ref 59, .ref 60] : List Value).set 13 (.int x))) = pic (upd I 3413 x) A L := rfl
theorem pset_34_14 {I : mI} {A : mA} {L : mL} {x : Int32} : (pic I A L).set 34 (.inl (9, ([.int (I 3400), .ref 35, .ref 36, .ref 37, .ref 38, .ref 39, .ref 40, .ref 41, .ref 42, .int (I 3409), .ref 43, .int (I 3411), .int (I 3412), .int (I 3413), .int (I 3414), .int (I 3415), .int (I 3416), .int (I 3417), .int (I 3418), .ref 44, .int (I 3420), .ref 45, .ref 46, .ref 47, .ref 48, .ref 49, .ref 50, .ref 51, .ref 52, .int (I 3429), .ref 53, .ref 54, .int (I 3432), .ref 55, .int (I 3434), .ref 56, .int (I 3436), .ref 57, .ref 58, .int (I 3439), .int (I 3440), .int (I 3441), .int (I 3442), .int (I 3443), .int (I 3444), .int (I 3445), .int (I 3446), .int (I 3447), .int (I 3448), .int (I 3449), .int (I 3450), .ref 59, .ref 60] : List Value).set 14 (.int x))) = pic (upd I 3414 x) A L := rfl
theorem pset_34_15 {I : mI} {A : mA} {L : mL} {x : Int32} : (pic I A L).set 34 (.inl (9, ([.int (I 3400), .ref 35, .ref 36, .ref 37, .ref 38, .ref 39, .ref 40, .ref 41, .ref 42, .int (I 3409), .ref 43, .int (I 3411), .int (I 3412), .int (I 3413), .int (I 3414), .int (I 3415), .int (I 3416), .int (I 3417), .int (I 3418), .ref 44, .int (I 3420), .ref 45, .ref 46, .ref 47, .ref 48, .ref 49, .ref 50, .ref 51, .ref 52, .int (I 3429), .ref 53, .ref 54, .int (I 3432), .ref 55, .int (I 3434), .ref 56, .int (I 3436), .ref 57, .ref 58, .int (I 3439), .int (I 3440), .int (I 3441), .int (I 3442), .int (I 3443), .int (I 3444), .int (I 3445), .int (I 3446), .int (I 3447), .int (I 3448), .int (I 3449), .int (I 3450), .ref 59, .ref 60] : List Value).set 15 (.int x))) = pic (upd I 3415 x) A L := rfl
theorem pset_34_16 {I : mI} {A : mA} {L : mL} {x : Int32} : (pic I A L).set 34 (.inl (9, ([.int (I 3400), .ref 35, .ref 36, .ref 37, .ref 38, .ref 39, .ref 40, .ref 41, .ref 42, .int (I 3409), .ref 43, .int (I 3411), .int (I 3412), .int (I 3413), .int (I 3414), .int (I 3415), .int (I 3416), .int (I 3417), .int (I 3418), .ref 44, .int (I 3420), .ref 45, .ref 46, .ref 47, .ref 48, .ref 49, .ref 50, .ref 51, .ref 52, .int (I 3429), .ref 53, .ref 54, .int (I 3432), .ref 55, .int (I 3434), .ref 56, .int (I 3436), .ref 57, .ref 58, .int (I 3439), .int (I 3440), .int (I 3441), .int (I 3442), .int (I 3443), .int (I 3444), .int (I 3445), .int (I 3446), .int (I 3447), .int (I 3448), .int (I 3449), .int (I 3450), .ref 59, .ref 60] : List Value).set 16 (.int x))) = pic (upd I 3416 x) A L := rfl
theorem pset_34_17 {I : mI} {A : mA} {L : mL} {x : Int32} : (pic I A L).set 34 (.inl (9, ([.int (I 3400), .ref 35, .ref 36, .ref 37, .ref 38, .ref 39, .ref 40, .ref 41, .ref 42, .int (I 3409), .ref 43, .int (I 3411), .int (I 3412), .int (I 3413), .int (I 3414), .int (I 3415), .int (I 3416), .int (I 3417), .int (I 3418), .ref 44, .int (I 3420), .ref 45, .ref 46, .ref 47, .ref 48, .ref 49, .ref 50, .ref 51, .ref 52, .int (I 3429), .ref 53, .ref 54, .int (I 3432), .ref 55, .int (I 3434), .ref 56, .int (I 3436), .ref 57, .ref 58, .int (I 3439), .int (I 3440), .int (I 3441), .int (I 3442), .int (I 3443), .int (I 3444), .int (I 3445), .int (I 3446), .int (I 3447), .int (I 3448), .int (I 3449), .int (I 3450), .ref 59, .ref 60] : List Value).set 17 (.int x))) = pic (upd I 3417 x) A L := rfl
theorem pset_34_18 {I : mI} {A : mA} {L : mL} {x : Int32} : (pic I A L).set 34 (.inl (9, ([.int (I 3400), .ref 35, .ref 36, .ref 37, .ref 38, .ref 39, .ref 40, .ref 41, .ref 42, .int (I 3409), .ref 43, .int (I 3411), .int (I 3412), .int (I 3413), .int (I 3414), .int (I 3415), .int (I 3416), .int (I 3417), .int (I 3418), .ref 44, .int (I 3420), .ref 45, .ref 46, .ref 47, .ref 48, .ref 49, .ref 50, .ref 51, .ref 52, .int (I 3429), .ref 53, .ref 54, .int (I 3432), .ref 55, .int (I 3434), .ref 56, .int (I 3436), .ref 57, .ref 58, .int (I 3439), .int (I 3440), .int (I 3441), .int (I 3442), .int (I 3443), .int (I 3444), .int (I 3445), .int (I 3446), .int (I 3447), .int (I 3448), .int (I 3449), .int (I 3450), .ref 59, .ref 60] : List Value).set 18 (.int x))) = pic (upd I 3418 x) A L := rfl
theorem pset_34_20 {I : mI} {A : mA} {L : mL} {x : Int32} : (pic I A L).set 34 (.inl (9, ([.int (I 3400), .ref 35, .ref 36, .ref 37, .ref 38, .ref 39, .ref 40, .ref 41, .ref 42, .int (I 3409), .ref 43, .int (I 3411), .int (I 3412), .int (I 3413), .int (I 3414), .int (I 3415), .int (I 3416), .int (I 3417), .int (I 3418), .ref 44, .int (I 3420), .ref 45, .ref 46, .ref 47, .ref 48, .ref 49, .ref 50, .ref 51, .ref 52, .int (I 3429), .ref 53, .ref 54, .int (I 3432), .ref 55, .int (I 3434), .ref 56, .int (I 3436), .ref 57, .ref 58, .int (I 3439), .int (I 3440), .int (I 3441), .int (I 3442), .int (I 3443), .int (I 3444), .int (I 3445), .int (I 3446), .int (I 3447), .int (I 3448), .int (I 3449), .int (I 3450), .ref 59, .ref 60] : List Value).set 20 (.int x))) = pic (upd I 3420 x) A L := rfl
theorem pset_34_29 {I : mI} {A : mA} {L : mL} {x : Int32} : (pic I A L).set 34 (.inl (9, ([.int (I 3400), .ref 35, .ref 36, .ref 37, .ref 38, .ref 39, .ref 40, .ref 41, .ref 42, .int (I 3409), .ref 43, .int (I 3411), .int (I 3412), .int (I 3413), .int (I 3414), .int (I 3415), .int (I 3416), .int (I 3417), .int (I 3418), .ref 44, .int (I 3420), .ref 45, .ref 46, .ref 47, .ref 48, .ref 49, .ref 50, .ref 51, .ref 52, .int (I 3429), .ref 53, .ref 54, .int (I 3432), .ref 55, .int (I 3434), .ref 56, .int (I 3436), .ref 57, .ref 58, .int (I 3439), .int (I 3440), .int (I 3441), .int (I 3442), .int (I 3443), .int (I 3444), .int (I 3445), .int (I 3446), .int (I 3447), .int (I 3448), .int (I 3449), .int (I 3450), .ref 59, .ref 60] : List Value).set 29 (.int x))) = pic (upd I 3429 x) A L := rfl
theorem pset_34_32 {I : mI} {A : mA} {L : mL} {x : Int32} : (pic I A L).set 34 (.inl (9, ([.int (I 3400), .ref 35, .ref 36, .ref 37, .ref 38, .ref 39, .ref 40, .ref 41, .ref 42, .int (I 3409), .ref 43, .int (I 3411), .int (I 3412), .int (I 3413), .int (I 3414), .int (I 3415), .int (I 3416), .int (I 3417), .int (I 3418), .ref 44, .int (I 3420), .ref 45, .ref 46, .ref 47, .ref 48, .ref 49, .ref 50, .ref 51, .ref 52, .int (I 3429), .ref 53, .ref 54, .int (I 3432), .ref 55, .int (I 3434), .ref 56, .int (I 3436), .ref 57, .ref 58, .int (I 3439), .int (I 3440), .int (I 3441), .int (I 3442), .int (I 3443), .int (I 3444), .int (I 3445), .int (I 3446), .int (I 3447), .int (I 3448), .int (I 3449), .int (I 3450), .ref 59, .ref 60] : List Value).set 32 (.int x))) = pic (upd I 3432 x) A L := rfl
theorem pset_34_34 {I : mI} {A : mA} {L : mL} {x : Int32} : (pic I A L).set 34 (.inl (9, ([.int (I 3400), .ref 35, .ref 36, .ref 37, .ref 38, .ref 39, .ref 40, .ref 41, .ref 42, .int (I 3409), .ref 43, .int (I 3411), .int (I 3412), .int (I 3413), .int (I 3414), .int (I 3415), .int (I 3416), .int (I 3417), .int (I 3418), .ref 44, .int (I 3420), .ref 45, .ref 46, .ref 47, .ref 48, .ref 49, .ref 50, .ref 51, .ref 52, .int (I 3429), .ref 53, .ref 54, .int (I 3432), .ref 55, .int (I 3434), .ref 56, .int (I 3436), .ref 57, .ref 58, .int (I 3439), .int (I 3440), .int (I 3441), .int (I 3442), .int (I 3443), .int (I 3444), .int (I 3445), .int (I 3446), .int (I 3447), .int (I 3448), .int (I 3449), .int (I 3450), .ref 59, .ref 60] : List Value).set 34 (.int x))) = pic (upd I 3434 x) A L := rfl
theorem pset_34_36 {I : mI} {A : mA} {L : mL} {x : Int32} : (pic I A L).set 34 (.inl (9, ([.int (I 3400), .ref 35, .ref 36, .ref 37, .ref 38, .ref 39, .ref 40, .ref 41, .ref 42, .int (I 3409), .ref 43, .int (I 3411), .int (I 3412), .int (I 3413), .int (I 3414), .int (I 3415), .int (I 3416), .int (I 3417), .int (I 3418), .ref 44, .int (I 3420), .ref 45, .ref 46, .ref 47, .ref 48, .ref 49, .ref 50, .ref 51, .ref 52, .int (I 3429), .ref 53, .ref 54, .int (I 3432), .ref 55, .int (I 3434), .ref 56, .int (I 3436), .ref 57, .ref 58, .int (I 3439), .int (I 3440), .int (I 3441), .int (I 3442), .int (I 3443), .int (I 3444), .int (I 3445), .int (I 3446), .int (I 3447), .int (I 3448), .int (I 3449), .int (I 3450), .ref 59, .ref 60] : List Value).set 36 (.int x))) = pic (upd I 3436 x) A L := rfl
theorem pset_34_39 {I : mI} {A : mA} {L : mL} {x : Int32} : (pic I A L).set 34 (.inl (9, ([.int (I 3400), .ref 35, .ref 36, .ref 37, .ref 38, .ref 39, .ref 40, .ref 41, .ref 42, .int (I 3409), .ref 43, .int (I 3411), .int (I 3412), .int (I 3413), .int (I 3414), .int (I 3415), .int (I 3416), .int (I 3417), .int (I 3418), .ref 44, .int (I 3420), .ref 45, .ref 46, .ref 47, .ref 48, .ref 49, .ref 50, .ref 51, .ref 52, .int (I 3429), .ref 53, .ref 54, .int (I 3432), .ref 55, .int (I 3434), .ref 56, .int (I 3436), .ref 57, .ref 58, .int (I 3439), .int (I 3440), .int (I 3441), .int (I 3442), .int (I 3443), .int (I 3444), .int (I 3445), .int (I 3446), .int (I 3447), .int (I 3448), .int (I 3449), .int (I 3450), .ref 59, .ref 60] : List Value).set 39 (.int x))) = pic (upd I 3439 x) A L := rfl
theorem pset_34_40 {I : mI} {A : mA} {L : mL} {x : Int32} : (pic I A L).set 34 (.inl (9, ([.int (I 3400), .ref 35, .ref 36, .ref 37, .ref 38, .ref 39, .ref 40, .ref 41, .ref 42, .int (I 3409), .ref 43, .int (I 3411), .int (I 3412), .int (I 3413), .int (I 3414), .int (I 3415), .int (I 3416), .int (I 3417), .int (I 3418), .ref 44, .int (I 3420), .ref 45, .ref 46, .ref 47, .ref 48, .ref 49, .ref 50, .ref 51, .ref 52, .int (I 3429), .ref 53, .ref 54, .int (I 3432), .ref 55, .int (I 3434), .ref 56, .int (I 3436), .ref 57, .ref 58, .int (I 3439), .int (I 3440), .int (I 3441), .int (I 3442), .int (I 3443), .int (I 3444), .int (I 3445), .int (I 3446), .int (I 3447), .int (I 3448), .int (I 3449), .int (I 3450), .ref 59, .ref 60] : List Value).set 40 (.int x))) = pic (upd I 3440 x) A L := rfl
theorem pset_34_41 {I : mI} {A : mA} {L : mL} {x : Int32} : (pic I A L).set 34 (.inl (9, ([.int (I 3400), .ref 35, .ref 36, .ref 37, .ref 38, .ref 39, .ref 40, .ref 41, .ref 42, .int (I 3409), .ref 43, .int (I 3411), .int (I 3412), .int (I 3413), .int (I 3414), .int (I 3415), .int (I 3416), .int (I 3417), .int (I 3418), .ref 44, .int (I 3420), .ref 45, .ref 46, .ref 47, .ref 48, .ref 49, .ref 50, .ref 51, .ref 52, .int (I 3429), .ref 53, .ref 54, .int (I 3432), .ref 55, .int (I 3434), .ref 56, .int (I 3436), .ref 57, .ref 58, .int (I 3439), .int (I 3440), .int (I 3441), .int (I 3442), .int (I 3443), .int (I 3444), .int (I 3445), .int (I 3446), .int (I 3447), .int (I 3448), .int (I 3449), .int (I 3450), .ref 59, .ref 60] : List Value).set 41 (.int x))) = pic (upd I 3441 x) A L := rfl
theorem pset_34_42 {I : mI} {A : mA} {L : mL} {x : Int32} : (pic I A L).set 34 (.inl (9, ([.int (I 3400), .ref 35, .ref 36, .ref 37, .ref 38, .ref 39, .ref 40, .ref 41, .ref 42, .int (I 3409), .ref 43, .int (I 3411), .int (I 3412), .int (I 3413), .int (I 3414), .int (I 3415), .int (I 3416), .int (I 3417), .int (I 3418), .ref 44, .int (I 3420), .ref 45, .ref 46, .ref 47, .ref 48, .ref 49, .ref 50, .ref 51, .ref 52, .int (I 3429), .ref 53, .ref 54, .int (I 3432), .ref 55, .int (I 3434), .ref 56, .int (I 3436), .ref 57, .ref 58, .int (I 3439), .int (I 3440), .int (I 3441), .int (I 3442), .int (I 3443), .int (I 3444), .int (I 3445), .int (I 3446), .int (I 3447), .int (I 3448), .int (I 3449), .int (I 3450), .ref 59, .ref 60] : List Value).set 42 (.int x))) = pic (upd I 3442 x) A L := rfl
theorem pset_34_43 {I : mI} {A : mA} {L : mL} {x : Int32} : (pic I A L).set 34 (.inl (9, ([.int (I 3400), .ref 35, .ref 36, .ref 37, .ref 38, .ref 39, .ref 40, .ref 41, .ref 42, .int (I 3409), .ref 43, .int (I 3411), .int (I 3412), .int (I 3413), .int (I 3414), .int (I 3415), .int (I 3416), .int (I 3417), .int (I 3418), .ref 44, .int (I 3420), .ref 45, .ref 46, .ref 47, .ref 48, .ref 49, .ref 50, .ref 51, .ref 52, .int (I 3429), .ref 53, .ref 54, .int (I 3432), .ref 55, .int (I 3434), .ref 56, .int (I 3436), .ref 57, .ref 58, .int (I 3439), .int (I 3440), .int (I 3441), .int (I 3442), .int (I 3443), .int (I 3444), .int (I 3445), .int (I 3446), .int (I 3447), .int (I 3448), .int (I 3449), .int (I 3450), .ref 59, .ref 60] : List Value).set 43 (.int x))) = pic (upd I 3443 x) A L := rfl
theorem pset_34_44 {I : mI} {A : mA} {L : mL} {x : Int32} : (pic I A L).set 34 (.inl (9, ([.int (I 3400), .ref 35, .ref 36, .ref 37, .ref 38, .ref 39, .ref 40, .ref 41, .ref 42, .int (I 3409), .ref 43, .int (I 3411), .int (I 3412), .int (I 3413), .int (I 3414), .int (I 3415), .int (I 3416), .int (I 3417), .int (I 3418), .ref 44, .int (I 3420), .ref 45, .ref 46, .ref 47, .ref 48, .ref 49, .ref 50, .ref 51, .ref 52, .int (I 3429), .ref 53, .ref 54, .int (I 3432), .ref 55, .int (I 3434), .ref 56, .int (I 3436), .ref 57, .ref 58, .int (I 3439), .int (I 3440), .int (I 3441), .int (I 3442), .int (I 3443), .int (I 3444), .int (I 3445), .int (I 3446), .int (I 3447), .int (I 3448), .int (I 3449), .int (I 3450), .ref 59, .ref 60] : List Value).set 44 (.int x))) = pic (upd I 3444 x) A L := rfl
theorem pset_34_45 {I : mI} {A : mA} {L : mL} {x : Int32} : (pic I A L).set 34 (.inl (9, ([.int (I 3400), .ref 35, .ref 36, .ref 37, .ref 38, .ref 39, .ref 40, .ref 41, .ref 42, .int (I 3409), .ref 43, .int (I 3411), .int (I 3412), .int (I 3413), .int (I 3414), .int (I 3415), .int (I 3416), .int (I 3417), .int (I 3418), .ref 44, .int (I 3420), .ref 45, .ref 46, .ref 47, .ref 48, .ref 49, .ref 50, .ref 51, .ref 52, .int (I 3429), .ref 53, .ref 54, .int (I 3432), .ref 55, .int (I 3434), .ref 56, .int (I 3436), .ref 57, .ref 58, .int (I 3439), .int (I 3440), .int (I 3441), .int (I 3442), .int (I 3443), .int (I 3444), .int (I 3445), .int (I 3446), .int (I 3447), .int (I 3448), .int (I 3449), .int (I 3450), .ref 59, .ref 60] : List Value).set 45 (.int x))) = pic (upd I 3445 x) A L := rfl
theorem pset_34_46 {I : mI} {A : mA} {L : mL} {x : Int32} : (pic I A L).set 34 (.inl (9, ([.int (I 3400), .ref 35, .ref 36, .ref 37, .ref 38, .ref 39, .ref 40, .ref 41, .ref 42, .int (I 3409), .ref 43, .int (I 3411), .int (I 3412), .int (I 3413), .int (I 3414), .int (I 3415), .int (I 3416), .int (I 3417), .int (I 3418), .ref 44, .int (I 3420), .ref 45, .ref 46, .ref 47, .ref 48, .ref 49, .ref 50, .ref 51, .ref 52, .int (I 3429), .ref 53, .ref 54, .int (I 3432), .ref 55, .int (I 3434), .ref 56, .int (I 3436), .ref 57, .ref 58, .int (I 3439), .int (I 3440), .int (I 3441), .int (I 3442), .int (I 3443), .int (I 3444), .int (I 3445), .int (I 3446), .int (I 3447), .int (I 3448), .int (I 3449), .int (I 3450), .ref 59, .ref 60] : List Value).set 46 (.int x))) = pic (upd I 3446 x) A L := rfl
theorem pset_34_47 {I : mI} {A : mA} {L : mL} {x : Int32} : (pic I A L).set 34 (.inl (9, ([.int (I 3400), .ref 35, .ref 36, .ref 37, .ref 38, .ref 39, .ref 40, .ref 41, .ref 42, .int (I 3409), .ref 43, .int (I 3411), .int (I 3412), .int (I 3413), .int (I 3414), .int (I 3415), .int (I 3416), .int (I 3417), .int (I 3418), .ref 44, .int (I 3420), .ref 45, .ref 46, .ref 47, .ref 48, .ref 49, .ref 50, .ref 51, .ref 52, .int (I 3429), .ref 53, .ref 54, .int (I 3432), .ref 55, .int (I 3434), .ref 56, .int (I 3436), .ref 57, .ref 58, .int (I 3439), .int (I 3440), .int (I 3441), .int (I 3442), .int (I 3443), .int (I 3444), .int (I 3445), .int (I 3446), .int (I 3447), .int (I 3448), .int (I 3449), .int (I 3450), .ref 59, .ref 60] : List Value).set 47 (.int x))) = pic (upd I 3447 x) A L := rfl
theorem pset_34_48 {I : mI} {A : mA} {L : mL} {x : Int32} : (pic I A L).set 34 (.inl (9, ([.int (I 3400), .ref 35, .ref 36, .ref 37, .ref 38, .ref 39, .ref 40, .ref 41, .ref 42, .int (I 3409), .ref 43, .int (I 3411), .int (I 3412), .int (I 3413), .int (I 3414), .int (I 3415), .int (I 3416), .int (I 3417), .int (I 3418), .ref 44, .int (I 3420), .ref 45, .ref 46, .ref 47, .ref 48, .ref 49, .ref 50, .ref 51, .ref 52, .int (I 3429), .ref 53, .ref 54, .int (I 3432), .ref 55, .int (I 3434), .ref 56, .int (I 3436), .ref 57, .ref 58, .int (I 3439), .int (I 3440), .int (I 3441), .int (I 3442), .int (I 3443), .int (I 3444), .int (I 3445), .int (I 3446), .int (I 3447), .int (I 3448), .int (I 3449), .int (I 3450), .ref 59, .ref 60] : List Value).set 48 (.int x))) = pic (upd I 3448 x) A L := rfl
theorem pset_34_49 {I : mI} {A : mA} {L : mL} {x : Int32} : (pic I A L).set 34 (.inl (9, ([.int (I 3400), .ref 35, .ref 36, .ref 37, .ref 38, .ref 39, .ref 40, .ref 41, .ref 42, .int (I 3409), .ref 43, .int (I 3411), .int (I 3412), .int (I 3413), .int (I 3414), .int (I 3415), .int (I 3416), .int (I 3417), .int (I 3418), .ref 44, .int (I 3420), .ref 45, .ref 46, .ref 47, .ref 48, .ref 49, .ref 50, .ref 51, .ref 52, .int (I 3429), .ref 53, .ref 54, .int (I 3432), .ref 55, .int (I 3434), .ref 56, .int (I 3436), .ref 57, .ref 58, .int (I 3439), .int (I 3440), .int (I 3441), .int (I 3442), .int (I 3443), .int (I 3444), .int (I 3445), .int (I 3446), .int (I 3447), .int (I 3448), .int (I 3449), .int (I 3450), .ref 59, .ref 60] : List Value).set 49 (.int x))) = pic (upd I 3449 x) A L := rfl
theorem pset_34_50 {I : mI} {A : mA} {L : mL} {x : Int32} : (pic I A L).set 34 (.inl (9, ([.int (I 3400), .ref 35, .ref 36, .ref 37, .ref 38, .ref 39, .ref 40, .ref 41, .ref 42, .int (I 3409), .ref 43, .int (I 3411), .int (I 3412), .int (I 3413), .int (I 3414), .int (I 3415), .int (I 3416), .int (I 3417), .int (I 3418), .ref 44, .int (I 3420), .ref 45, .ref 46, .ref 47, .ref 48, .ref 49, .ref 50, .ref 51, .ref 52, .int (I 3429), .ref 53, .ref 54, .int (I 3432), .ref 55, .int (I 3434), .ref 56, .int (I 3436), .ref 57, .ref 58, .int (I 3439), .int (I 3440), .int (I 3441), .int (I 3442), .int (I 3443), .int (I 3444), .int (I 3445), .int (I 3446), .int (I 3447), .int (I 3448), .int (I 3449), .int (I 3450), .ref 59, .ref 60] : List Value).set 50 (.int x))) = pic (upd I 3450 x) A L := rfl
theorem aset_35 {I : mI} {A : mA} {L : mL} {i : Nat} {x : Int32} : (pic I A L).set 35 (.inr (.boolean, 256, .inl (upd (A 35) i x))) = pic I (upA A 35 i x) L := rfl
theorem aset_36 {I : mI} {A : mA} {L : mL} {i : Nat} {x : Int32} : (pic I A L).set 36 (.inr (.int, 256, .inl (upd (A 36) i x))) = pic I (upA A 36 i x) L := rfl
theorem aset_37 {I : mI} {A : mA} {L : mL} {i : Nat} {x : Int32} : (pic I A L).set 37 (.inr (.int, 256, .inl (upd (A 37) i x))) = pic I (upA A 37 i x) L := rfl
theorem aset_38 {I : mI} {A : mA} {L : mL} {i : Nat} {x : Int32} : (pic I A L).set 38 (.inr (.int, 256, .inl (upd (A 38) i x))) = pic I (upA A 38 i x) L := rfl
theorem aset_39 {I : mI} {A : mA} {L : mL} {i : Nat} {x : Int32} : (pic I A L).set 39 (.inr (.int, 256, .inl (upd (A 39) i x))) = pic I (upA A 39 i x) L := rfl
theorem aset_40 {I : mI} {A : mA} {L : mL} {i : Nat} {x : Int32} : (pic I A L).set 40 (.inr (.byte, 4096, .inl (upd (A 40) i x))) = pic I (upA A 40 i x) L := rfl
theorem aset_41 {I : mI} {A : mA} {L : mL} {i : Nat} {x : Int32} : (pic I A L).set 41 (.inr (.int, 65536, .inl (upd (A 41) i x))) = pic I (upA A 41 i x) L := rfl
theorem aset_42 {I : mI} {A : mA} {L : mL} {i : Nat} {x : Int32} : (pic I A L).set 42 (.inr (.int, 10, .inl (upd (A 42) i x))) = pic I (upA A 42 i x) L := rfl
theorem aset_43 {I : mI} {A : mA} {L : mL} {i : Nat} {x : Int32} : (pic I A L).set 43 (.inr (.byte, 131072, .inl (upd (A 43) i x))) = pic I (upA A 43 i x) L := rfl
theorem aset_44 {I : mI} {A : mA} {L : mL} {i : Nat} {x : Int32} : (pic I A L).set 44 (.inr (.int, 256, .inl (upd (A 44) i x))) = pic I (upA A 44 i x) L := rfl
theorem aset_45 {I : mI} {A : mA} {L : mL} {i : Nat} {x : Int32} : (pic I A L).set 45 (.inr (.int, 500, .inl (upd (A 45) i x))) = pic I (upA A 45 i x) L := rfl
theorem aset_46 {I : mI} {A : mA} {L : mL} {i : Nat} {x : Int32} : (pic I A L).set 46 (.inr (.int, 500, .inl (upd (A 46) i x))) = pic I (upA A 46 i x) L := rfl
theorem aset_47 {I : mI} {A : mA} {L : mL} {i : Nat} {x : Int32} : (pic I A L).set 47 (.inr (.int, 500, .inl (upd (A 47) i x))) = pic I (upA A 47 i x) L := rfl
theorem aset_48 {I : mI} {A : mA} {L : mL} {i : Nat} {x : Int32} : (pic I A L).set 48 (.inr (.int, 500, .inl (upd (A 48) i x))) = pic I (upA A 48 i x) L := rfl
theorem aset_49 {I : mI} {A : mA} {L : mL} {i : Nat} {x : Int32} : (pic I A L).set 49 (.inr (.int, 500, .inl (upd (A 49) i x))) = pic I (upA A 49 i x) L := rfl
theorem aset_50 {I : mI} {A : mA} {L : mL} {i : Nat} {x : Int32} : (pic I A L).set 50 (.inr (.int, 500, .inl (upd (A 50) i x))) = pic I (upA A 50 i x) L := rfl
theorem aset_51 {I : mI} {A : mA} {L : mL} {i : Nat} {x : Int32} : (pic I A L).set 51 (.inr (.int, 500, .inl (upd (A 51) i x))) = pic I (upA A 51 i x) L := rfl
theorem aset_52 {I : mI} {A : mA} {L : mL} {i : Nat} {x : Int32} : (pic I A L).set 52 (.inr (.int, 500, .inl (upd (A 52) i x))) = pic I (upA A 52 i x) L := rfl
theorem aset_53 {I : mI} {A : mA} {L : mL} {i : Nat} {x : Int32} : (pic I A L).set 53 (.inr (.byte, 70000, .inl (upd (A 53) i x))) = pic I (upA A 53 i x) L := rfl
theorem aset_54 {I : mI} {A : mA} {L : mL} {i : Nat} {x : Int32} : (pic I A L).set 54 (.inr (.byte, 70000, .inl (upd (A 54) i x))) = pic I (upA A 54 i x) L := rfl
theorem aset_55 {I : mI} {A : mA} {L : mL} {i : Nat} {x : Int32} : (pic I A L).set 55 (.inr (.int, 12000, .inl (upd (A 55) i x))) = pic I (upA A 55 i x) L := rfl
theorem aset_56 {I : mI} {A : mA} {L : mL} {i : Nat} {x : Int32} : (pic I A L).set 56 (.inr (.int, 13000, .inl (upd (A 56) i x))) = pic I (upA A 56 i x) L := rfl
theorem aset_57 {I : mI} {A : mA} {L : mL} {i : Nat} {x : Int32} : (pic I A L).set 57 (.inr (.int, 256, .inl (upd (A 57) i x))) = pic I (upA A 57 i x) L := rfl
theorem aset_58 {I : mI} {A : mA} {L : mL} {i : Nat} {x : Int32} : (pic I A L).set 58 (.inr (.int, 256, .inl (upd (A 58) i x))) = pic I (upA A 58 i x) L := rfl
theorem aset_59 {I : mI} {A : mA} {L : mL} {i : Nat} {x : Int32} : (pic I A L).set 59 (.inr (.int, 606, .inl (upd (A 59) i x))) = pic I (upA A 59 i x) L := rfl
theorem aset_60 {I : mI} {A : mA} {L : mL} {i : Nat} {x : Int32} : (pic I A L).set 60 (.inr (.int, 6, .inl (upd (A 60) i x))) = pic I (upA A 60 i x) L := rfl
theorem aset_61 {I : mI} {A : mA} {L : mL} {i : Nat} {x : Int64} : (pic I A L).set 61 (.inr (.long, 1, .inr (.inl (vp_updL (L 61) i x)))) = pic I A (upL L 61 i x) := rfl
end
section
def b2 (p : Prop) [Decidable p] : Int32 := if p then 1 else 0
theorem b2_0 {p : Prop} [Decidable p] : b2 p = 0 ↔ ¬ p := by
  unfold b2
  by_cases h : p
  · rw [if_pos h]; exact ⟨fun q => absurd q (by decide), fun q => absurd h q⟩
  · rw [if_neg h]; exact ⟨fun _ => h, fun _ => rfl⟩
theorem b2_n {p : Prop} [Decidable p] : ¬ b2 p = 0 ↔ p := by
  rw [b2_0]; exact Decidable.not_not
theorem b2_t {p : Prop} [Decidable p] (h : p) : (1 : Int32) = b2 p := (if_pos h).symm
theorem b2_f {p : Prop} [Decidable p] (h : ¬ p) : (0 : Int32) = b2 p := (if_neg h).symm
def byt (x : Int32) : Int32 := x.toInt8.toInt32
def isB (u : Int32) (f : Nat → Int32) (B : List Int32) : Prop := u.toInt = B.length ∧ B.length ≤ 70000 ∧ ∀ (i : Nat) (b : Int32), B[i]? = some b → f i &&& 255 = b ∧ -128 ≤ f i ∧ f i ≤ 127
def gat (u : Int32) (f : Nat → Int32) (i : Int32) : Int32 := if 0 ≤ i ∧ i < u ∧ i < 70000 then f i.toNatClampNeg &&& 255 else 0
def gB (B : List Int32) (i : Int32) : Int32 := if i < 0 then 0 else B.getD i.toNatClampNeg 0
theorem z0 : (0 : Int32).toInt = 0 := rfl
theorem z7 : (70000 : Int32).toInt = 70000 := rfl
theorem gat_B {u : Int32} {f : Nat → Int32} {B : List Int32} (h : isB u f B) (i : Int32) : gat u f i = gB B i := by
  obtain ⟨h1, h2, h3⟩ := h
  unfold gat gB
  simp only [i_le, i_lt, z0, z7, i_cl]
  by_cases hi : i.toInt < 0
  · rw [if_neg (by omega), if_pos hi]
  · rw [if_neg hi]
    by_cases hu : i.toInt < u.toInt
    · rw [if_pos (by omega)]
      have hl : i.toInt.toNat < B.length := by omega
      rw [List.getD_eq_getElem?_getD, List.getElem?_eq_getElem hl]
      exact (h3 _ _ (List.getElem?_eq_getElem hl)).1
    · rw [if_neg (by omega), List.getD_eq_getElem?_getD, List.getElem?_eq_none (by omega)]
      rfl
theorem m255_hi : ∀ j : Fin 32, 8 ≤ j.val → (255#32).getLsbD j.val = false := by decide
theorem byt_m (x : Int32) : byt x &&& 255 = x &&& 255 := by
  apply Int32.toBitVec_inj.mp
  unfold byt
  ext i hi
  simp
  by_cases h8 : i < 8
  · simp [BitVec.getElem_signExtend, h8, hi]
  · have k2 : (255#32)[i] = false := by
      rw [← BitVec.getLsbD_eq_getElem hi]
      exact m255_hi ⟨i, hi⟩ (by show 8 ≤ i; omega)
    rw [k2, Bool.and_false, Bool.and_false]
theorem byt_r (x : Int32) : -128 ≤ byt x ∧ byt x ≤ 127 := by
  unfold byt
  have h1 := Int8.le_toInt x.toInt8
  have h2 := Int8.toInt_lt x.toInt8
  constructor
  · rw [i_le, Int8.toInt_toInt32]; exact h1
  · rw [i_le, Int8.toInt_toInt32]
    have : (127 : Int32).toInt = 127 := rfl
    omega
theorem nar_b (x : Int32) : vp_nar .byte (byt x) = byt x := by
  unfold byt
  show ((x.toInt8.toInt32).toInt8).toInt32 = x.toInt8.toInt32
  simp
def adB (u : Int32) (f : Nat → Int32) (x : Int32) : Int32 × (Nat → Int32) := if 0 ≤ u ∧ u < 70000 then (u + 1, upd f u.toNatClampNeg (byt x)) else (u, f)
theorem adB_B {u : Int32} {f : Nat → Int32} {B : List Int32} (h : isB u f B) (x : Int32) : isB (adB u f x).1 (adB u f x).2 ((B ++ [x &&& 255]).take 70000) := by
  obtain ⟨h1, h2, h3⟩ := h
  unfold adB
  by_cases hu : B.length < 70000
  · rw [if_pos (by rw [i_le, i_lt, z0, z7]; omega)]
    have e1 : (B ++ [x &&& 255]).take 70000 = B ++ [x &&& 255] := List.take_of_length_le (by simp; omega)
    rw [e1]
    refine ⟨?_, by simp; omega, fun i b hb => ?_⟩
    · show (u + 1).toInt = _
      have e2 : (1 : Int32).toInt = 1 := rfl
      rw [i_add (by omega) (by omega), e2, h1]
      simp
    · show upd f u.toNatClampNeg (byt x) i &&& 255 = b ∧ _
      by_cases hi : i = B.length
      · have e3 : u.toNatClampNeg = i := by rw [i_cl, h1, hi]; omega
        rw [e3]
        simp only [upd_s]
        rw [hi] at hb
        simp at hb
        refine ⟨by rw [byt_m, hb], byt_r x⟩
      · have hlt : i < B.length := by
          have := (List.getElem?_eq_some_iff.mp hb).1
          simp at this
          omega
        have e3 : i ≠ u.toNatClampNeg := by rw [i_cl, h1]; omega
        simp only [upd_n e3]
        rw [List.getElem?_append_left hlt] at hb
        exact h3 i b hb
  · rw [if_neg (by rw [i_le, i_lt, z0, z7]; omega)]
    have e1 : (B ++ [x &&& 255]).take 70000 = B := by
      rw [List.take_append_of_le_length (by omega), List.take_of_length_le (by omega)]
    rw [e1]
    exact ⟨h1, h2, h3⟩
end
