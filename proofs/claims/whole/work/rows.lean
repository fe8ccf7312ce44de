section
def lw_okq (q : MethodName × Nat) : Prop := (q.1.cls ≠ "java/lang/invoke/MethodHandle" ∧ q.1.cls ≠ "java/lang/invoke/VarHandle") ∧ Cond.instantiable q.1.cls q.2 ∈ tables_1 ∧ Cond.privateMethod q.1 ∈ tables_1 ∧ Cond.instanceMethod q.1 ∈ tables_1
theorem lw_p0 : lw_okq (⟨"DviBytes$Reader", "bytesBehind", "()I"⟩, 14) := ⟨⟨by decide +kernel, by decide +kernel⟩, List.mem_of_getElem? (i := 236) (by decide +kernel), List.mem_of_getElem? (i := 380) (by decide +kernel), List.mem_of_getElem? (i := 381) (by decide +kernel)⟩
theorem lw_p1 : lw_okq (⟨"DviBytes$Reader", "fixedBytes", "()I"⟩, 14) := ⟨⟨by decide +kernel, by decide +kernel⟩, List.mem_of_getElem? (i := 236) (by decide +kernel), List.mem_of_getElem? (i := 384) (by decide +kernel), List.mem_of_getElem? (i := 385) (by decide +kernel)⟩
theorem lw_p2 : lw_okq (⟨"DviBytes$Reader", "isDefinition", "()Z"⟩, 14) := ⟨⟨by decide +kernel, by decide +kernel⟩, List.mem_of_getElem? (i := 236) (by decide +kernel), List.mem_of_getElem? (i := 388) (by decide +kernel), List.mem_of_getElem? (i := 389) (by decide +kernel)⟩
theorem lw_p3 : lw_okq (⟨"DviBytes$Reader", "bytesOfText", "(I)I"⟩, 14) := ⟨⟨by decide +kernel, by decide +kernel⟩, List.mem_of_getElem? (i := 236) (by decide +kernel), List.mem_of_getElem? (i := 392) (by decide +kernel), List.mem_of_getElem? (i := 393) (by decide +kernel)⟩
theorem lw_p4 : lw_okq (⟨"DviBytes$Reader", "canStand", "()Z"⟩, 14) := ⟨⟨by decide +kernel, by decide +kernel⟩, List.mem_of_getElem? (i := 236) (by decide +kernel), List.mem_of_getElem? (i := 401) (by decide +kernel), List.mem_of_getElem? (i := 402) (by decide +kernel)⟩
theorem lw_p5 : lw_okq (⟨"DviBytes$Reader", "obey", "()I"⟩, 14) := ⟨⟨by decide +kernel, by decide +kernel⟩, List.mem_of_getElem? (i := 236) (by decide +kernel), List.mem_of_getElem? (i := 405) (by decide +kernel), List.mem_of_getElem? (i := 406) (by decide +kernel)⟩
theorem lw_p6 : lw_okq (⟨"DviBytes$Reader", "obeyMove", "()I"⟩, 14) := ⟨⟨by decide +kernel, by decide +kernel⟩, List.mem_of_getElem? (i := 236) (by decide +kernel), List.mem_of_getElem? (i := 409) (by decide +kernel), List.mem_of_getElem? (i := 410) (by decide +kernel)⟩
theorem lw_p7 : lw_okq (⟨"DviBytes$Reader", "grow", "(II)Z"⟩, 14) := ⟨⟨by decide +kernel, by decide +kernel⟩, List.mem_of_getElem? (i := 236) (by decide +kernel), List.mem_of_getElem? (i := 418) (by decide +kernel), List.mem_of_getElem? (i := 419) (by decide +kernel)⟩
theorem lw_p8 : lw_okq (⟨"DviBytes$Reader", "obeyFont", "()I"⟩, 14) := ⟨⟨by decide +kernel, by decide +kernel⟩, List.mem_of_getElem? (i := 236) (by decide +kernel), List.mem_of_getElem? (i := 425) (by decide +kernel), List.mem_of_getElem? (i := 426) (by decide +kernel)⟩
theorem lw_p9 : lw_okq (⟨"DviBytes$Reader", "obeyDefinition", "()I"⟩, 14) := ⟨⟨by decide +kernel, by decide +kernel⟩, List.mem_of_getElem? (i := 236) (by decide +kernel), List.mem_of_getElem? (i := 433) (by decide +kernel), List.mem_of_getElem? (i := 434) (by decide +kernel)⟩
theorem lw_p10 : lw_okq (⟨"DviBytes$Reader", "obeyRule", "()I"⟩, 14) := ⟨⟨by decide +kernel, by decide +kernel⟩, List.mem_of_getElem? (i := 236) (by decide +kernel), List.mem_of_getElem? (i := 459) (by decide +kernel), List.mem_of_getElem? (i := 460) (by decide +kernel)⟩
theorem lw_p11 : lw_okq (⟨"DviBytes$Reader", "obeyBegin", "()I"⟩, 14) := ⟨⟨by decide +kernel, by decide +kernel⟩, List.mem_of_getElem? (i := 236) (by decide +kernel), List.mem_of_getElem? (i := 467) (by decide +kernel), List.mem_of_getElem? (i := 468) (by decide +kernel)⟩
theorem lw_p12 : lw_okq (⟨"DviBytes$Reader", "obeyPush", "()I"⟩, 14) := ⟨⟨by decide +kernel, by decide +kernel⟩, List.mem_of_getElem? (i := 236) (by decide +kernel), List.mem_of_getElem? (i := 475) (by decide +kernel), List.mem_of_getElem? (i := 476) (by decide +kernel)⟩
theorem lw_p13 : lw_okq (⟨"DviBytes$Reader", "obeyPop", "()I"⟩, 14) := ⟨⟨by decide +kernel, by decide +kernel⟩, List.mem_of_getElem? (i := 236) (by decide +kernel), List.mem_of_getElem? (i := 482) (by decide +kernel), List.mem_of_getElem? (i := 483) (by decide +kernel)⟩
theorem lw_p14 : lw_okq (⟨"DviBytes$Reader", "obeyLast", "()I"⟩, 14) := ⟨⟨by decide +kernel, by decide +kernel⟩, List.mem_of_getElem? (i := 236) (by decide +kernel), List.mem_of_getElem? (i := 486) (by decide +kernel), List.mem_of_getElem? (i := 487) (by decide +kernel)⟩
theorem lw_p15 : lw_okq (⟨"DviBytes$Reader", "obeyCharacter", "()I"⟩, 14) := ⟨⟨by decide +kernel, by decide +kernel⟩, List.mem_of_getElem? (i := 236) (by decide +kernel), List.mem_of_getElem? (i := 491) (by decide +kernel), List.mem_of_getElem? (i := 492) (by decide +kernel)⟩
def lw_privs_1 : List (MethodName × Nat) := [(⟨"DviBytes$Reader", "bytesBehind", "()I"⟩, 14), (⟨"DviBytes$Reader", "fixedBytes", "()I"⟩, 14), (⟨"DviBytes$Reader", "isDefinition", "()Z"⟩, 14), (⟨"DviBytes$Reader", "bytesOfText", "(I)I"⟩, 14), (⟨"DviBytes$Reader", "canStand", "()Z"⟩, 14), (⟨"DviBytes$Reader", "obey", "()I"⟩, 14), (⟨"DviBytes$Reader", "obeyMove", "()I"⟩, 14), (⟨"DviBytes$Reader", "grow", "(II)Z"⟩, 14), (⟨"DviBytes$Reader", "obeyFont", "()I"⟩, 14), (⟨"DviBytes$Reader", "obeyDefinition", "()I"⟩, 14), (⟨"DviBytes$Reader", "obeyRule", "()I"⟩, 14), (⟨"DviBytes$Reader", "obeyBegin", "()I"⟩, 14), (⟨"DviBytes$Reader", "obeyPush", "()I"⟩, 14), (⟨"DviBytes$Reader", "obeyPop", "()I"⟩, 14), (⟨"DviBytes$Reader", "obeyLast", "()I"⟩, 14), (⟨"DviBytes$Reader", "obeyCharacter", "()I"⟩, 14)]
theorem lw_r1 : ∀ q ∈ lw_privs_1, lw_okq q := List.forall_mem_cons.mpr ⟨lw_p0, List.forall_mem_cons.mpr ⟨lw_p1, List.forall_mem_cons.mpr ⟨lw_p2, List.forall_mem_cons.mpr ⟨lw_p3, List.forall_mem_cons.mpr ⟨lw_p4, List.forall_mem_cons.mpr ⟨lw_p5, List.forall_mem_cons.mpr ⟨lw_p6, List.forall_mem_cons.mpr ⟨lw_p7, List.forall_mem_cons.mpr ⟨lw_p8, List.forall_mem_cons.mpr ⟨lw_p9, List.forall_mem_cons.mpr ⟨lw_p10, List.forall_mem_cons.mpr ⟨lw_p11, List.forall_mem_cons.mpr ⟨lw_p12, List.forall_mem_cons.mpr ⟨lw_p13, List.forall_mem_cons.mpr ⟨lw_p14, List.forall_mem_cons.mpr ⟨lw_p15, fun _ h => absurd h List.not_mem_nil⟩⟩⟩⟩⟩⟩⟩⟩⟩⟩⟩⟩⟩⟩⟩⟩
theorem lw_p16 : lw_okq (⟨"java/lang/Throwable", "fillInStackTrace", "(I)Ljava/lang/Throwable;"⟩, 6) := ⟨⟨by decide +kernel, by decide +kernel⟩, List.mem_of_getElem? (i := 565) (by decide +kernel), List.mem_of_getElem? (i := 563) (by decide +kernel), List.mem_of_getElem? (i := 564) (by decide +kernel)⟩
theorem lw_p17 : lw_okq (⟨"DviBytes$Writer", "goBack", "(II)V"⟩, 17) := ⟨⟨by decide +kernel, by decide +kernel⟩, List.mem_of_getElem? (i := 81) (by decide +kernel), List.mem_of_getElem? (i := 656) (by decide +kernel), List.mem_of_getElem? (i := 657) (by decide +kernel)⟩
theorem lw_p18 : lw_okq (⟨"DviBytes$Sheet", "part", "(II)I"⟩, 2) := ⟨⟨by decide +kernel, by decide +kernel⟩, List.mem_of_getElem? (i := 68) (by decide +kernel), List.mem_of_getElem? (i := 747) (by decide +kernel), List.mem_of_getElem? (i := 748) (by decide +kernel)⟩
theorem lw_p19 : lw_okq (⟨"DviBytes$Writer", "growth", "(LDviBytes$Sheet;I)I"⟩, 17) := ⟨⟨by decide +kernel, by decide +kernel⟩, List.mem_of_getElem? (i := 81) (by decide +kernel), List.mem_of_getElem? (i := 755) (by decide +kernel), List.mem_of_getElem? (i := 756) (by decide +kernel)⟩
theorem lw_p20 : lw_okq (⟨"DviBytes$Writer", "writeStart", "()V"⟩, 17) := ⟨⟨by decide +kernel, by decide +kernel⟩, List.mem_of_getElem? (i := 81) (by decide +kernel), List.mem_of_getElem? (i := 799) (by decide +kernel), List.mem_of_getElem? (i := 800) (by decide +kernel)⟩
theorem lw_p21 : lw_okq (⟨"DviBytes$Writer", "writeScale", "()V"⟩, 17) := ⟨⟨by decide +kernel, by decide +kernel⟩, List.mem_of_getElem? (i := 81) (by decide +kernel), List.mem_of_getElem? (i := 804) (by decide +kernel), List.mem_of_getElem? (i := 805) (by decide +kernel)⟩
theorem lw_p22 : lw_okq (⟨"DviBytes$Writer", "writeMarks", "(LDviBytes$Sheet;)V"⟩, 17) := ⟨⟨by decide +kernel, by decide +kernel⟩, List.mem_of_getElem? (i := 81) (by decide +kernel), List.mem_of_getElem? (i := 815) (by decide +kernel), List.mem_of_getElem? (i := 816) (by decide +kernel)⟩
theorem lw_p23 : lw_okq (⟨"DviBytes$Way", "comesBehind", "(II)Z"⟩, 5) := ⟨⟨by decide +kernel, by decide +kernel⟩, List.mem_of_getElem? (i := 102) (by decide +kernel), List.mem_of_getElem? (i := 824) (by decide +kernel), List.mem_of_getElem? (i := 825) (by decide +kernel)⟩
theorem lw_p24 : lw_okq (⟨"DviBytes$Writer", "writeFont", "(I)V"⟩, 17) := ⟨⟨by decide +kernel, by decide +kernel⟩, List.mem_of_getElem? (i := 81) (by decide +kernel), List.mem_of_getElem? (i := 843) (by decide +kernel), List.mem_of_getElem? (i := 844) (by decide +kernel)⟩
theorem lw_p25 : lw_okq (⟨"DviBytes$Writer", "remember", "(I)V"⟩, 17) := ⟨⟨by decide +kernel, by decide +kernel⟩, List.mem_of_getElem? (i := 81) (by decide +kernel), List.mem_of_getElem? (i := 855) (by decide +kernel), List.mem_of_getElem? (i := 856) (by decide +kernel)⟩
theorem lw_p26 : lw_okq (⟨"DviBytes$Writer", "writeCharacter", "(I)V"⟩, 17) := ⟨⟨by decide +kernel, by decide +kernel⟩, List.mem_of_getElem? (i := 81) (by decide +kernel), List.mem_of_getElem? (i := 859) (by decide +kernel), List.mem_of_getElem? (i := 860) (by decide +kernel)⟩
theorem lw_p27 : lw_okq (⟨"DviBytesModel", "isTold", "(I)Z"⟩, 53) := ⟨⟨by decide +kernel, by decide +kernel⟩, List.mem_of_getElem? (i := 946) (by decide +kernel), List.mem_of_getElem? (i := 1130) (by decide +kernel), List.mem_of_getElem? (i := 1131) (by decide +kernel)⟩
theorem lw_p28 : lw_okq (⟨"DviBytesModel", "mark", "(IIIII)I"⟩, 53) := ⟨⟨by decide +kernel, by decide +kernel⟩, List.mem_of_getElem? (i := 946) (by decide +kernel), List.mem_of_getElem? (i := 1155) (by decide +kernel), List.mem_of_getElem? (i := 1156) (by decide +kernel)⟩
theorem lw_p29 : lw_okq (⟨"DviBytesModel", "findMoves", "()Z"⟩, 53) := ⟨⟨by decide +kernel, by decide +kernel⟩, List.mem_of_getElem? (i := 946) (by decide +kernel), List.mem_of_getElem? (i := 1167) (by decide +kernel), List.mem_of_getElem? (i := 1168) (by decide +kernel)⟩
theorem lw_p30 : lw_okq (⟨"DviBytesModel", "writePage", "()V"⟩, 53) := ⟨⟨by decide +kernel, by decide +kernel⟩, List.mem_of_getElem? (i := 946) (by decide +kernel), List.mem_of_getElem? (i := 1176) (by decide +kernel), List.mem_of_getElem? (i := 1177) (by decide +kernel)⟩
theorem lw_p31 : lw_okq (⟨"DviBytesModel", "open", "()V"⟩, 53) := ⟨⟨by decide +kernel, by decide +kernel⟩, List.mem_of_getElem? (i := 946) (by decide +kernel), List.mem_of_getElem? (i := 1180) (by decide +kernel), List.mem_of_getElem? (i := 1181) (by decide +kernel)⟩
def lw_privs_2 : List (MethodName × Nat) := [(⟨"java/lang/Throwable", "fillInStackTrace", "(I)Ljava/lang/Throwable;"⟩, 6), (⟨"DviBytes$Writer", "goBack", "(II)V"⟩, 17), (⟨"DviBytes$Sheet", "part", "(II)I"⟩, 2), (⟨"DviBytes$Writer", "growth", "(LDviBytes$Sheet;I)I"⟩, 17), (⟨"DviBytes$Writer", "writeStart", "()V"⟩, 17), (⟨"DviBytes$Writer", "writeScale", "()V"⟩, 17), (⟨"DviBytes$Writer", "writeMarks", "(LDviBytes$Sheet;)V"⟩, 17), (⟨"DviBytes$Way", "comesBehind", "(II)Z"⟩, 5), (⟨"DviBytes$Writer", "writeFont", "(I)V"⟩, 17), (⟨"DviBytes$Writer", "remember", "(I)V"⟩, 17), (⟨"DviBytes$Writer", "writeCharacter", "(I)V"⟩, 17), (⟨"DviBytesModel", "isTold", "(I)Z"⟩, 53), (⟨"DviBytesModel", "mark", "(IIIII)I"⟩, 53), (⟨"DviBytesModel", "findMoves", "()Z"⟩, 53), (⟨"DviBytesModel", "writePage", "()V"⟩, 53), (⟨"DviBytesModel", "open", "()V"⟩, 53)]
theorem lw_r2 : ∀ q ∈ lw_privs_2, lw_okq q := List.forall_mem_cons.mpr ⟨lw_p16, List.forall_mem_cons.mpr ⟨lw_p17, List.forall_mem_cons.mpr ⟨lw_p18, List.forall_mem_cons.mpr ⟨lw_p19, List.forall_mem_cons.mpr ⟨lw_p20, List.forall_mem_cons.mpr ⟨lw_p21, List.forall_mem_cons.mpr ⟨lw_p22, List.forall_mem_cons.mpr ⟨lw_p23, List.forall_mem_cons.mpr ⟨lw_p24, List.forall_mem_cons.mpr ⟨lw_p25, List.forall_mem_cons.mpr ⟨lw_p26, List.forall_mem_cons.mpr ⟨lw_p27, List.forall_mem_cons.mpr ⟨lw_p28, List.forall_mem_cons.mpr ⟨lw_p29, List.forall_mem_cons.mpr ⟨lw_p30, List.forall_mem_cons.mpr ⟨lw_p31, fun _ h => absurd h List.not_mem_nil⟩⟩⟩⟩⟩⟩⟩⟩⟩⟩⟩⟩⟩⟩⟩⟩
theorem lw_p32 : lw_okq (⟨"DviBytesModel", "lay", "(I)V"⟩, 53) := ⟨⟨by decide +kernel, by decide +kernel⟩, List.mem_of_getElem? (i := 946) (by decide +kernel), List.mem_of_getElem? (i := 1184) (by decide +kernel), List.mem_of_getElem? (i := 1185) (by decide +kernel)⟩
theorem lw_p33 : lw_okq (⟨"DviBytesModel", "layNumber", "(II)V"⟩, 53) := ⟨⟨by decide +kernel, by decide +kernel⟩, List.mem_of_getElem? (i := 946) (by decide +kernel), List.mem_of_getElem? (i := 1189) (by decide +kernel), List.mem_of_getElem? (i := 1190) (by decide +kernel)⟩
theorem lw_p34 : lw_okq (⟨"DviBytesModel", "move", "([IIII)V"⟩, 53) := ⟨⟨by decide +kernel, by decide +kernel⟩, List.mem_of_getElem? (i := 946) (by decide +kernel), List.mem_of_getElem? (i := 1194) (by decide +kernel), List.mem_of_getElem? (i := 1195) (by decide +kernel)⟩
theorem lw_p35 : lw_okq (⟨"DviBytesModel", "comes", "([III)Z"⟩, 53) := ⟨⟨by decide +kernel, by decide +kernel⟩, List.mem_of_getElem? (i := 946) (by decide +kernel), List.mem_of_getElem? (i := 1204) (by decide +kernel), List.mem_of_getElem? (i := 1205) (by decide +kernel)⟩
theorem lw_p36 : lw_okq (⟨"DviBytesModel", "define", "(I)V"⟩, 53) := ⟨⟨by decide +kernel, by decide +kernel⟩, List.mem_of_getElem? (i := 946) (by decide +kernel), List.mem_of_getElem? (i := 1208) (by decide +kernel), List.mem_of_getElem? (i := 1209) (by decide +kernel)⟩
theorem lw_p37 : lw_okq (⟨"DviBytesModel", "forget", "()V"⟩, 53) := ⟨⟨by decide +kernel, by decide +kernel⟩, List.mem_of_getElem? (i := 946) (by decide +kernel), List.mem_of_getElem? (i := 1241) (by decide +kernel), List.mem_of_getElem? (i := 1242) (by decide +kernel)⟩
theorem lw_p38 : lw_okq (⟨"DviBytesModel", "goThrough", "()I"⟩, 53) := ⟨⟨by decide +kernel, by decide +kernel⟩, List.mem_of_getElem? (i := 946) (by decide +kernel), List.mem_of_getElem? (i := 1245) (by decide +kernel), List.mem_of_getElem? (i := 1246) (by decide +kernel)⟩
theorem lw_p39 : lw_okq (⟨"DviBytesModel", "byteAt", "(I)I"⟩, 53) := ⟨⟨by decide +kernel, by decide +kernel⟩, List.mem_of_getElem? (i := 946) (by decide +kernel), List.mem_of_getElem? (i := 1253) (by decide +kernel), List.mem_of_getElem? (i := 1254) (by decide +kernel)⟩
theorem lw_p40 : lw_okq (⟨"DviBytesModel", "length", "()I"⟩, 53) := ⟨⟨by decide +kernel, by decide +kernel⟩, List.mem_of_getElem? (i := 946) (by decide +kernel), List.mem_of_getElem? (i := 1257) (by decide +kernel), List.mem_of_getElem? (i := 1258) (by decide +kernel)⟩
theorem lw_p41 : lw_okq (⟨"DviBytesModel", "number", "(IIZ)I"⟩, 53) := ⟨⟨by decide +kernel, by decide +kernel⟩, List.mem_of_getElem? (i := 946) (by decide +kernel), List.mem_of_getElem? (i := 1269) (by decide +kernel), List.mem_of_getElem? (i := 1270) (by decide +kernel)⟩
theorem lw_p42 : lw_okq (⟨"DviBytesModel", "mayStand", "(I)Z"⟩, 53) := ⟨⟨by decide +kernel, by decide +kernel⟩, List.mem_of_getElem? (i := 946) (by decide +kernel), List.mem_of_getElem? (i := 1277) (by decide +kernel), List.mem_of_getElem? (i := 1278) (by decide +kernel)⟩
theorem lw_p43 : lw_okq (⟨"DviBytesModel", "isFontTold", "(I)Z"⟩, 53) := ⟨⟨by decide +kernel, by decide +kernel⟩, List.mem_of_getElem? (i := 946) (by decide +kernel), List.mem_of_getElem? (i := 1281) (by decide +kernel), List.mem_of_getElem? (i := 1282) (by decide +kernel)⟩
theorem lw_p44 : lw_okq (⟨"DviBytesModel", "within", "(I)I"⟩, 53) := ⟨⟨by decide +kernel, by decide +kernel⟩, List.mem_of_getElem? (i := 946) (by decide +kernel), List.mem_of_getElem? (i := 1285) (by decide +kernel), List.mem_of_getElem? (i := 1286) (by decide +kernel)⟩
theorem lw_p45 : lw_okq (⟨"DviBytesModel", "setCharacter", "(IZ)I"⟩, 53) := ⟨⟨by decide +kernel, by decide +kernel⟩, List.mem_of_getElem? (i := 946) (by decide +kernel), List.mem_of_getElem? (i := 1289) (by decide +kernel), List.mem_of_getElem? (i := 1290) (by decide +kernel)⟩
theorem lw_p46 : lw_okq (⟨"DviBytesModel", "noteMark", "(III)V"⟩, 53) := ⟨⟨by decide +kernel, by decide +kernel⟩, List.mem_of_getElem? (i := 946) (by decide +kernel), List.mem_of_getElem? (i := 1293) (by decide +kernel), List.mem_of_getElem? (i := 1294) (by decide +kernel)⟩
theorem lw_p47 : lw_okq (⟨"DviBytesModel", "add", "(II)I"⟩, 53) := ⟨⟨by decide +kernel, by decide +kernel⟩, List.mem_of_getElem? (i := 946) (by decide +kernel), List.mem_of_getElem? (i := 1297) (by decide +kernel), List.mem_of_getElem? (i := 1298) (by decide +kernel)⟩
def lw_privs_3 : List (MethodName × Nat) := [(⟨"DviBytesModel", "lay", "(I)V"⟩, 53), (⟨"DviBytesModel", "layNumber", "(II)V"⟩, 53), (⟨"DviBytesModel", "move", "([IIII)V"⟩, 53), (⟨"DviBytesModel", "comes", "([III)Z"⟩, 53), (⟨"DviBytesModel", "define", "(I)V"⟩, 53), (⟨"DviBytesModel", "forget", "()V"⟩, 53), (⟨"DviBytesModel", "goThrough", "()I"⟩, 53), (⟨"DviBytesModel", "byteAt", "(I)I"⟩, 53), (⟨"DviBytesModel", "length", "()I"⟩, 53), (⟨"DviBytesModel", "number", "(IIZ)I"⟩, 53), (⟨"DviBytesModel", "mayStand", "(I)Z"⟩, 53), (⟨"DviBytesModel", "isFontTold", "(I)Z"⟩, 53), (⟨"DviBytesModel", "within", "(I)I"⟩, 53), (⟨"DviBytesModel", "setCharacter", "(IZ)I"⟩, 53), (⟨"DviBytesModel", "noteMark", "(III)V"⟩, 53), (⟨"DviBytesModel", "add", "(II)I"⟩, 53)]
theorem lw_r3 : ∀ q ∈ lw_privs_3, lw_okq q := List.forall_mem_cons.mpr ⟨lw_p32, List.forall_mem_cons.mpr ⟨lw_p33, List.forall_mem_cons.mpr ⟨lw_p34, List.forall_mem_cons.mpr ⟨lw_p35, List.forall_mem_cons.mpr ⟨lw_p36, List.forall_mem_cons.mpr ⟨lw_p37, List.forall_mem_cons.mpr ⟨lw_p38, List.forall_mem_cons.mpr ⟨lw_p39, List.forall_mem_cons.mpr ⟨lw_p40, List.forall_mem_cons.mpr ⟨lw_p41, List.forall_mem_cons.mpr ⟨lw_p42, List.forall_mem_cons.mpr ⟨lw_p43, List.forall_mem_cons.mpr ⟨lw_p44, List.forall_mem_cons.mpr ⟨lw_p45, List.forall_mem_cons.mpr ⟨lw_p46, List.forall_mem_cons.mpr ⟨lw_p47, fun _ h => absurd h List.not_mem_nil⟩⟩⟩⟩⟩⟩⟩⟩⟩⟩⟩⟩⟩⟩⟩⟩
theorem lw_p48 : lw_okq (⟨"DviBytesModel", "setRule", "(Z)I"⟩, 53) := ⟨⟨by decide +kernel, by decide +kernel⟩, List.mem_of_getElem? (i := 946) (by decide +kernel), List.mem_of_getElem? (i := 1301) (by decide +kernel), List.mem_of_getElem? (i := 1302) (by decide +kernel)⟩
theorem lw_p49 : lw_okq (⟨"DviBytesModel", "push", "()I"⟩, 53) := ⟨⟨by decide +kernel, by decide +kernel⟩, List.mem_of_getElem? (i := 946) (by decide +kernel), List.mem_of_getElem? (i := 1305) (by decide +kernel), List.mem_of_getElem? (i := 1306) (by decide +kernel)⟩
theorem lw_p50 : lw_okq (⟨"DviBytesModel", "pop", "()I"⟩, 53) := ⟨⟨by decide +kernel, by decide +kernel⟩, List.mem_of_getElem? (i := 946) (by decide +kernel), List.mem_of_getElem? (i := 1309) (by decide +kernel), List.mem_of_getElem? (i := 1310) (by decide +kernel)⟩
theorem lw_p51 : lw_okq (⟨"DviBytesModel", "moveBy", "(I)I"⟩, 53) := ⟨⟨by decide +kernel, by decide +kernel⟩, List.mem_of_getElem? (i := 946) (by decide +kernel), List.mem_of_getElem? (i := 1313) (by decide +kernel), List.mem_of_getElem? (i := 1314) (by decide +kernel)⟩
theorem lw_p52 : lw_okq (⟨"DviBytesModel", "take", "(I)I"⟩, 53) := ⟨⟨by decide +kernel, by decide +kernel⟩, List.mem_of_getElem? (i := 946) (by decide +kernel), List.mem_of_getElem? (i := 1317) (by decide +kernel), List.mem_of_getElem? (i := 1318) (by decide +kernel)⟩
theorem lw_p53 : lw_okq (⟨"DviBytesModel", "fontAt", "(I)I"⟩, 53) := ⟨⟨by decide +kernel, by decide +kernel⟩, List.mem_of_getElem? (i := 946) (by decide +kernel), List.mem_of_getElem? (i := 1321) (by decide +kernel), List.mem_of_getElem? (i := 1322) (by decide +kernel)⟩
theorem lw_p54 : lw_okq (⟨"DviBytesModel", "tell", "()I"⟩, 53) := ⟨⟨by decide +kernel, by decide +kernel⟩, List.mem_of_getElem? (i := 946) (by decide +kernel), List.mem_of_getElem? (i := 1325) (by decide +kernel), List.mem_of_getElem? (i := 1326) (by decide +kernel)⟩
theorem lw_p55 : lw_okq (⟨"DviBytesModel", "isSame", "(II)Z"⟩, 53) := ⟨⟨by decide +kernel, by decide +kernel⟩, List.mem_of_getElem? (i := 946) (by decide +kernel), List.mem_of_getElem? (i := 1329) (by decide +kernel), List.mem_of_getElem? (i := 1330) (by decide +kernel)⟩
theorem lw_p56 : lw_okq (⟨"DviBytesModel", "nameSize", "(I)I"⟩, 53) := ⟨⟨by decide +kernel, by decide +kernel⟩, List.mem_of_getElem? (i := 946) (by decide +kernel), List.mem_of_getElem? (i := 1333) (by decide +kernel), List.mem_of_getElem? (i := 1334) (by decide +kernel)⟩
theorem lw_p57 : lw_okq (⟨"DviBytesModel", "behindNumber", "(I)I"⟩, 53) := ⟨⟨by decide +kernel, by decide +kernel⟩, List.mem_of_getElem? (i := 946) (by decide +kernel), List.mem_of_getElem? (i := 1337) (by decide +kernel), List.mem_of_getElem? (i := 1338) (by decide +kernel)⟩
theorem lw_p58 : lw_okq (⟨"DviBytesModel", "outside", "(I)I"⟩, 53) := ⟨⟨by decide +kernel, by decide +kernel⟩, List.mem_of_getElem? (i := 946) (by decide +kernel), List.mem_of_getElem? (i := 1341) (by decide +kernel), List.mem_of_getElem? (i := 1342) (by decide +kernel)⟩
theorem lw_p59 : lw_okq (⟨"DviBytesModel", "beginPage", "()I"⟩, 53) := ⟨⟨by decide +kernel, by decide +kernel⟩, List.mem_of_getElem? (i := 946) (by decide +kernel), List.mem_of_getElem? (i := 1345) (by decide +kernel), List.mem_of_getElem? (i := 1346) (by decide +kernel)⟩
theorem lw_p60 : lw_okq (⟨"DviBytesModel", "post", "()I"⟩, 53) := ⟨⟨by decide +kernel, by decide +kernel⟩, List.mem_of_getElem? (i := 946) (by decide +kernel), List.mem_of_getElem? (i := 1349) (by decide +kernel), List.mem_of_getElem? (i := 1350) (by decide +kernel)⟩
def lw_privs_4 : List (MethodName × Nat) := [(⟨"DviBytesModel", "setRule", "(Z)I"⟩, 53), (⟨"DviBytesModel", "push", "()I"⟩, 53), (⟨"DviBytesModel", "pop", "()I"⟩, 53), (⟨"DviBytesModel", "moveBy", "(I)I"⟩, 53), (⟨"DviBytesModel", "take", "(I)I"⟩, 53), (⟨"DviBytesModel", "fontAt", "(I)I"⟩, 53), (⟨"DviBytesModel", "tell", "()I"⟩, 53), (⟨"DviBytesModel", "isSame", "(II)Z"⟩, 53), (⟨"DviBytesModel", "nameSize", "(I)I"⟩, 53), (⟨"DviBytesModel", "behindNumber", "(I)I"⟩, 53), (⟨"DviBytesModel", "outside", "(I)I"⟩, 53), (⟨"DviBytesModel", "beginPage", "()I"⟩, 53), (⟨"DviBytesModel", "post", "()I"⟩, 53)]
theorem lw_r4 : ∀ q ∈ lw_privs_4, lw_okq q := List.forall_mem_cons.mpr ⟨lw_p48, List.forall_mem_cons.mpr ⟨lw_p49, List.forall_mem_cons.mpr ⟨lw_p50, List.forall_mem_cons.mpr ⟨lw_p51, List.forall_mem_cons.mpr ⟨lw_p52, List.forall_mem_cons.mpr ⟨lw_p53, List.forall_mem_cons.mpr ⟨lw_p54, List.forall_mem_cons.mpr ⟨lw_p55, List.forall_mem_cons.mpr ⟨lw_p56, List.forall_mem_cons.mpr ⟨lw_p57, List.forall_mem_cons.mpr ⟨lw_p58, List.forall_mem_cons.mpr ⟨lw_p59, List.forall_mem_cons.mpr ⟨lw_p60, fun _ h => absurd h List.not_mem_nil⟩⟩⟩⟩⟩⟩⟩⟩⟩⟩⟩⟩⟩
def lw_privs : List (MethodName × Nat) := lw_privs_1 ++ (lw_privs_2 ++ (lw_privs_3 ++ (lw_privs_4)))
def lw_tbl : List Cond := k2_sels lw_privs ++ tables_1
theorem lw_privs_ok : ∀ q ∈ lw_privs, lw_okq q := by
  show ∀ q ∈ lw_privs_1 ++ (lw_privs_2 ++ (lw_privs_3 ++ (lw_privs_4))), lw_okq q
  exact List.forall_mem_append.mpr ⟨lw_r1, List.forall_mem_append.mpr ⟨lw_r2, List.forall_mem_append.mpr ⟨lw_r3, lw_r4⟩⟩⟩
end
section
def T_By : u_T := fun k => match k with
  | 0 => ("DviBytes$Bytes", "row", "[B", true)
  | _ => ("DviBytes$Bytes", "used", "I", false)
def y_By : Nat → FieldType := fun k => match k with
  | 0 => .array .byte
  | _ => .int
def T_Fo : u_T := fun k => match k with
  | 0 => ("DviBytes$Fonts", "checks", "[I", true)
  | 1 => ("DviBytes$Fonts", "sizes", "[I", true)
  | 2 => ("DviBytes$Fonts", "designs", "[I", true)
  | 3 => ("DviBytes$Fonts", "names", "[J", true)
  | 4 => ("DviBytes$Fonts", "mores", "[J", true)
  | _ => ("DviBytes$Fonts", "lengths", "[I", true)
def y_Fo : Nat → FieldType := fun k => match k with
  | 0 => .array .int
  | 1 => .array .int
  | 2 => .array .int
  | 3 => .array .long
  | 4 => .array .long
  | _ => .array .int
def T_Rd : u_T := fun k => match k with
  | 0 => ("DviBytes$Reader", "input", "LDviBytes$Bytes;", true)
  | 1 => ("DviBytes$Reader", "widths", "LDviBytes$Widths;", true)
  | 2 => ("DviBytes$Reader", "reading", "LDviBytes$Reading;", true)
  | 3 => ("DviBytes$Reader", "six", "[I", true)
  | 4 => ("DviBytes$Reader", "pushed", "[I", true)
  | 5 => ("DviBytes$Reader", "depth", "I", false)
  | 6 => ("DviBytes$Reader", "stage", "I", false)
  | 7 => ("DviBytes$Reader", "at", "I", false)
  | 8 => ("DviBytes$Reader", "code", "I", false)
  | 9 => ("DviBytes$Reader", "numberBytes", "I", false)
  | 10 => ("DviBytes$Reader", "fontAtHand", "I", false)
  | 11 => ("DviBytes$Reader", "formerPage", "I", false)
  | 12 => ("DviBytes$Reader", "lastAt", "I", false)
  | _ => ("DviBytes$Reader", "fillers", "I", false)
def y_Rd : Nat → FieldType := fun k => match k with
  | 0 => .object "DviBytes$Bytes"
  | 1 => .object "DviBytes$Widths"
  | 2 => .object "DviBytes$Reading"
  | 3 => .array .int
  | 4 => .array .int
  | 5 => .int
  | 6 => .int
  | 7 => .int
  | 8 => .int
  | 9 => .int
  | 10 => .int
  | 11 => .int
  | 12 => .int
  | _ => .int
def T_Rg : u_T := fun k => match k with
  | 0 => ("DviBytes$Reading", "marks", "[I", true)
  | 1 => ("DviBytes$Reading", "pageCounts", "[I", true)
  | 2 => ("DviBytes$Reading", "fontParts", "[I", true)
  | 3 => ("DviBytes$Reading", "nameStarts", "[I", true)
  | 4 => ("DviBytes$Reading", "names", "LDviBytes$Bytes;", true)
  | 5 => ("DviBytes$Reading", "markMany", "I", false)
  | 6 => ("DviBytes$Reading", "pageMany", "I", false)
  | 7 => ("DviBytes$Reading", "fontMany", "I", false)
  | 8 => ("DviBytes$Reading", "magnification", "I", false)
  | 9 => ("DviBytes$Reading", "greatestV", "I", false)
  | 10 => ("DviBytes$Reading", "greatestH", "I", false)
  | _ => ("DviBytes$Reading", "greatestDepth", "I", false)
def y_Rg : Nat → FieldType := fun k => match k with
  | 0 => .array .int
  | 1 => .array .int
  | 2 => .array .int
  | 3 => .array .int
  | 4 => .object "DviBytes$Bytes"
  | 5 => .int
  | 6 => .int
  | 7 => .int
  | 8 => .int
  | 9 => .int
  | 10 => .int
  | _ => .int
def T_Sh : u_T := fun k => match k with
  | 0 => ("DviBytes$Sheet", "parts", "[I", true)
  | _ => ("DviBytes$Sheet", "many", "I", false)
def y_Sh : Nat → FieldType := fun k => match k with
  | 0 => .array .int
  | _ => .int
def T_Wa : u_T := fun k => match k with
  | 0 => ("DviBytes$Way", "plain", "I", true)
  | 1 => ("DviBytes$Way", "moves", "[I", true)
  | 2 => ("DviBytes$Way", "many", "I", false)
  | 3 => ("DviBytes$Way", "one", "I", false)
  | _ => ("DviBytes$Way", "two", "I", false)
def y_Wa : Nat → FieldType := fun k => match k with
  | 0 => .int
  | 1 => .array .int
  | 2 => .int
  | 3 => .int
  | _ => .int
def T_Wi : u_T := fun k => match k with
  | _ => ("DviBytes$Widths", "row", "[I", true)
def y_Wi : Nat → FieldType := fun k => match k with
  | _ => .array .int
def T_Wr : u_T := fun k => match k with
  | 0 => ("DviBytes$Writer", "fonts", "LDviBytes$Fonts;", true)
  | 1 => ("DviBytes$Writer", "widths", "LDviBytes$Widths;", true)
  | 2 => ("DviBytes$Writer", "written", "LDviBytes$Bytes;", true)
  | 3 => ("DviBytes$Writer", "right", "LDviBytes$Way;", true)
  | 4 => ("DviBytes$Writer", "down", "LDviBytes$Way;", true)
  | 5 => ("DviBytes$Writer", "told", "[Z", true)
  | 6 => ("DviBytes$Writer", "toldInOrder", "[I", true)
  | 7 => ("DviBytes$Writer", "toldMany", "I", false)
  | 8 => ("DviBytes$Writer", "commentCharacter", "I", false)
  | 9 => ("DviBytes$Writer", "commentLength", "I", false)
  | 10 => ("DviBytes$Writer", "closed", "Z", false)
  | 11 => ("DviBytes$Writer", "pageMany", "I", false)
  | 12 => ("DviBytes$Writer", "lastPage", "I", false)
  | 13 => ("DviBytes$Writer", "greatestV", "I", false)
  | 14 => ("DviBytes$Writer", "greatestH", "I", false)
  | 15 => ("DviBytes$Writer", "plannedV", "I", false)
  | _ => ("DviBytes$Writer", "plannedH", "I", false)
def y_Wr : Nat → FieldType := fun k => match k with
  | 0 => .object "DviBytes$Fonts"
  | 1 => .object "DviBytes$Widths"
  | 2 => .object "DviBytes$Bytes"
  | 3 => .object "DviBytes$Way"
  | 4 => .object "DviBytes$Way"
  | 5 => .array .boolean
  | 6 => .array .int
  | 7 => .int
  | 8 => .int
  | 9 => .int
  | 10 => .boolean
  | 11 => .int
  | 12 => .int
  | 13 => .int
  | 14 => .int
  | 15 => .int
  | _ => .int
def T_Dv : u_T := fun k => match k with
  | 0 => ("DviBytes", "widths", "LDviBytes$Widths;", true)
  | 1 => ("DviBytes", "fonts", "LDviBytes$Fonts;", true)
  | 2 => ("DviBytes", "counts", "[I", true)
  | 3 => ("DviBytes", "sheet", "LDviBytes$Sheet;", true)
  | 4 => ("DviBytes", "writer", "LDviBytes$Writer;", true)
  | 5 => ("DviBytes", "input", "LDviBytes$Bytes;", true)
  | 6 => ("DviBytes", "reading", "LDviBytes$Reading;", true)
  | _ => ("DviBytes", "reader", "LDviBytes$Reader;", true)
def y_Dv : Nat → FieldType := fun k => match k with
  | 0 => .object "DviBytes$Widths"
  | 1 => .object "DviBytes$Fonts"
  | 2 => .array .int
  | 3 => .object "DviBytes$Sheet"
  | 4 => .object "DviBytes$Writer"
  | 5 => .object "DviBytes$Bytes"
  | 6 => .object "DviBytes$Reading"
  | _ => .object "DviBytes$Reader"
def T_Mo : u_T := fun k => match k with
  | 0 => ("DviBytesModel", "thrown", "I", false)
  | 1 => ("DviBytesModel", "known", "[Z", true)
  | 2 => ("DviBytesModel", "checks", "[I", true)
  | 3 => ("DviBytesModel", "sizes", "[I", true)
  | 4 => ("DviBytesModel", "designs", "[I", true)
  | 5 => ("DviBytesModel", "nameSizes", "[I", true)
  | 6 => ("DviBytesModel", "names", "[B", true)
  | 7 => ("DviBytesModel", "widths", "[I", true)
  | 8 => ("DviBytesModel", "counts", "[I", true)
  | 9 => ("DviBytesModel", "written", "I", false)
  | 10 => ("DviBytesModel", "out", "[B", true)
  | 11 => ("DviBytesModel", "commentSize", "I", false)
  | 12 => ("DviBytesModel", "commentCode", "I", false)
  | 13 => ("DviBytesModel", "closed", "Z", false)
  | 14 => ("DviBytesModel", "pages", "I", false)
  | 15 => ("DviBytesModel", "lastPage", "I", false)
  | 16 => ("DviBytesModel", "greatestV", "I", false)
  | 17 => ("DviBytesModel", "greatestH", "I", false)
  | 18 => ("DviBytesModel", "toldCount", "I", false)
  | 19 => ("DviBytesModel", "toldFonts", "[I", true)
  | 20 => ("DviBytesModel", "marks", "I", false)
  | 21 => ("DviBytesModel", "fonts", "[I", true)
  | 22 => ("DviBytesModel", "codes", "[I", true)
  | 23 => ("DviBytesModel", "xs", "[I", true)
  | 24 => ("DviBytesModel", "ys", "[I", true)
  | 25 => ("DviBytesModel", "heights", "[I", true)
  | 26 => ("DviBytesModel", "rights", "[I", true)
  | 27 => ("DviBytesModel", "downs", "[I", true)
  | 28 => ("DviBytesModel", "behinds", "[I", true)
  | 29 => ("DviBytesModel", "given", "I", false)
  | 30 => ("DviBytesModel", "in", "[B", true)
  | 31 => ("DviBytesModel", "read", "[B", true)
  | 32 => ("DviBytesModel", "readMarks", "I", false)
  | 33 => ("DviBytesModel", "marked", "[I", true)
  | 34 => ("DviBytesModel", "readPages", "I", false)
  | 35 => ("DviBytesModel", "readCounts", "[I", true)
  | 36 => ("DviBytesModel", "readFonts", "I", false)
  | 37 => ("DviBytesModel", "fontNumbers", "[I", true)
  | 38 => ("DviBytesModel", "fontPlaces", "[I", true)
  | 39 => ("DviBytesModel", "magnification", "I", false)
  | 40 => ("DviBytesModel", "saysV", "I", false)
  | 41 => ("DviBytesModel", "saysH", "I", false)
  | 42 => ("DviBytesModel", "deepest", "I", false)
  | 43 => ("DviBytesModel", "state", "I", false)
  | 44 => ("DviBytesModel", "at", "I", false)
  | 45 => ("DviBytesModel", "size", "I", false)
  | 46 => ("DviBytesModel", "former", "I", false)
  | 47 => ("DviBytesModel", "postPlace", "I", false)
  | 48 => ("DviBytesModel", "font", "I", false)
  | 49 => ("DviBytesModel", "hasFont", "Z", false)
  | 50 => ("DviBytesModel", "pushed", "I", false)
  | 51 => ("DviBytesModel", "pile", "[I", true)
  | _ => ("DviBytesModel", "six", "[I", true)
def y_Mo : Nat → FieldType := fun k => match k with
  | 0 => .int
  | 1 => .array .boolean
  | 2 => .array .int
  | 3 => .array .int
  | 4 => .array .int
  | 5 => .array .int
  | 6 => .array .byte
  | 7 => .array .int
  | 8 => .array .int
  | 9 => .int
  | 10 => .array .byte
  | 11 => .int
  | 12 => .int
  | 13 => .boolean
  | 14 => .int
  | 15 => .int
  | 16 => .int
  | 17 => .int
  | 18 => .int
  | 19 => .array .int
  | 20 => .int
  | 21 => .array .int
  | 22 => .array .int
  | 23 => .array .int
  | 24 => .array .int
  | 25 => .array .int
  | 26 => .array .int
  | 27 => .array .int
  | 28 => .array .int
  | 29 => .int
  | 30 => .array .byte
  | 31 => .array .byte
  | 32 => .int
  | 33 => .array .int
  | 34 => .int
  | 35 => .array .int
  | 36 => .int
  | 37 => .array .int
  | 38 => .array .int
  | 39 => .int
  | 40 => .int
  | 41 => .int
  | 42 => .int
  | 43 => .int
  | 44 => .int
  | 45 => .int
  | 46 => .int
  | 47 => .int
  | 48 => .int
  | 49 => .boolean
  | 50 => .int
  | 51 => .array .int
  | _ => .array .int
abbrev vwCl : List vw_C := [("DviBytes$Bytes", T_By, 2), ("DviBytes$Fonts", T_Fo, 6), ("DviBytes$Reader", T_Rd, 14), ("DviBytes$Reading", T_Rg, 12), ("DviBytes$Sheet", T_Sh, 2), ("DviBytes$Way", T_Wa, 5), ("DviBytes$Widths", T_Wi, 1), ("DviBytes$Writer", T_Wr, 17), ("DviBytes", T_Dv, 8), ("DviBytesModel", T_Mo, 53)]
def m_Dv_init : MethodName × ByteArray × Nat × Option FieldType × List (Nat × Nat × Nat × Nat) := (⟨"DviBytes", "<init>", "()V"⟩, prog_1_method_1_code, 1, none, [])
def m_Wi_init : MethodName × ByteArray × Nat × Option FieldType × List (Nat × Nat × Nat × Nat) := (⟨"DviBytes$Widths", "<init>", "()V"⟩, prog_8_method_1_code, 1, none, [])
def m_Fo_init : MethodName × ByteArray × Nat × Option FieldType × List (Nat × Nat × Nat × Nat) := (⟨"DviBytes$Fonts", "<init>", "()V"⟩, prog_3_method_1_code, 1, none, [])
def m_Sh_init : MethodName × ByteArray × Nat × Option FieldType × List (Nat × Nat × Nat × Nat) := (⟨"DviBytes$Sheet", "<init>", "()V"⟩, prog_6_method_1_code, 1, none, [])
def m_Wr_init : MethodName × ByteArray × Nat × Option FieldType × List (Nat × Nat × Nat × Nat) := (⟨"DviBytes$Writer", "<init>", "(LDviBytes$Fonts;LDviBytes$Widths;)V"⟩, prog_9_method_1_code, 3, none, [])
def m_By_init : MethodName × ByteArray × Nat × Option FieldType × List (Nat × Nat × Nat × Nat) := (⟨"DviBytes$Bytes", "<init>", "()V"⟩, prog_2_method_1_code, 1, none, [])
def m_Wa_init : MethodName × ByteArray × Nat × Option FieldType × List (Nat × Nat × Nat × Nat) := (⟨"DviBytes$Way", "<init>", "(I)V"⟩, prog_7_method_1_code, 2, none, [])
def m_Rg_init : MethodName × ByteArray × Nat × Option FieldType × List (Nat × Nat × Nat × Nat) := (⟨"DviBytes$Reading", "<init>", "()V"⟩, prog_5_method_1_code, 1, none, [])
def m_Rd_init : MethodName × ByteArray × Nat × Option FieldType × List (Nat × Nat × Nat × Nat) := (⟨"DviBytes$Reader", "<init>", "(LDviBytes$Bytes;LDviBytes$Widths;LDviBytes$Reading;)V"⟩, prog_4_method_1_code, 4, none, [])
def m_Dv_size : MethodName × ByteArray × Nat × Option FieldType × List (Nat × Nat × Nat × Nat) := (⟨"DviBytes", "size", "()I"⟩, prog_1_method_10_code, 1, (some .int), [])
def m_Wr_bytes : MethodName × ByteArray × Nat × Option FieldType × List (Nat × Nat × Nat × Nat) := (⟨"DviBytes$Writer", "bytes", "()LDviBytes$Bytes;"⟩, prog_9_method_2_code, 1, (some (.object "DviBytes$Bytes")), [])
def m_By_length : MethodName × ByteArray × Nat × Option FieldType × List (Nat × Nat × Nat × Nat) := (⟨"DviBytes$Bytes", "length", "()I"⟩, prog_2_method_2_code, 1, (some .int), [])
def m_Dv_feed : MethodName × ByteArray × Nat × Option FieldType × List (Nat × Nat × Nat × Nat) := (⟨"DviBytes", "feed", "(JI)Z"⟩, prog_1_method_12_code, 5, (some .boolean), [])
def m_By_add : MethodName × ByteArray × Nat × Option FieldType × List (Nat × Nat × Nat × Nat) := (⟨"DviBytes$Bytes", "add", "(I)V"⟩, prog_2_method_4_code, 2, none, [])
def m_Dv_keep : MethodName × ByteArray × Nat × Option FieldType × List (Nat × Nat × Nat × Nat) := (⟨"DviBytes", "keep", "(I)Z"⟩, prog_1_method_13_code, 2, (some .boolean), [])
def m_By_cut : MethodName × ByteArray × Nat × Option FieldType × List (Nat × Nat × Nat × Nat) := (⟨"DviBytes$Bytes", "cut", "(I)V"⟩, prog_2_method_10_code, 2, none, [])
def m_Dv_copy : MethodName × ByteArray × Nat × Option FieldType × List (Nat × Nat × Nat × Nat) := (⟨"DviBytes", "copy", "()I"⟩, prog_1_method_14_code, 1, (some .int), [])
def m_By_become : MethodName × ByteArray × Nat × Option FieldType × List (Nat × Nat × Nat × Nat) := (⟨"DviBytes$Bytes", "become", "(LDviBytes$Bytes;)V"⟩, prog_2_method_11_code, 3, none, [])
def m_Dv_read : MethodName × ByteArray × Nat × Option FieldType × List (Nat × Nat × Nat × Nat) := (⟨"DviBytes", "read", "()I"⟩, prog_1_method_15_code, 2, (some .int), [])
def m_Rd_restart : MethodName × ByteArray × Nat × Option FieldType × List (Nat × Nat × Nat × Nat) := (⟨"DviBytes$Reader", "restart", "()V"⟩, prog_4_method_2_code, 1, none, [])
def m_Rg_clear : MethodName × ByteArray × Nat × Option FieldType × List (Nat × Nat × Nat × Nat) := (⟨"DviBytes$Reading", "clear", "()V"⟩, prog_5_method_2_code, 1, none, [])
def m_Rd_readCommands : MethodName × ByteArray × Nat × Option FieldType × List (Nat × Nat × Nat × Nat) := (⟨"DviBytes$Reader", "readCommands", "()I"⟩, prog_4_method_4_code, 5, (some .int), [])
def m_By_at : MethodName × ByteArray × Nat × Option FieldType × List (Nat × Nat × Nat × Nat) := (⟨"DviBytes$Bytes", "at", "(I)I"⟩, prog_2_method_3_code, 2, (some .int), [])
def m_Rd_bytesOfNumber : MethodName × ByteArray × Nat × Option FieldType × List (Nat × Nat × Nat × Nat) := (⟨"DviBytes$Reader", "bytesOfNumber", "(I)I"⟩, prog_4_method_5_code, 3, (some .int), [])
def m_Rd_bytesBehind : MethodName × ByteArray × Nat × Option FieldType × List (Nat × Nat × Nat × Nat) := (⟨"DviBytes$Reader", "bytesBehind", "()I"⟩, prog_4_method_6_code, 4, (some .int), [])
def m_Rd_fixedBytes : MethodName × ByteArray × Nat × Option FieldType × List (Nat × Nat × Nat × Nat) := (⟨"DviBytes$Reader", "fixedBytes", "()I"⟩, prog_4_method_7_code, 1, (some .int), [])
def m_Rd_isDefinition : MethodName × ByteArray × Nat × Option FieldType × List (Nat × Nat × Nat × Nat) := (⟨"DviBytes$Reader", "isDefinition", "()Z"⟩, prog_4_method_9_code, 1, (some .boolean), [])
def m_Rd_bytesOfText : MethodName × ByteArray × Nat × Option FieldType × List (Nat × Nat × Nat × Nat) := (⟨"DviBytes$Reader", "bytesOfText", "(I)I"⟩, prog_4_method_8_code, 2, (some .int), [])
def m_By_number : MethodName × ByteArray × Nat × Option FieldType × List (Nat × Nat × Nat × Nat) := (⟨"DviBytes$Bytes", "number", "(II)I"⟩, prog_2_method_8_code, 5, (some .int), [])
def m_Rd_canStand : MethodName × ByteArray × Nat × Option FieldType × List (Nat × Nat × Nat × Nat) := (⟨"DviBytes$Reader", "canStand", "()Z"⟩, prog_4_method_10_code, 2, (some .boolean), [])
def m_Rd_obey : MethodName × ByteArray × Nat × Option FieldType × List (Nat × Nat × Nat × Nat) := (⟨"DviBytes$Reader", "obey", "()I"⟩, prog_4_method_11_code, 1, (some .int), [])
def m_Rd_obeyMove : MethodName × ByteArray × Nat × Option FieldType × List (Nat × Nat × Nat × Nat) := (⟨"DviBytes$Reader", "obeyMove", "()I"⟩, prog_4_method_15_code, 5, (some .int), [])
def m_By_signedNumber : MethodName × ByteArray × Nat × Option FieldType × List (Nat × Nat × Nat × Nat) := (⟨"DviBytes$Bytes", "signedNumber", "(II)I"⟩, prog_2_method_9_code, 4, (some .int), [])
def m_Rd_grow : MethodName × ByteArray × Nat × Option FieldType × List (Nat × Nat × Nat × Nat) := (⟨"DviBytes$Reader", "grow", "(II)Z"⟩, prog_4_method_14_code, 5, (some .boolean), [])
def m_Dv_isInt : MethodName × ByteArray × Nat × Option FieldType × List (Nat × Nat × Nat × Nat) := (⟨"DviBytes", "isInt", "(J)Z"⟩, prog_1_method_23_code, 2, (some .boolean), [])
def m_Rd_obeyFont : MethodName × ByteArray × Nat × Option FieldType × List (Nat × Nat × Nat × Nat) := (⟨"DviBytes$Reader", "obeyFont", "()I"⟩, prog_4_method_16_code, 2, (some .int), [])
def m_Rg_findFont : MethodName × ByteArray × Nat × Option FieldType × List (Nat × Nat × Nat × Nat) := (⟨"DviBytes$Reading", "findFont", "(I)I"⟩, prog_5_method_9_code, 3, (some .int), [])
def m_Rd_obeyDefinition : MethodName × ByteArray × Nat × Option FieldType × List (Nat × Nat × Nat × Nat) := (⟨"DviBytes$Reader", "obeyDefinition", "()I"⟩, prog_4_method_17_code, 4, (some .int), [])
def m_Rg_isSameFont : MethodName × ByteArray × Nat × Option FieldType × List (Nat × Nat × Nat × Nat) := (⟨"DviBytes$Reading", "isSameFont", "(ILDviBytes$Bytes;I)Z"⟩, prog_5_method_11_code, 6, (some .boolean), [])
def m_Rg_fontPart : MethodName × ByteArray × Nat × Option FieldType × List (Nat × Nat × Nat × Nat) := (⟨"DviBytes$Reading", "fontPart", "(II)I"⟩, prog_5_method_5_code, 4, (some .int), [])
def m_Rg_isIn : MethodName × ByteArray × Nat × Option FieldType × List (Nat × Nat × Nat × Nat) := (⟨"DviBytes$Reading", "isIn", "(III)Z"⟩, prog_5_method_6_code, 3, (some .boolean), [])
def m_Rg_nameLengthAt : MethodName × ByteArray × Nat × Option FieldType × List (Nat × Nat × Nat × Nat) := (⟨"DviBytes$Reading", "nameLengthAt", "(LDviBytes$Bytes;I)I"⟩, prog_5_method_12_code, 2, (some .int), [])
def m_Rg_addFont : MethodName × ByteArray × Nat × Option FieldType × List (Nat × Nat × Nat × Nat) := (⟨"DviBytes$Reading", "addFont", "(ILDviBytes$Bytes;I)Z"⟩, prog_5_method_10_code, 7, (some .boolean), [])
def m_Rd_obeyRule : MethodName × ByteArray × Nat × Option FieldType × List (Nat × Nat × Nat × Nat) := (⟨"DviBytes$Reader", "obeyRule", "()I"⟩, prog_4_method_13_code, 4, (some .int), [])
def m_Rg_addMark : MethodName × ByteArray × Nat × Option FieldType × List (Nat × Nat × Nat × Nat) := (⟨"DviBytes$Reading", "addMark", "(IIIII)Z"⟩, prog_5_method_7_code, 7, (some .boolean), [])
def m_Rd_obeyBegin : MethodName × ByteArray × Nat × Option FieldType × List (Nat × Nat × Nat × Nat) := (⟨"DviBytes$Reader", "obeyBegin", "()I"⟩, prog_4_method_18_code, 2, (some .int), [])
def m_Rg_addPage : MethodName × ByteArray × Nat × Option FieldType × List (Nat × Nat × Nat × Nat) := (⟨"DviBytes$Reading", "addPage", "(LDviBytes$Bytes;I)Z"⟩, prog_5_method_8_code, 4, (some .boolean), [])
def m_Rd_obeyPush : MethodName × ByteArray × Nat × Option FieldType × List (Nat × Nat × Nat × Nat) := (⟨"DviBytes$Reader", "obeyPush", "()I"⟩, prog_4_method_19_code, 2, (some .int), [])
def m_Rd_obeyPop : MethodName × ByteArray × Nat × Option FieldType × List (Nat × Nat × Nat × Nat) := (⟨"DviBytes$Reader", "obeyPop", "()I"⟩, prog_4_method_20_code, 2, (some .int), [])
def m_Rd_obeyLast : MethodName × ByteArray × Nat × Option FieldType × List (Nat × Nat × Nat × Nat) := (⟨"DviBytes$Reader", "obeyLast", "()I"⟩, prog_4_method_21_code, 2, (some .int), [])
def m_Rd_obeyCharacter : MethodName × ByteArray × Nat × Option FieldType × List (Nat × Nat × Nat × Nat) := (⟨"DviBytes$Reader", "obeyCharacter", "()I"⟩, prog_4_method_12_code, 4, (some .int), [])
def m_Wi_of : MethodName × ByteArray × Nat × Option FieldType × List (Nat × Nat × Nat × Nat) := (⟨"DviBytes$Widths", "of", "(II)I"⟩, prog_8_method_2_code, 3, (some .int), [])
def m_Dv_isByte : MethodName × ByteArray × Nat × Option FieldType × List (Nat × Nat × Nat × Nat) := (⟨"DviBytes", "isByte", "(I)Z"⟩, prog_1_method_20_code, 1, (some .boolean), [])
def m_Rd_place : MethodName × ByteArray × Nat × Option FieldType × List (Nat × Nat × Nat × Nat) := (⟨"DviBytes$Reader", "place", "()I"⟩, prog_4_method_3_code, 1, (some .int), [])
def m_La_font : MethodName × ByteArray × Nat × Option FieldType × List (Nat × Nat × Nat × Nat) := (⟨"DviBytesLaw", "font", "(LDviBytes;IIIIJJI)I"⟩, method_3_code, 11, (some .int), [((0 : Nat), (15 : Nat), (18 : Nat), (13 : Nat)), ((0 : Nat), (15 : Nat), (22 : Nat), (15 : Nat))])
def m_Dv_font : MethodName × ByteArray × Nat × Option FieldType × List (Nat × Nat × Nat × Nat) := (⟨"DviBytes", "font", "(IIIIJJI)V"⟩, prog_1_method_2_code, 10, none, [])
def m_Dv_isName : MethodName × ByteArray × Nat × Option FieldType × List (Nat × Nat × Nat × Nat) := (⟨"DviBytes", "isName", "(JJI)Z"⟩, prog_1_method_24_code, 7, (some .boolean), [])
def m_Dv_letterOf : MethodName × ByteArray × Nat × Option FieldType × List (Nat × Nat × Nat × Nat) := (⟨"DviBytes", "letterOf", "(JJI)I"⟩, prog_1_method_25_code, 7, (some .int), [])
def m_Wr_hasTold : MethodName × ByteArray × Nat × Option FieldType × List (Nat × Nat × Nat × Nat) := (⟨"DviBytes$Writer", "hasTold", "(I)Z"⟩, prog_9_method_5_code, 2, (some .boolean), [])
def m_Fo_define : MethodName × ByteArray × Nat × Option FieldType × List (Nat × Nat × Nat × Nat) := (⟨"DviBytes$Fonts", "define", "(IIII)V"⟩, prog_3_method_3_code, 5, none, [])
def m_Fo_call : MethodName × ByteArray × Nat × Option FieldType × List (Nat × Nat × Nat × Nat) := (⟨"DviBytes$Fonts", "call", "(IJJI)V"⟩, prog_3_method_4_code, 7, none, [])
def m_La_width : MethodName × ByteArray × Nat × Option FieldType × List (Nat × Nat × Nat × Nat) := (⟨"DviBytesLaw", "width", "(LDviBytes;III)I"⟩, method_4_code, 5, (some .int), [((0 : Nat), (7 : Nat), (10 : Nat), (13 : Nat))])
def m_Dv_width : MethodName × ByteArray × Nat × Option FieldType × List (Nat × Nat × Nat × Nat) := (⟨"DviBytes", "width", "(III)V"⟩, prog_1_method_3_code, 4, none, [])
def m_Wi_change : MethodName × ByteArray × Nat × Option FieldType × List (Nat × Nat × Nat × Nat) := (⟨"DviBytes$Widths", "change", "(III)V"⟩, prog_8_method_3_code, 4, none, [])
def m_La_count : MethodName × ByteArray × Nat × Option FieldType × List (Nat × Nat × Nat × Nat) := (⟨"DviBytesLaw", "count", "(LDviBytes;II)I"⟩, method_5_code, 4, (some .int), [((0 : Nat), (6 : Nat), (9 : Nat), (13 : Nat))])
def m_Dv_count : MethodName × ByteArray × Nat × Option FieldType × List (Nat × Nat × Nat × Nat) := (⟨"DviBytes", "count", "(II)V"⟩, prog_1_method_4_code, 3, none, [])
def m_La_begin : MethodName × ByteArray × Nat × Option FieldType × List (Nat × Nat × Nat × Nat) := (⟨"DviBytesLaw", "begin", "(LDviBytes;II)I"⟩, method_6_code, 4, (some .int), [((0 : Nat), (6 : Nat), (9 : Nat), (13 : Nat))])
def m_Dv_begin : MethodName × ByteArray × Nat × Option FieldType × List (Nat × Nat × Nat × Nat) := (⟨"DviBytes", "begin", "(II)V"⟩, prog_1_method_5_code, 3, none, [])
def m_Wr_restart : MethodName × ByteArray × Nat × Option FieldType × List (Nat × Nat × Nat × Nat) := (⟨"DviBytes$Writer", "restart", "(II)V"⟩, prog_9_method_6_code, 3, none, [])
def m_Wr_goBack : MethodName × ByteArray × Nat × Option FieldType × List (Nat × Nat × Nat × Nat) := (⟨"DviBytes$Writer", "goBack", "(II)V"⟩, prog_9_method_7_code, 5, none, [])
def m_Sh_clear : MethodName × ByteArray × Nat × Option FieldType × List (Nat × Nat × Nat × Nat) := (⟨"DviBytes$Sheet", "clear", "()V"⟩, prog_6_method_12_code, 1, none, [])
def m_La_put : MethodName × ByteArray × Nat × Option FieldType × List (Nat × Nat × Nat × Nat) := (⟨"DviBytesLaw", "put", "(LDviBytes;IIII[J)I"⟩, method_7_code, 7, (some .int), [((0 : Nat), (14 : Nat), (17 : Nat), (13 : Nat)), ((0 : Nat), (14 : Nat), (21 : Nat), (32 : Nat))])
def m_Dv_put : MethodName × ByteArray × Nat × Option FieldType × List (Nat × Nat × Nat × Nat) := (⟨"DviBytes", "put", "(IIII)I"⟩, prog_1_method_6_code, 5, (some .int), [])
def m_Fo_isDefined : MethodName × ByteArray × Nat × Option FieldType × List (Nat × Nat × Nat × Nat) := (⟨"DviBytes$Fonts", "isDefined", "(I)Z"⟩, prog_3_method_2_code, 2, (some .boolean), [])
def m_Dv_isNear : MethodName × ByteArray × Nat × Option FieldType × List (Nat × Nat × Nat × Nat) := (⟨"DviBytes", "isNear", "(I)Z"⟩, prog_1_method_21_code, 1, (some .boolean), [])
def m_Sh_isFull : MethodName × ByteArray × Nat × Option FieldType × List (Nat × Nat × Nat × Nat) := (⟨"DviBytes$Sheet", "isFull", "()Z"⟩, prog_6_method_2_code, 1, (some .boolean), [])
def m_Sh_add : MethodName × ByteArray × Nat × Option FieldType × List (Nat × Nat × Nat × Nat) := (⟨"DviBytes$Sheet", "add", "(IIIII)I"⟩, prog_6_method_4_code, 7, (some .int), [])
def m_La_rule : MethodName × ByteArray × Nat × Option FieldType × List (Nat × Nat × Nat × Nat) := (⟨"DviBytesLaw", "rule", "(LDviBytes;IIII[J)I"⟩, method_8_code, 7, (some .int), [((0 : Nat), (14 : Nat), (17 : Nat), (13 : Nat)), ((0 : Nat), (14 : Nat), (21 : Nat), (32 : Nat))])
def m_Dv_rule : MethodName × ByteArray × Nat × Option FieldType × List (Nat × Nat × Nat × Nat) := (⟨"DviBytes", "rule", "(IIII)I"⟩, prog_1_method_7_code, 5, (some .int), [])
def m_Dv_isExtent : MethodName × ByteArray × Nat × Option FieldType × List (Nat × Nat × Nat × Nat) := (⟨"DviBytes", "isExtent", "(I)Z"⟩, prog_1_method_22_code, 1, (some .boolean), [])
def m_La_ship : MethodName × ByteArray × Nat × Option FieldType × List (Nat × Nat × Nat × Nat) := (⟨"DviBytesLaw", "ship", "(LDviBytes;[J)I"⟩, method_9_code, 3, (some .int), [((0 : Nat), (8 : Nat), (11 : Nat), (15 : Nat)), ((0 : Nat), (8 : Nat), (14 : Nat), (41 : Nat)), ((0 : Nat), (8 : Nat), (17 : Nat), (32 : Nat))])
def m_Dv_ship : MethodName × ByteArray × Nat × Option FieldType × List (Nat × Nat × Nat × Nat) := (⟨"DviBytes", "ship", "()I"⟩, prog_1_method_8_code, 1, (some .int), [])
def m_Wr_isClosed : MethodName × ByteArray × Nat × Option FieldType × List (Nat × Nat × Nat × Nat) := (⟨"DviBytes$Writer", "isClosed", "()Z"⟩, prog_9_method_3_code, 1, (some .boolean), [])
def m_Wr_planPage : MethodName × ByteArray × Nat × Option FieldType × List (Nat × Nat × Nat × Nat) := (⟨"DviBytes$Writer", "planPage", "(LDviBytes$Sheet;)Z"⟩, prog_9_method_8_code, 11, (some .boolean), [])
def m_Wa_clear : MethodName × ByteArray × Nat × Option FieldType × List (Nat × Nat × Nat × Nat) := (⟨"DviBytes$Way", "clear", "()V"⟩, prog_7_method_2_code, 1, none, [])
def m_Sh_length : MethodName × ByteArray × Nat × Option FieldType × List (Nat × Nat × Nat × Nat) := (⟨"DviBytes$Sheet", "length", "()I"⟩, prog_6_method_3_code, 1, (some .int), [])
def m_Sh_x : MethodName × ByteArray × Nat × Option FieldType × List (Nat × Nat × Nat × Nat) := (⟨"DviBytes$Sheet", "x", "(I)I"⟩, prog_6_method_10_code, 2, (some .int), [])
def m_Sh_part : MethodName × ByteArray × Nat × Option FieldType × List (Nat × Nat × Nat × Nat) := (⟨"DviBytes$Sheet", "part", "(II)I"⟩, prog_6_method_5_code, 4, (some .int), [])
def m_Sh_y : MethodName × ByteArray × Nat × Option FieldType × List (Nat × Nat × Nat × Nat) := (⟨"DviBytes$Sheet", "y", "(I)I"⟩, prog_6_method_11_code, 2, (some .int), [])
def m_Wr_growth : MethodName × ByteArray × Nat × Option FieldType × List (Nat × Nat × Nat × Nat) := (⟨"DviBytes$Writer", "growth", "(LDviBytes$Sheet;I)I"⟩, prog_9_method_9_code, 3, (some .int), [])
def m_Sh_isRule : MethodName × ByteArray × Nat × Option FieldType × List (Nat × Nat × Nat × Nat) := (⟨"DviBytes$Sheet", "isRule", "(I)Z"⟩, prog_6_method_6_code, 2, (some .boolean), [])
def m_Sh_fontOf : MethodName × ByteArray × Nat × Option FieldType × List (Nat × Nat × Nat × Nat) := (⟨"DviBytes$Sheet", "fontOf", "(I)I"⟩, prog_6_method_7_code, 2, (some .int), [])
def m_Sh_characterOrWidth : MethodName × ByteArray × Nat × Option FieldType × List (Nat × Nat × Nat × Nat) := (⟨"DviBytes$Sheet", "characterOrWidth", "(I)I"⟩, prog_6_method_8_code, 2, (some .int), [])
def m_Wa_plan : MethodName × ByteArray × Nat × Option FieldType × List (Nat × Nat × Nat × Nat) := (⟨"DviBytes$Way", "plan", "(I)V"⟩, prog_7_method_3_code, 2, none, [])
def m_Wr_writePage : MethodName × ByteArray × Nat × Option FieldType × List (Nat × Nat × Nat × Nat) := (⟨"DviBytes$Writer", "writePage", "(LDviBytes$Sheet;[I)Z"⟩, prog_9_method_10_code, 7, (some .boolean), [])
def m_Wr_writeStart : MethodName × ByteArray × Nat × Option FieldType × List (Nat × Nat × Nat × Nat) := (⟨"DviBytes$Writer", "writeStart", "()V"⟩, prog_9_method_11_code, 2, none, [])
def m_Wr_writeScale : MethodName × ByteArray × Nat × Option FieldType × List (Nat × Nat × Nat × Nat) := (⟨"DviBytes$Writer", "writeScale", "()V"⟩, prog_9_method_12_code, 1, none, [])
def m_By_addNumber : MethodName × ByteArray × Nat × Option FieldType × List (Nat × Nat × Nat × Nat) := (⟨"DviBytes$Bytes", "addNumber", "(II)V"⟩, prog_2_method_5_code, 4, none, [])
def m_Wr_writeMarks : MethodName × ByteArray × Nat × Option FieldType × List (Nat × Nat × Nat × Nat) := (⟨"DviBytes$Writer", "writeMarks", "(LDviBytes$Sheet;)V"⟩, prog_9_method_13_code, 4, none, [])
def m_Wa_write : MethodName × ByteArray × Nat × Option FieldType × List (Nat × Nat × Nat × Nat) := (⟨"DviBytes$Way", "write", "(ILDviBytes$Bytes;)V"⟩, prog_7_method_4_code, 4, none, [])
def m_Wa_comesBehind : MethodName × ByteArray × Nat × Option FieldType × List (Nat × Nat × Nat × Nat) := (⟨"DviBytes$Way", "comesBehind", "(II)Z"⟩, prog_7_method_5_code, 4, (some .boolean), [])
def m_By_addShortest : MethodName × ByteArray × Nat × Option FieldType × List (Nat × Nat × Nat × Nat) := (⟨"DviBytes$Bytes", "addShortest", "(II)V"⟩, prog_2_method_6_code, 4, none, [])
def m_By_bytesFor : MethodName × ByteArray × Nat × Option FieldType × List (Nat × Nat × Nat × Nat) := (⟨"DviBytes$Bytes", "bytesFor", "(I)I"⟩, prog_2_method_7_code, 1, (some .int), [])
def m_Sh_height : MethodName × ByteArray × Nat × Option FieldType × List (Nat × Nat × Nat × Nat) := (⟨"DviBytes$Sheet", "height", "(I)I"⟩, prog_6_method_9_code, 2, (some .int), [])
def m_Wr_writeFont : MethodName × ByteArray × Nat × Option FieldType × List (Nat × Nat × Nat × Nat) := (⟨"DviBytes$Writer", "writeFont", "(I)V"⟩, prog_9_method_14_code, 2, none, [])
def m_Fo_writeDefinition : MethodName × ByteArray × Nat × Option FieldType × List (Nat × Nat × Nat × Nat) := (⟨"DviBytes$Fonts", "writeDefinition", "(ILDviBytes$Bytes;)V"⟩, prog_3_method_5_code, 4, none, [])
def m_Wr_remember : MethodName × ByteArray × Nat × Option FieldType × List (Nat × Nat × Nat × Nat) := (⟨"DviBytes$Writer", "remember", "(I)V"⟩, prog_9_method_15_code, 2, none, [])
def m_Wr_writeCharacter : MethodName × ByteArray × Nat × Option FieldType × List (Nat × Nat × Nat × Nat) := (⟨"DviBytes$Writer", "writeCharacter", "(I)V"⟩, prog_9_method_16_code, 2, none, [])
def m_Wr_pageCount : MethodName × ByteArray × Nat × Option FieldType × List (Nat × Nat × Nat × Nat) := (⟨"DviBytes$Writer", "pageCount", "()I"⟩, prog_9_method_4_code, 1, (some .int), [])
def m_La_close : MethodName × ByteArray × Nat × Option FieldType × List (Nat × Nat × Nat × Nat) := (⟨"DviBytesLaw", "close", "(LDviBytes;[J)I"⟩, method_10_code, 3, (some .int), [((0 : Nat), (8 : Nat), (11 : Nat), (15 : Nat))])
def m_Dv_close : MethodName × ByteArray × Nat × Option FieldType × List (Nat × Nat × Nat × Nat) := (⟨"DviBytes", "close", "()I"⟩, prog_1_method_9_code, 1, (some .int), [])
def m_Wr_writeEnd : MethodName × ByteArray × Nat × Option FieldType × List (Nat × Nat × Nat × Nat) := (⟨"DviBytes$Writer", "writeEnd", "()I"⟩, prog_9_method_17_code, 3, (some .int), [])
def m_La_out : MethodName × ByteArray × Nat × Option FieldType × List (Nat × Nat × Nat × Nat) := (⟨"DviBytesLaw", "out", "(LDviBytes;I[J)I"⟩, method_11_code, 4, (some .int), [((0 : Nat), (9 : Nat), (12 : Nat), (50 : Nat))])
def m_Dv_out : MethodName × ByteArray × Nat × Option FieldType × List (Nat × Nat × Nat × Nat) := (⟨"DviBytes", "out", "(I)I"⟩, prog_1_method_11_code, 2, (some .int), [])
def m_La_about : MethodName × ByteArray × Nat × Option FieldType × List (Nat × Nat × Nat × Nat) := (⟨"DviBytesLaw", "about", "(LDviBytes;I[J)I"⟩, method_12_code, 4, (some .int), [((0 : Nat), (9 : Nat), (12 : Nat), (50 : Nat))])
def m_Dv_about : MethodName × ByteArray × Nat × Option FieldType × List (Nat × Nat × Nat × Nat) := (⟨"DviBytes", "about", "(I)I"⟩, prog_1_method_16_code, 2, (some .int), [])
def m_La_mark : MethodName × ByteArray × Nat × Option FieldType × List (Nat × Nat × Nat × Nat) := (⟨"DviBytesLaw", "mark", "(LDviBytes;II[J)I"⟩, method_13_code, 5, (some .int), [((0 : Nat), (10 : Nat), (13 : Nat), (50 : Nat))])
def m_Dv_mark : MethodName × ByteArray × Nat × Option FieldType × List (Nat × Nat × Nat × Nat) := (⟨"DviBytes", "mark", "(II)I"⟩, prog_1_method_17_code, 3, (some .int), [])
def m_Rg_markPart : MethodName × ByteArray × Nat × Option FieldType × List (Nat × Nat × Nat × Nat) := (⟨"DviBytes$Reading", "markPart", "(II)I"⟩, prog_5_method_3_code, 4, (some .int), [])
def m_La_page : MethodName × ByteArray × Nat × Option FieldType × List (Nat × Nat × Nat × Nat) := (⟨"DviBytesLaw", "page", "(LDviBytes;II[J)I"⟩, method_14_code, 5, (some .int), [((0 : Nat), (10 : Nat), (13 : Nat), (50 : Nat))])
def m_Dv_page : MethodName × ByteArray × Nat × Option FieldType × List (Nat × Nat × Nat × Nat) := (⟨"DviBytes", "page", "(II)I"⟩, prog_1_method_18_code, 3, (some .int), [])
def m_Rg_pagePart : MethodName × ByteArray × Nat × Option FieldType × List (Nat × Nat × Nat × Nat) := (⟨"DviBytes$Reading", "pagePart", "(II)I"⟩, prog_5_method_4_code, 4, (some .int), [])
def m_La_told : MethodName × ByteArray × Nat × Option FieldType × List (Nat × Nat × Nat × Nat) := (⟨"DviBytesLaw", "told", "(LDviBytes;II[J)I"⟩, method_15_code, 5, (some .int), [((0 : Nat), (10 : Nat), (13 : Nat), (50 : Nat))])
def m_Dv_told : MethodName × ByteArray × Nat × Option FieldType × List (Nat × Nat × Nat × Nat) := (⟨"DviBytes", "told", "(II)I"⟩, prog_1_method_19_code, 3, (some .int), [])
def m_Mo_init : MethodName × ByteArray × Nat × Option FieldType × List (Nat × Nat × Nat × Nat) := (⟨"DviBytesModel", "<init>", "()V"⟩, prog_11_method_1_code, 1, none, [])
def m_Mo_thrown : MethodName × ByteArray × Nat × Option FieldType × List (Nat × Nat × Nat × Nat) := (⟨"DviBytesModel", "thrown", "()I"⟩, prog_11_method_2_code, 1, (some .int), [])
def m_Mo_font : MethodName × ByteArray × Nat × Option FieldType × List (Nat × Nat × Nat × Nat) := (⟨"DviBytesModel", "font", "(IIIIJJI)V"⟩, prog_11_method_6_code, 12, none, [])
def m_Mo_isByte : MethodName × ByteArray × Nat × Option FieldType × List (Nat × Nat × Nat × Nat) := (⟨"DviBytesModel", "isByte", "(I)Z"⟩, prog_11_method_3_code, 1, (some .boolean), [])
def m_Mo_letter : MethodName × ByteArray × Nat × Option FieldType × List (Nat × Nat × Nat × Nat) := (⟨"DviBytesModel", "letter", "(JJI)I"⟩, prog_11_method_5_code, 5, (some .int), [])
def m_Mo_isTold : MethodName × ByteArray × Nat × Option FieldType × List (Nat × Nat × Nat × Nat) := (⟨"DviBytesModel", "isTold", "(I)Z"⟩, prog_11_method_4_code, 4, (some .boolean), [])
def m_Mo_width : MethodName × ByteArray × Nat × Option FieldType × List (Nat × Nat × Nat × Nat) := (⟨"DviBytesModel", "width", "(III)V"⟩, prog_11_method_7_code, 4, none, [])
def m_Mo_count : MethodName × ByteArray × Nat × Option FieldType × List (Nat × Nat × Nat × Nat) := (⟨"DviBytesModel", "count", "(II)V"⟩, prog_11_method_8_code, 3, none, [])
def m_Mo_begin : MethodName × ByteArray × Nat × Option FieldType × List (Nat × Nat × Nat × Nat) := (⟨"DviBytesModel", "begin", "(II)V"⟩, prog_11_method_9_code, 3, none, [])
def m_Mo_put : MethodName × ByteArray × Nat × Option FieldType × List (Nat × Nat × Nat × Nat) := (⟨"DviBytesModel", "put", "(IIII)I"⟩, prog_11_method_12_code, 5, (some .int), [])
def m_Mo_isPlace : MethodName × ByteArray × Nat × Option FieldType × List (Nat × Nat × Nat × Nat) := (⟨"DviBytesModel", "isPlace", "(I)Z"⟩, prog_11_method_10_code, 1, (some .boolean), [])
def m_Mo_mark5 : MethodName × ByteArray × Nat × Option FieldType × List (Nat × Nat × Nat × Nat) := (⟨"DviBytesModel", "mark", "(IIIII)I"⟩, prog_11_method_11_code, 6, (some .int), [])
def m_Mo_rule : MethodName × ByteArray × Nat × Option FieldType × List (Nat × Nat × Nat × Nat) := (⟨"DviBytesModel", "rule", "(IIII)I"⟩, prog_11_method_13_code, 5, (some .int), [])
def m_Mo_ship : MethodName × ByteArray × Nat × Option FieldType × List (Nat × Nat × Nat × Nat) := (⟨"DviBytesModel", "ship", "()I"⟩, prog_11_method_24_code, 5, (some .int), [])
def m_Mo_findMoves : MethodName × ByteArray × Nat × Option FieldType × List (Nat × Nat × Nat × Nat) := (⟨"DviBytesModel", "findMoves", "()Z"⟩, prog_11_method_17_code, 8, (some .boolean), [])
def m_Mo_isInt : MethodName × ByteArray × Nat × Option FieldType × List (Nat × Nat × Nat × Nat) := (⟨"DviBytesModel", "isInt", "(J)Z"⟩, prog_11_method_16_code, 2, (some .boolean), [])
def m_Mo_writePage : MethodName × ByteArray × Nat × Option FieldType × List (Nat × Nat × Nat × Nat) := (⟨"DviBytesModel", "writePage", "()V"⟩, prog_11_method_23_code, 5, none, [])
def m_Mo_open : MethodName × ByteArray × Nat × Option FieldType × List (Nat × Nat × Nat × Nat) := (⟨"DviBytesModel", "open", "()V"⟩, prog_11_method_22_code, 2, none, [])
def m_Mo_lay : MethodName × ByteArray × Nat × Option FieldType × List (Nat × Nat × Nat × Nat) := (⟨"DviBytesModel", "lay", "(I)V"⟩, prog_11_method_14_code, 2, none, [])
def m_Mo_layNumber : MethodName × ByteArray × Nat × Option FieldType × List (Nat × Nat × Nat × Nat) := (⟨"DviBytesModel", "layNumber", "(II)V"⟩, prog_11_method_15_code, 4, none, [])
def m_Mo_move : MethodName × ByteArray × Nat × Option FieldType × List (Nat × Nat × Nat × Nat) := (⟨"DviBytesModel", "move", "([IIII)V"⟩, prog_11_method_20_code, 8, none, [])
def m_Mo_bytesOf : MethodName × ByteArray × Nat × Option FieldType × List (Nat × Nat × Nat × Nat) := (⟨"DviBytesModel", "bytesOf", "(I)I"⟩, prog_11_method_19_code, 1, (some .int), [])
def m_Mo_comes : MethodName × ByteArray × Nat × Option FieldType × List (Nat × Nat × Nat × Nat) := (⟨"DviBytesModel", "comes", "([III)Z"⟩, prog_11_method_18_code, 6, (some .boolean), [])
def m_Mo_define : MethodName × ByteArray × Nat × Option FieldType × List (Nat × Nat × Nat × Nat) := (⟨"DviBytesModel", "define", "(I)V"⟩, prog_11_method_21_code, 3, none, [])
def m_Mo_close : MethodName × ByteArray × Nat × Option FieldType × List (Nat × Nat × Nat × Nat) := (⟨"DviBytesModel", "close", "()I"⟩, prog_11_method_25_code, 3, (some .int), [])
def m_Mo_size : MethodName × ByteArray × Nat × Option FieldType × List (Nat × Nat × Nat × Nat) := (⟨"DviBytesModel", "size", "()I"⟩, prog_11_method_26_code, 1, (some .int), [])
def m_Mo_out : MethodName × ByteArray × Nat × Option FieldType × List (Nat × Nat × Nat × Nat) := (⟨"DviBytesModel", "out", "(I)I"⟩, prog_11_method_27_code, 2, (some .int), [])
def m_Mo_feed : MethodName × ByteArray × Nat × Option FieldType × List (Nat × Nat × Nat × Nat) := (⟨"DviBytesModel", "feed", "(JI)Z"⟩, prog_11_method_28_code, 5, (some .boolean), [])
def m_Mo_keep : MethodName × ByteArray × Nat × Option FieldType × List (Nat × Nat × Nat × Nat) := (⟨"DviBytesModel", "keep", "(I)Z"⟩, prog_11_method_29_code, 2, (some .boolean), [])
def m_Mo_copy : MethodName × ByteArray × Nat × Option FieldType × List (Nat × Nat × Nat × Nat) := (⟨"DviBytesModel", "copy", "()I"⟩, prog_11_method_30_code, 2, (some .int), [])
def m_Mo_read : MethodName × ByteArray × Nat × Option FieldType × List (Nat × Nat × Nat × Nat) := (⟨"DviBytesModel", "read", "()I"⟩, prog_11_method_58_code, 2, (some .int), [])
def m_Mo_forget : MethodName × ByteArray × Nat × Option FieldType × List (Nat × Nat × Nat × Nat) := (⟨"DviBytesModel", "forget", "()V"⟩, prog_11_method_57_code, 1, none, [])
def m_Mo_goThrough : MethodName × ByteArray × Nat × Option FieldType × List (Nat × Nat × Nat × Nat) := (⟨"DviBytesModel", "goThrough", "()I"⟩, prog_11_method_56_code, 4, (some .int), [])
def m_Mo_fault : MethodName × ByteArray × Nat × Option FieldType × List (Nat × Nat × Nat × Nat) := (⟨"DviBytesModel", "fault", "(II)I"⟩, prog_11_method_55_code, 2, (some .int), [])
def m_Mo_byteAt : MethodName × ByteArray × Nat × Option FieldType × List (Nat × Nat × Nat × Nat) := (⟨"DviBytesModel", "byteAt", "(I)I"⟩, prog_11_method_31_code, 2, (some .int), [])
def m_Mo_length : MethodName × ByteArray × Nat × Option FieldType × List (Nat × Nat × Nat × Nat) := (⟨"DviBytesModel", "length", "()I"⟩, prog_11_method_34_code, 6, (some .int), [])
def m_Mo_among : MethodName × ByteArray × Nat × Option FieldType × List (Nat × Nat × Nat × Nat) := (⟨"DviBytesModel", "among", "(II)I"⟩, prog_11_method_33_code, 2, (some .int), [])
def m_Mo_moveBytes : MethodName × ByteArray × Nat × Option FieldType × List (Nat × Nat × Nat × Nat) := (⟨"DviBytesModel", "moveBytes", "(I)I"⟩, prog_11_method_35_code, 1, (some .int), [])
def m_Mo_number : MethodName × ByteArray × Nat × Option FieldType × List (Nat × Nat × Nat × Nat) := (⟨"DviBytesModel", "number", "(IIZ)I"⟩, prog_11_method_32_code, 6, (some .int), [])
def m_Mo_mayStand : MethodName × ByteArray × Nat × Option FieldType × List (Nat × Nat × Nat × Nat) := (⟨"DviBytesModel", "mayStand", "(I)Z"⟩, prog_11_method_37_code, 2, (some .boolean), [])
def m_Mo_isFontTold : MethodName × ByteArray × Nat × Option FieldType × List (Nat × Nat × Nat × Nat) := (⟨"DviBytesModel", "isFontTold", "(I)Z"⟩, prog_11_method_36_code, 2, (some .boolean), [])
def m_Mo_within : MethodName × ByteArray × Nat × Option FieldType × List (Nat × Nat × Nat × Nat) := (⟨"DviBytesModel", "within", "(I)I"⟩, prog_11_method_53_code, 2, (some .int), [])
def m_Mo_setCharacter : MethodName × ByteArray × Nat × Option FieldType × List (Nat × Nat × Nat × Nat) := (⟨"DviBytesModel", "setCharacter", "(IZ)I"⟩, prog_11_method_47_code, 4, (some .int), [])
def m_Mo_noteMark : MethodName × ByteArray × Nat × Option FieldType × List (Nat × Nat × Nat × Nat) := (⟨"DviBytesModel", "noteMark", "(III)V"⟩, prog_11_method_46_code, 5, none, [])
def m_Mo_add : MethodName × ByteArray × Nat × Option FieldType × List (Nat × Nat × Nat × Nat) := (⟨"DviBytesModel", "add", "(II)I"⟩, prog_11_method_45_code, 5, (some .int), [])
def m_Mo_setRule : MethodName × ByteArray × Nat × Option FieldType × List (Nat × Nat × Nat × Nat) := (⟨"DviBytesModel", "setRule", "(Z)I"⟩, prog_11_method_48_code, 5, (some .int), [])
def m_Mo_push : MethodName × ByteArray × Nat × Option FieldType × List (Nat × Nat × Nat × Nat) := (⟨"DviBytesModel", "push", "()I"⟩, prog_11_method_50_code, 2, (some .int), [])
def m_Mo_pop : MethodName × ByteArray × Nat × Option FieldType × List (Nat × Nat × Nat × Nat) := (⟨"DviBytesModel", "pop", "()I"⟩, prog_11_method_51_code, 2, (some .int), [])
def m_Mo_moveBy : MethodName × ByteArray × Nat × Option FieldType × List (Nat × Nat × Nat × Nat) := (⟨"DviBytesModel", "moveBy", "(I)I"⟩, prog_11_method_49_code, 7, (some .int), [])
def m_Mo_take : MethodName × ByteArray × Nat × Option FieldType × List (Nat × Nat × Nat × Nat) := (⟨"DviBytesModel", "take", "(I)I"⟩, prog_11_method_52_code, 2, (some .int), [])
def m_Mo_fontAt : MethodName × ByteArray × Nat × Option FieldType × List (Nat × Nat × Nat × Nat) := (⟨"DviBytesModel", "fontAt", "(I)I"⟩, prog_11_method_38_code, 4, (some .int), [])
def m_Mo_tell : MethodName × ByteArray × Nat × Option FieldType × List (Nat × Nat × Nat × Nat) := (⟨"DviBytesModel", "tell", "()I"⟩, prog_11_method_42_code, 3, (some .int), [])
def m_Mo_isSame : MethodName × ByteArray × Nat × Option FieldType × List (Nat × Nat × Nat × Nat) := (⟨"DviBytesModel", "isSame", "(II)Z"⟩, prog_11_method_41_code, 7, (some .boolean), [])
def m_Mo_nameSize : MethodName × ByteArray × Nat × Option FieldType × List (Nat × Nat × Nat × Nat) := (⟨"DviBytesModel", "nameSize", "(I)I"⟩, prog_11_method_40_code, 3, (some .int), [])
def m_Mo_behindNumber : MethodName × ByteArray × Nat × Option FieldType × List (Nat × Nat × Nat × Nat) := (⟨"DviBytesModel", "behindNumber", "(I)I"⟩, prog_11_method_39_code, 2, (some .int), [])
def m_Mo_outside : MethodName × ByteArray × Nat × Option FieldType × List (Nat × Nat × Nat × Nat) := (⟨"DviBytesModel", "outside", "(I)I"⟩, prog_11_method_54_code, 2, (some .int), [])
def m_Mo_beginPage : MethodName × ByteArray × Nat × Option FieldType × List (Nat × Nat × Nat × Nat) := (⟨"DviBytesModel", "beginPage", "()I"⟩, prog_11_method_43_code, 2, (some .int), [])
def m_Mo_post : MethodName × ByteArray × Nat × Option FieldType × List (Nat × Nat × Nat × Nat) := (⟨"DviBytesModel", "post", "()I"⟩, prog_11_method_44_code, 3, (some .int), [])
def m_Mo_about : MethodName × ByteArray × Nat × Option FieldType × List (Nat × Nat × Nat × Nat) := (⟨"DviBytesModel", "about", "(I)I"⟩, prog_11_method_59_code, 2, (some .int), [])
def m_Mo_mark2 : MethodName × ByteArray × Nat × Option FieldType × List (Nat × Nat × Nat × Nat) := (⟨"DviBytesModel", "mark", "(II)I"⟩, prog_11_method_60_code, 3, (some .int), [])
def m_Mo_page : MethodName × ByteArray × Nat × Option FieldType × List (Nat × Nat × Nat × Nat) := (⟨"DviBytesModel", "page", "(II)I"⟩, prog_11_method_61_code, 3, (some .int), [])
def m_Mo_told : MethodName × ByteArray × Nat × Option FieldType × List (Nat × Nat × Nat × Nat) := (⟨"DviBytesModel", "told", "(II)I"⟩, prog_11_method_62_code, 5, (some .int), [])
def xstrs : List (String × Nat × String) := [("DviBytes", 76, "no such font or name"), ("DviBytes", 86, "the font was told in the file"), ("DviBytes", 97, "no such font or character"), ("DviBytes", 103, "no such count"), ("DviBytes", 105, "no such comment"), ("DviBytes", 120, "no such font, character or place"), ("DviBytes", 128, "the page is full"), ("DviBytes", 138, "no such place or rule"), ("DviBytes", 143, "the file is closed"), ("DviBytes", 151, "a place or a move passes an int"), ("DviBytes", 158, "the file would be too long"), ("DviBytes", 176, "no such byte"), ("DviBytes", 226, "nothing is told of that"), ("DviBytes", 228, "no such mark, or part of one"), ("DviBytes", 234, "no such page or count"), ("DviBytes", 239, "no such font, or part of one")]
def xzq : List (String × String × String) := [(Bundle.tN, "UNASSIGNED_STACK", Bundle.steD), (Bundle.tN, "SUPPRESSED_SENTINEL", Bundle.listD)]
theorem xzq_U : (Bundle.tN, "UNASSIGNED_STACK", Bundle.steD) ∈ xzq := List.mem_cons_self
theorem xzq_S : (Bundle.tN, "SUPPRESSED_SENTINEL", Bundle.listD) ∈ xzq := List.mem_cons_of_mem _ List.mem_cons_self
def xfam : Nat → Int32 := fun j => ([128, 133, 143, 148, 153, 157, 162, 167, 235, 239, 243] : List Int32).getD j 0
def xsa : List (String × String × String × Nat × Nat × (Nat → Int32)) := [("DviBytes$Reader", "FAMILIES", "[I", 1000001, 11, xfam)]
def xnc : List (String × String) := [("java/lang/ArithmeticException", "java/lang/IllegalArgumentException"), ("java/lang/ArithmeticException", "java/lang/IllegalStateException"), ("java/lang/ArithmeticException", "java/lang/IndexOutOfBoundsException"), ("java/lang/ArithmeticException", "java/lang/UnsupportedOperationException"), ("java/lang/IllegalArgumentException", "java/lang/ArithmeticException"), ("java/lang/IllegalArgumentException", "java/lang/IllegalStateException"), ("java/lang/IllegalArgumentException", "java/lang/IndexOutOfBoundsException"), ("java/lang/IllegalArgumentException", "java/lang/UnsupportedOperationException"), ("java/lang/IllegalStateException", "java/lang/ArithmeticException"), ("java/lang/IllegalStateException", "java/lang/IllegalArgumentException"), ("java/lang/IllegalStateException", "java/lang/IndexOutOfBoundsException"), ("java/lang/IllegalStateException", "java/lang/UnsupportedOperationException"), ("java/lang/IndexOutOfBoundsException", "java/lang/ArithmeticException"), ("java/lang/IndexOutOfBoundsException", "java/lang/IllegalArgumentException"), ("java/lang/IndexOutOfBoundsException", "java/lang/IllegalStateException"), ("java/lang/IndexOutOfBoundsException", "java/lang/UnsupportedOperationException"), ("java/lang/UnsupportedOperationException", "java/lang/ArithmeticException"), ("java/lang/UnsupportedOperationException", "java/lang/IllegalArgumentException"), ("java/lang/UnsupportedOperationException", "java/lang/IllegalStateException"), ("java/lang/UnsupportedOperationException", "java/lang/IndexOutOfBoundsException")]
def xl (l : Launch) : Prop := l.flags = flags0
theorem xl_off {l : Launch} {e : Env} (h : xl l) (ha : l.admits e) : e.platform.stackTraces = false := by
  rw [ha.platform]
  show (!l.flags.contains noTraceFlag) = false
  rw [show l.flags = flags0 from h]
  decide +kernel
end
section
def xtb : List Cond := lw_tbl.filter goodWord
def xisN : Cond → Bool
  | .fieldLinkNest .. => true
  | .methodLinkNest .. => true
  | _ => false
def xnest : List Cond := lw_tbl.filter xisN
theorem xnest_tab : ∀ w ∈ xnest, w.onTables = true := by decide +kernel
theorem xtb_in {w : Cond} (h : w ∈ lw_tbl) (hg : goodWord w = true) : w ∈ xtb := List.mem_filter.mpr ⟨h, hg⟩
theorem xnest_warm {s U : State} (hW : s.WarmedH U.vm) {w : Cond} (hw : xisN w = true) (h : va_Nw w s) : va_Nw w U := by
  cases w <;> first | exact va_Nw.warmF hW h | exact va_Nw.warmM hW h | (exact absurd hw (by decide)) | cases hw
abbrev xSc : Type := Option (Nat × (Nat → Int32))
def xF (sc : xSc) (ad0 : Nat → Nat) (A : Nat → Prop) (s : State) : Prop :=
  (∀ w ∈ xnest, va_Nw w s) ∧ (∀ q ∈ xstrs, ∃ a, vk_R q.1 q.2.1 q.2.2 a s) ∧
  (∀ q : Nat × (Nat → Int32), sc = some q → va_X (ad0 1000000) q.1 q.2 s s.heap ∧ ad0 1000000 < s.heap.size ∧ ¬ A (ad0 1000000)) ∧
  (∀ q ∈ xzq, va_Zq q.1 q.2.1 q.2.2 A s s.heap) ∧
  (∀ q ∈ xsa, va_Z q.1 q.2.1 q.2.2.1 (.ref (ad0 q.2.2.2.1)) A s s.heap ∧ va_T .int (ad0 q.2.2.2.1) q.2.2.2.2.1 (fun j => .int (q.2.2.2.2.2 j)) A s s.heap ∧ 1000000 ≤ q.2.2.2.1) ∧
  (∀ q ∈ xnc, va_Nc q.1 q.2 s)
theorem xF_same {sc : xSc} {ad0 : Nat → Nat} {A : Nat → Prop} {u U : State} (hv : U.vm = u.vm) (hh : U.heap = u.heap) (h : xF sc ad0 A u) : xF sc ad0 A U := by
  obtain ⟨h1, h2, h3, h4, h5, h6⟩ := h
  have hal : u.vm.Alike U.vm := by rw [hv]; exact Vm.Alike.refl u.vm
  refine ⟨fun w hw => ?_, fun q hq => ?_, fun q hq => ?_, fun q hq => ?_, fun q hq => ?_, fun q hq => va_Nc.moved hal (h6 q hq)⟩
  · exact va_Nw.same (xnest_tab w hw) hv.symm (h1 w hw)
  · obtain ⟨a, ha⟩ := h2 q hq
    exact ⟨a, vk_R.same hv ha⟩
  · obtain ⟨q1, q2, q3⟩ := h3 q hq
    rw [hh]
    exact ⟨va_X.moved hal q1, q2, q3⟩
  · rw [hh]; exact va_Zq.moved hal (h4 q hq)
  · obtain ⟨q1, q2, q3⟩ := h5 q hq
    rw [hh]
    exact ⟨va_Z.moved hal q1, va_T.moved hal q2, q3⟩
theorem xF_call {sc : xSc} {ad ad0 : Nat → Nat} {A B : Nat → Prop} {s U : State} {H : Heap} {locs : List Loc} {n : Nat} (hW : s.WarmedH U.vm) (hU : U.heap = H) (hag : ∀ k, n ≤ k → ad k = ad0 k) (hn : n ≤ 1000000) (hS : va_S A s.heap H locs) (hBA : ∀ q, B q → A q) (h : xF sc ad0 A s) : xF none ad B U := by
  obtain ⟨h1, h2, h3, h4, h5, h6⟩ := h
  refine ⟨fun w hw => ?_, fun q hq => ?_, fun q hq => (by cases hq), fun q hq => ?_, fun q hq => ?_, fun q hq => va_Nc.moved hW.alike (h6 q hq)⟩
  · exact xnest_warm hW (List.mem_filter.mp hw).2 (h1 w hw)
  · obtain ⟨a, ha⟩ := h2 q hq
    exact ⟨a, vk_R.warm hW ha⟩
  · rw [hU]
    exact ((va_Zq.moved hW.alike (h4 q hq)).kept hS.2.1).narrow hBA
  · obtain ⟨q1, q2, q3⟩ := h5 q hq
    rw [hU, hag _ (Nat.le_trans hn q3)]
    exact ⟨((va_Z.moved hW.alike q1).kept hS.2.1).narrow hBA, ((va_T.moved hW.alike q2).kept hS.2.1).narrow hBA, q3⟩
end
section
abbrev xM : Type := MethodName × ByteArray × Nat × Option FieldType × List (Nat × Nat × Nat × Nat)
def xd (M : xM) (pc : Nat) (i : Instr) (n q : Nat) : Prop := decode M.2.1 pc = .ok (i, n) ∧ pc + n = q
def xfl (own : String) (idx ci k : Nat) : Prop := ∃ (C : String) (T : u_T) (N : Nat), vwCl[ci]? = some (C, T, N) ∧ k < N ∧ (∀ w ∈ u_ws C T N, w ∈ xtb) ∧
  (Cond.fieldLink own idx (T k).1 (T k).2.1 (T k).2.2.1 ∈ xtb ∨ ∃ host, Cond.fieldLinkNest own idx (T k).1 (T k).2.1 (T k).2.2.1 host ∈ xnest)
def xft (ci : Nat) (ty0 : Nat → FieldType) : Prop := ∃ (C : String) (T : u_T) (N : Nat), vwCl[ci]? = some (C, T, N) ∧ (∀ k, k < N → parseFieldDescriptor (T k).2.2.1 = some (ty0 k)) ∧ (∀ a, a < N → ∀ b, b < N → a ≠ b → (T a).2.1 ≠ (T b).2.1)
def xfin (ci k : Nat) (b : Bool) : Prop := ∃ (C : String) (T : u_T) (N : Nat), vwCl[ci]? = some (C, T, N) ∧ (T k).2.2.2 = b ∧ (T k).1 = C
def xnm (y : MethodName) (n : Nat) : Prop := y.cls ≠ "java/lang/invoke/MethodHandle" ∧ y.cls ≠ "java/lang/invoke/VarHandle" ∧ (parseMethodDescriptor y.desc).map (fun d => d.parameters.length) = some n
def xlV (own : String) (idx : Nat) (y : MethodName) (n : Nat) : Prop := (Cond.methodLink own idx y ∈ xtb ∨ ∃ host, Cond.methodLinkNest own idx y host ∈ xnest) ∧ Cond.instanceMethod y ∈ xtb ∧ Cond.selects y.cls y y ∈ xtb ∧ Cond.initialized y.cls ∈ xtb ∧ xnm y n
def xlS (own : String) (idx : Nat) (y : MethodName) (n : Nat) : Prop := (Cond.methodLink own idx y ∈ xtb ∨ ∃ host, Cond.methodLinkNest own idx y host ∈ xnest) ∧ Cond.static y ∈ xtb ∧ Cond.initialized y.cls ∈ xtb ∧ xnm y n
def xlI (own : String) (idx : Nat) (y : MethodName) (n : Nat) : Prop := (Cond.methodLink own idx y ∈ xtb ∨ ∃ host, Cond.methodLinkNest own idx y host ∈ xnest) ∧ Cond.instanceMethod y ∈ xtb ∧ Cond.initialized y.cls ∈ xtb ∧ xnm y n ∧ y.name = "<init>"
def xcd (M : xM) : Prop := Cond.code M.1 M.2.1 M.2.2.1 M.2.2.2.1 ∈ xtb
def xwmax (own : String) (idx : Nat) : Prop := Cond.methodLink own idx Lib.Math.max.name ∈ xtb ∧ Cond.static Lib.Math.max.name ∈ xtb ∧ Cond.initialized "java/lang/Math" ∈ xtb ∧ Cond.code Lib.Math.max.name Lib.Math.max.code 2 (some .int) ∈ xtb
def xwmin (own : String) (idx : Nat) : Prop := Cond.methodLink own idx Lib.Math.min.name ∈ xtb ∧ Cond.static Lib.Math.min.name ∈ xtb ∧ Cond.initialized "java/lang/Math" ∈ xtb ∧ Cond.code Lib.Math.min.name Lib.Math.min.code 2 (some .int) ∈ xtb
def xwcopy (own : String) (idx : Nat) : Prop := Cond.methodLink own idx arraycopyName ∈ xtb ∧ Cond.native arraycopyName ∈ xtb ∧ Cond.static arraycopyName ∈ xtb ∧ Cond.initialized "java/lang/System" ∈ xtb
end
section
theorem xtb_at (i : Nat) {w : Cond} (h : lw_tbl[i]? = some w) (hg : goodWord w = true) : w ∈ xtb := xtb_in (List.mem_of_getElem? h) hg
theorem xnest_at (i : Nat) {w : Cond} (h : lw_tbl[i]? = some w) (hg : xisN w = true) : w ∈ xnest := List.mem_filter.mpr ⟨List.mem_of_getElem? h, hg⟩
theorem in_By : ∀ w ∈ u_ws "DviBytes$Bytes" T_By 2, w ∈ xtb := by
  have h : ∀ w ∈ u_ws "DviBytes$Bytes" T_By 2, w ∈ lw_tbl ∧ goodWord w = true := by decide +kernel
  exact fun w hw => xtb_in (h w hw).1 (h w hw).2
theorem CI_By : ∃ (T : u_T) (N : Nat), vwCl[0]? = some ("DviBytes$Bytes", T, N) := ⟨_, _, rfl⟩
theorem FT_By : xft 0 y_By := ⟨_, _, _, rfl, by decide +kernel, by decide +kernel⟩
theorem FN_By_0 : xfin 0 0 true := ⟨_, _, _, rfl, rfl, rfl⟩
theorem FN_By_1 : xfin 0 1 false := ⟨_, _, _, rfl, rfl, rfl⟩
theorem in_Fo : ∀ w ∈ u_ws "DviBytes$Fonts" T_Fo 6, w ∈ xtb := by
  have h : ∀ w ∈ u_ws "DviBytes$Fonts" T_Fo 6, w ∈ lw_tbl ∧ goodWord w = true := by decide +kernel
  exact fun w hw => xtb_in (h w hw).1 (h w hw).2
theorem CI_Fo : ∃ (T : u_T) (N : Nat), vwCl[1]? = some ("DviBytes$Fonts", T, N) := ⟨_, _, rfl⟩
theorem FT_Fo : xft 1 y_Fo := ⟨_, _, _, rfl, by decide +kernel, by decide +kernel⟩
theorem FN_Fo_0 : xfin 1 0 true := ⟨_, _, _, rfl, rfl, rfl⟩
theorem FN_Fo_1 : xfin 1 1 true := ⟨_, _, _, rfl, rfl, rfl⟩
theorem FN_Fo_2 : xfin 1 2 true := ⟨_, _, _, rfl, rfl, rfl⟩
theorem FN_Fo_3 : xfin 1 3 true := ⟨_, _, _, rfl, rfl, rfl⟩
theorem FN_Fo_4 : xfin 1 4 true := ⟨_, _, _, rfl, rfl, rfl⟩
theorem FN_Fo_5 : xfin 1 5 true := ⟨_, _, _, rfl, rfl, rfl⟩
theorem in_Rd : ∀ w ∈ u_ws "DviBytes$Reader" T_Rd 14, w ∈ xtb := by
  have h : ∀ w ∈ u_ws "DviBytes$Reader" T_Rd 14, w ∈ lw_tbl ∧ goodWord w = true := by decide +kernel
  exact fun w hw => xtb_in (h w hw).1 (h w hw).2
theorem CI_Rd : ∃ (T : u_T) (N : Nat), vwCl[2]? = some ("DviBytes$Reader", T, N) := ⟨_, _, rfl⟩
theorem FT_Rd : xft 2 y_Rd := ⟨_, _, _, rfl, by decide +kernel, by decide +kernel⟩
theorem FN_Rd_0 : xfin 2 0 true := ⟨_, _, _, rfl, rfl, rfl⟩
theorem FN_Rd_1 : xfin 2 1 true := ⟨_, _, _, rfl, rfl, rfl⟩
theorem FN_Rd_2 : xfin 2 2 true := ⟨_, _, _, rfl, rfl, rfl⟩
theorem FN_Rd_3 : xfin 2 3 true := ⟨_, _, _, rfl, rfl, rfl⟩
theorem FN_Rd_4 : xfin 2 4 true := ⟨_, _, _, rfl, rfl, rfl⟩
theorem FN_Rd_5 : xfin 2 5 false := ⟨_, _, _, rfl, rfl, rfl⟩
theorem FN_Rd_6 : xfin 2 6 false := ⟨_, _, _, rfl, rfl, rfl⟩
theorem FN_Rd_7 : xfin 2 7 false := ⟨_, _, _, rfl, rfl, rfl⟩
theorem FN_Rd_8 : xfin 2 8 false := ⟨_, _, _, rfl, rfl, rfl⟩
theorem FN_Rd_9 : xfin 2 9 false := ⟨_, _, _, rfl, rfl, rfl⟩
theorem FN_Rd_10 : xfin 2 10 false := ⟨_, _, _, rfl, rfl, rfl⟩
theorem FN_Rd_11 : xfin 2 11 false := ⟨_, _, _, rfl, rfl, rfl⟩
theorem FN_Rd_12 : xfin 2 12 false := ⟨_, _, _, rfl, rfl, rfl⟩
theorem FN_Rd_13 : xfin 2 13 false := ⟨_, _, _, rfl, rfl, rfl⟩
theorem in_Rg : ∀ w ∈ u_ws "DviBytes$Reading" T_Rg 12, w ∈ xtb := by
  have h : ∀ w ∈ u_ws "DviBytes$Reading" T_Rg 12, w ∈ lw_tbl ∧ goodWord w = true := by decide +kernel
  exact fun w hw => xtb_in (h w hw).1 (h w hw).2
theorem CI_Rg : ∃ (T : u_T) (N : Nat), vwCl[3]? = some ("DviBytes$Reading", T, N) := ⟨_, _, rfl⟩
theorem FT_Rg : xft 3 y_Rg := ⟨_, _, _, rfl, by decide +kernel, by decide +kernel⟩
theorem FN_Rg_0 : xfin 3 0 true := ⟨_, _, _, rfl, rfl, rfl⟩
theorem FN_Rg_1 : xfin 3 1 true := ⟨_, _, _, rfl, rfl, rfl⟩
theorem FN_Rg_2 : xfin 3 2 true := ⟨_, _, _, rfl, rfl, rfl⟩
theorem FN_Rg_3 : xfin 3 3 true := ⟨_, _, _, rfl, rfl, rfl⟩
theorem FN_Rg_4 : xfin 3 4 true := ⟨_, _, _, rfl, rfl, rfl⟩
theorem FN_Rg_5 : xfin 3 5 false := ⟨_, _, _, rfl, rfl, rfl⟩
theorem FN_Rg_6 : xfin 3 6 false := ⟨_, _, _, rfl, rfl, rfl⟩
theorem FN_Rg_7 : xfin 3 7 false := ⟨_, _, _, rfl, rfl, rfl⟩
theorem FN_Rg_8 : xfin 3 8 false := ⟨_, _, _, rfl, rfl, rfl⟩
theorem FN_Rg_9 : xfin 3 9 false := ⟨_, _, _, rfl, rfl, rfl⟩
theorem FN_Rg_10 : xfin 3 10 false := ⟨_, _, _, rfl, rfl, rfl⟩
theorem FN_Rg_11 : xfin 3 11 false := ⟨_, _, _, rfl, rfl, rfl⟩
theorem in_Sh : ∀ w ∈ u_ws "DviBytes$Sheet" T_Sh 2, w ∈ xtb := by
  have h : ∀ w ∈ u_ws "DviBytes$Sheet" T_Sh 2, w ∈ lw_tbl ∧ goodWord w = true := by decide +kernel
  exact fun w hw => xtb_in (h w hw).1 (h w hw).2
theorem CI_Sh : ∃ (T : u_T) (N : Nat), vwCl[4]? = some ("DviBytes$Sheet", T, N) := ⟨_, _, rfl⟩
theorem FT_Sh : xft 4 y_Sh := ⟨_, _, _, rfl, by decide +kernel, by decide +kernel⟩
theorem FN_Sh_0 : xfin 4 0 true := ⟨_, _, _, rfl, rfl, rfl⟩
theorem FN_Sh_1 : xfin 4 1 false := ⟨_, _, _, rfl, rfl, rfl⟩
theorem in_Wa : ∀ w ∈ u_ws "DviBytes$Way" T_Wa 5, w ∈ xtb := by
  have h : ∀ w ∈ u_ws "DviBytes$Way" T_Wa 5, w ∈ lw_tbl ∧ goodWord w = true := by decide +kernel
  exact fun w hw => xtb_in (h w hw).1 (h w hw).2
theorem CI_Wa : ∃ (T : u_T) (N : Nat), vwCl[5]? = some ("DviBytes$Way", T, N) := ⟨_, _, rfl⟩
theorem FT_Wa : xft 5 y_Wa := ⟨_, _, _, rfl, by decide +kernel, by decide +kernel⟩
theorem FN_Wa_0 : xfin 5 0 true := ⟨_, _, _, rfl, rfl, rfl⟩
theorem FN_Wa_1 : xfin 5 1 true := ⟨_, _, _, rfl, rfl, rfl⟩
theorem FN_Wa_2 : xfin 5 2 false := ⟨_, _, _, rfl, rfl, rfl⟩
theorem FN_Wa_3 : xfin 5 3 false := ⟨_, _, _, rfl, rfl, rfl⟩
theorem FN_Wa_4 : xfin 5 4 false := ⟨_, _, _, rfl, rfl, rfl⟩
theorem in_Wi : ∀ w ∈ u_ws "DviBytes$Widths" T_Wi 1, w ∈ xtb := by
  have h : ∀ w ∈ u_ws "DviBytes$Widths" T_Wi 1, w ∈ lw_tbl ∧ goodWord w = true := by decide +kernel
  exact fun w hw => xtb_in (h w hw).1 (h w hw).2
theorem CI_Wi : ∃ (T : u_T) (N : Nat), vwCl[6]? = some ("DviBytes$Widths", T, N) := ⟨_, _, rfl⟩
theorem FT_Wi : xft 6 y_Wi := ⟨_, _, _, rfl, by decide +kernel, by decide +kernel⟩
theorem FN_Wi_0 : xfin 6 0 true := ⟨_, _, _, rfl, rfl, rfl⟩
theorem in_Wr : ∀ w ∈ u_ws "DviBytes$Writer" T_Wr 17, w ∈ xtb := by
  have h : ∀ w ∈ u_ws "DviBytes$Writer" T_Wr 17, w ∈ lw_tbl ∧ goodWord w = true := by decide +kernel
  exact fun w hw => xtb_in (h w hw).1 (h w hw).2
theorem CI_Wr : ∃ (T : u_T) (N : Nat), vwCl[7]? = some ("DviBytes$Writer", T, N) := ⟨_, _, rfl⟩
theorem FT_Wr : xft 7 y_Wr := ⟨_, _, _, rfl, by decide +kernel, by decide +kernel⟩
theorem FN_Wr_0 : xfin 7 0 true := ⟨_, _, _, rfl, rfl, rfl⟩
theorem FN_Wr_1 : xfin 7 1 true := ⟨_, _, _, rfl, rfl, rfl⟩
theorem FN_Wr_2 : xfin 7 2 true := ⟨_, _, _, rfl, rfl, rfl⟩
theorem FN_Wr_3 : xfin 7 3 true := ⟨_, _, _, rfl, rfl, rfl⟩
theorem FN_Wr_4 : xfin 7 4 true := ⟨_, _, _, rfl, rfl, rfl⟩
theorem FN_Wr_5 : xfin 7 5 true := ⟨_, _, _, rfl, rfl, rfl⟩
theorem FN_Wr_6 : xfin 7 6 true := ⟨_, _, _, rfl, rfl, rfl⟩
theorem FN_Wr_7 : xfin 7 7 false := ⟨_, _, _, rfl, rfl, rfl⟩
theorem FN_Wr_8 : xfin 7 8 false := ⟨_, _, _, rfl, rfl, rfl⟩
theorem FN_Wr_9 : xfin 7 9 false := ⟨_, _, _, rfl, rfl, rfl⟩
theorem FN_Wr_10 : xfin 7 10 false := ⟨_, _, _, rfl, rfl, rfl⟩
theorem FN_Wr_11 : xfin 7 11 false := ⟨_, _, _, rfl, rfl, rfl⟩
theorem FN_Wr_12 : xfin 7 12 false := ⟨_, _, _, rfl, rfl, rfl⟩
theorem FN_Wr_13 : xfin 7 13 false := ⟨_, _, _, rfl, rfl, rfl⟩
theorem FN_Wr_14 : xfin 7 14 false := ⟨_, _, _, rfl, rfl, rfl⟩
theorem FN_Wr_15 : xfin 7 15 false := ⟨_, _, _, rfl, rfl, rfl⟩
theorem FN_Wr_16 : xfin 7 16 false := ⟨_, _, _, rfl, rfl, rfl⟩
theorem in_Dv : ∀ w ∈ u_ws "DviBytes" T_Dv 8, w ∈ xtb := by
  have h : ∀ w ∈ u_ws "DviBytes" T_Dv 8, w ∈ lw_tbl ∧ goodWord w = true := by decide +kernel
  exact fun w hw => xtb_in (h w hw).1 (h w hw).2
theorem CI_Dv : ∃ (T : u_T) (N : Nat), vwCl[8]? = some ("DviBytes", T, N) := ⟨_, _, rfl⟩
theorem FT_Dv : xft 8 y_Dv := ⟨_, _, _, rfl, by decide +kernel, by decide +kernel⟩
theorem FN_Dv_0 : xfin 8 0 true := ⟨_, _, _, rfl, rfl, rfl⟩
theorem FN_Dv_1 : xfin 8 1 true := ⟨_, _, _, rfl, rfl, rfl⟩
theorem FN_Dv_2 : xfin 8 2 true := ⟨_, _, _, rfl, rfl, rfl⟩
theorem FN_Dv_3 : xfin 8 3 true := ⟨_, _, _, rfl, rfl, rfl⟩
theorem FN_Dv_4 : xfin 8 4 true := ⟨_, _, _, rfl, rfl, rfl⟩
theorem FN_Dv_5 : xfin 8 5 true := ⟨_, _, _, rfl, rfl, rfl⟩
theorem FN_Dv_6 : xfin 8 6 true := ⟨_, _, _, rfl, rfl, rfl⟩
theorem FN_Dv_7 : xfin 8 7 true := ⟨_, _, _, rfl, rfl, rfl⟩
theorem in_Mo : ∀ w ∈ u_ws "DviBytesModel" T_Mo 53, w ∈ xtb := by
  have h : ∀ w ∈ u_ws "DviBytesModel" T_Mo 53, w ∈ lw_tbl ∧ goodWord w = true := by decide +kernel
  exact fun w hw => xtb_in (h w hw).1 (h w hw).2
theorem CI_Mo : ∃ (T : u_T) (N : Nat), vwCl[9]? = some ("DviBytesModel", T, N) := ⟨_, _, rfl⟩
theorem FT_Mo : xft 9 y_Mo := ⟨_, _, _, rfl, by decide +kernel, by decide +kernel⟩
theorem FN_Mo_0 : xfin 9 0 false := ⟨_, _, _, rfl, rfl, rfl⟩
theorem FN_Mo_1 : xfin 9 1 true := ⟨_, _, _, rfl, rfl, rfl⟩
theorem FN_Mo_2 : xfin 9 2 true := ⟨_, _, _, rfl, rfl, rfl⟩
theorem FN_Mo_3 : xfin 9 3 true := ⟨_, _, _, rfl, rfl, rfl⟩
theorem FN_Mo_4 : xfin 9 4 true := ⟨_, _, _, rfl, rfl, rfl⟩
theorem FN_Mo_5 : xfin 9 5 true := ⟨_, _, _, rfl, rfl, rfl⟩
theorem FN_Mo_6 : xfin 9 6 true := ⟨_, _, _, rfl, rfl, rfl⟩
theorem FN_Mo_7 : xfin 9 7 true := ⟨_, _, _, rfl, rfl, rfl⟩
theorem FN_Mo_8 : xfin 9 8 true := ⟨_, _, _, rfl, rfl, rfl⟩
theorem FN_Mo_9 : xfin 9 9 false := ⟨_, _, _, rfl, rfl, rfl⟩
theorem FN_Mo_10 : xfin 9 10 true := ⟨_, _, _, rfl, rfl, rfl⟩
theorem FN_Mo_11 : xfin 9 11 false := ⟨_, _, _, rfl, rfl, rfl⟩
theorem FN_Mo_12 : xfin 9 12 false := ⟨_, _, _, rfl, rfl, rfl⟩
theorem FN_Mo_13 : xfin 9 13 false := ⟨_, _, _, rfl, rfl, rfl⟩
theorem FN_Mo_14 : xfin 9 14 false := ⟨_, _, _, rfl, rfl, rfl⟩
theorem FN_Mo_15 : xfin 9 15 false := ⟨_, _, _, rfl, rfl, rfl⟩
theorem FN_Mo_16 : xfin 9 16 false := ⟨_, _, _, rfl, rfl, rfl⟩
theorem FN_Mo_17 : xfin 9 17 false := ⟨_, _, _, rfl, rfl, rfl⟩
theorem FN_Mo_18 : xfin 9 18 false := ⟨_, _, _, rfl, rfl, rfl⟩
theorem FN_Mo_19 : xfin 9 19 true := ⟨_, _, _, rfl, rfl, rfl⟩
theorem FN_Mo_20 : xfin 9 20 false := ⟨_, _, _, rfl, rfl, rfl⟩
theorem FN_Mo_21 : xfin 9 21 true := ⟨_, _, _, rfl, rfl, rfl⟩
theorem FN_Mo_22 : xfin 9 22 true := ⟨_, _, _, rfl, rfl, rfl⟩
theorem FN_Mo_23 : xfin 9 23 true := ⟨_, _, _, rfl, rfl, rfl⟩
theorem FN_Mo_24 : xfin 9 24 true := ⟨_, _, _, rfl, rfl, rfl⟩
theorem FN_Mo_25 : xfin 9 25 true := ⟨_, _, _, rfl, rfl, rfl⟩
theorem FN_Mo_26 : xfin 9 26 true := ⟨_, _, _, rfl, rfl, rfl⟩
theorem FN_Mo_27 : xfin 9 27 true := ⟨_, _, _, rfl, rfl, rfl⟩
theorem FN_Mo_28 : xfin 9 28 true := ⟨_, _, _, rfl, rfl, rfl⟩
theorem FN_Mo_29 : xfin 9 29 false := ⟨_, _, _, rfl, rfl, rfl⟩
theorem FN_Mo_30 : xfin 9 30 true := ⟨_, _, _, rfl, rfl, rfl⟩
theorem FN_Mo_31 : xfin 9 31 true := ⟨_, _, _, rfl, rfl, rfl⟩
theorem FN_Mo_32 : xfin 9 32 false := ⟨_, _, _, rfl, rfl, rfl⟩
theorem FN_Mo_33 : xfin 9 33 true := ⟨_, _, _, rfl, rfl, rfl⟩
theorem FN_Mo_34 : xfin 9 34 false := ⟨_, _, _, rfl, rfl, rfl⟩
theorem FN_Mo_35 : xfin 9 35 true := ⟨_, _, _, rfl, rfl, rfl⟩
theorem FN_Mo_36 : xfin 9 36 false := ⟨_, _, _, rfl, rfl, rfl⟩
theorem FN_Mo_37 : xfin 9 37 true := ⟨_, _, _, rfl, rfl, rfl⟩
theorem FN_Mo_38 : xfin 9 38 true := ⟨_, _, _, rfl, rfl, rfl⟩
theorem FN_Mo_39 : xfin 9 39 false := ⟨_, _, _, rfl, rfl, rfl⟩
theorem FN_Mo_40 : xfin 9 40 false := ⟨_, _, _, rfl, rfl, rfl⟩
theorem FN_Mo_41 : xfin 9 41 false := ⟨_, _, _, rfl, rfl, rfl⟩
theorem FN_Mo_42 : xfin 9 42 false := ⟨_, _, _, rfl, rfl, rfl⟩
theorem FN_Mo_43 : xfin 9 43 false := ⟨_, _, _, rfl, rfl, rfl⟩
theorem FN_Mo_44 : xfin 9 44 false := ⟨_, _, _, rfl, rfl, rfl⟩
theorem FN_Mo_45 : xfin 9 45 false := ⟨_, _, _, rfl, rfl, rfl⟩
theorem FN_Mo_46 : xfin 9 46 false := ⟨_, _, _, rfl, rfl, rfl⟩
theorem FN_Mo_47 : xfin 9 47 false := ⟨_, _, _, rfl, rfl, rfl⟩
theorem FN_Mo_48 : xfin 9 48 false := ⟨_, _, _, rfl, rfl, rfl⟩
theorem FN_Mo_49 : xfin 9 49 false := ⟨_, _, _, rfl, rfl, rfl⟩
theorem FN_Mo_50 : xfin 9 50 false := ⟨_, _, _, rfl, rfl, rfl⟩
theorem FN_Mo_51 : xfin 9 51 true := ⟨_, _, _, rfl, rfl, rfl⟩
theorem FN_Mo_52 : xfin 9 52 true := ⟨_, _, _, rfl, rfl, rfl⟩
theorem F_Wi_10 : xfl "DviBytes$Widths" 10 6 0 := ⟨_, _, _, rfl, by decide, in_Wi, Or.inl (xtb_at 97 (by decide +kernel) (by decide +kernel))⟩
theorem F_Fo_9 : xfl "DviBytes$Fonts" 9 1 0 := ⟨_, _, _, rfl, by decide, in_Fo, Or.inl (xtb_at 108 (by decide +kernel) (by decide +kernel))⟩
theorem F_Fo_15 : xfl "DviBytes$Fonts" 15 1 1 := ⟨_, _, _, rfl, by decide, in_Fo, Or.inl (xtb_at 109 (by decide +kernel) (by decide +kernel))⟩
theorem F_Fo_18 : xfl "DviBytes$Fonts" 18 1 2 := ⟨_, _, _, rfl, by decide, in_Fo, Or.inl (xtb_at 110 (by decide +kernel) (by decide +kernel))⟩
theorem F_Fo_21 : xfl "DviBytes$Fonts" 21 1 3 := ⟨_, _, _, rfl, by decide, in_Fo, Or.inl (xtb_at 111 (by decide +kernel) (by decide +kernel))⟩
theorem F_Fo_25 : xfl "DviBytes$Fonts" 25 1 4 := ⟨_, _, _, rfl, by decide, in_Fo, Or.inl (xtb_at 112 (by decide +kernel) (by decide +kernel))⟩
theorem F_Fo_28 : xfl "DviBytes$Fonts" 28 1 5 := ⟨_, _, _, rfl, by decide, in_Fo, Or.inl (xtb_at 113 (by decide +kernel) (by decide +kernel))⟩
theorem F_Sh_11 : xfl "DviBytes$Sheet" 11 4 0 := ⟨_, _, _, rfl, by decide, in_Sh, Or.inl (xtb_at 134 (by decide +kernel) (by decide +kernel))⟩
theorem F_Sh_15 : xfl "DviBytes$Sheet" 15 4 1 := ⟨_, _, _, rfl, by decide, in_Sh, Or.inl (xtb_at 135 (by decide +kernel) (by decide +kernel))⟩
theorem F_By_10 : xfl "DviBytes$Bytes" 10 0 0 := ⟨_, _, _, rfl, by decide, in_By, Or.inl (xtb_at 154 (by decide +kernel) (by decide +kernel))⟩
theorem F_By_16 : xfl "DviBytes$Bytes" 16 0 1 := ⟨_, _, _, rfl, by decide, in_By, Or.inl (xtb_at 155 (by decide +kernel) (by decide +kernel))⟩
theorem F_Wa_15 : xfl "DviBytes$Way" 15 5 0 := ⟨_, _, _, rfl, by decide, in_Wa, Or.inl (xtb_at 168 (by decide +kernel) (by decide +kernel))⟩
theorem F_Wa_9 : xfl "DviBytes$Way" 9 5 1 := ⟨_, _, _, rfl, by decide, in_Wa, Or.inl (xtb_at 169 (by decide +kernel) (by decide +kernel))⟩
theorem F_Wa_19 : xfl "DviBytes$Way" 19 5 2 := ⟨_, _, _, rfl, by decide, in_Wa, Or.inl (xtb_at 170 (by decide +kernel) (by decide +kernel))⟩
theorem F_Wa_22 : xfl "DviBytes$Way" 22 5 3 := ⟨_, _, _, rfl, by decide, in_Wa, Or.inl (xtb_at 171 (by decide +kernel) (by decide +kernel))⟩
theorem F_Wa_25 : xfl "DviBytes$Way" 25 5 4 := ⟨_, _, _, rfl, by decide, in_Wa, Or.inl (xtb_at 172 (by decide +kernel) (by decide +kernel))⟩
theorem F_Wr_42 : xfl "DviBytes$Writer" 42 7 0 := ⟨_, _, _, rfl, by decide, in_Wr, Or.inl (xtb_at 184 (by decide +kernel) (by decide +kernel))⟩
theorem F_Wr_46 : xfl "DviBytes$Writer" 46 7 1 := ⟨_, _, _, rfl, by decide, in_Wr, Or.inl (xtb_at 185 (by decide +kernel) (by decide +kernel))⟩
theorem F_Wr_12 : xfl "DviBytes$Writer" 12 7 2 := ⟨_, _, _, rfl, by decide, in_Wr, Or.inl (xtb_at 186 (by decide +kernel) (by decide +kernel))⟩
theorem F_Wr_23 : xfl "DviBytes$Writer" 23 7 3 := ⟨_, _, _, rfl, by decide, in_Wr, Or.inl (xtb_at 187 (by decide +kernel) (by decide +kernel))⟩
theorem F_Wr_27 : xfl "DviBytes$Writer" 27 7 4 := ⟨_, _, _, rfl, by decide, in_Wr, Or.inl (xtb_at 188 (by decide +kernel) (by decide +kernel))⟩
theorem F_Wr_30 : xfl "DviBytes$Writer" 30 7 5 := ⟨_, _, _, rfl, by decide, in_Wr, Or.inl (xtb_at 189 (by decide +kernel) (by decide +kernel))⟩
theorem F_Wr_34 : xfl "DviBytes$Writer" 34 7 6 := ⟨_, _, _, rfl, by decide, in_Wr, Or.inl (xtb_at 190 (by decide +kernel) (by decide +kernel))⟩
theorem F_Wr_80 : xfl "DviBytes$Writer" 80 7 7 := ⟨_, _, _, rfl, by decide, in_Wr, Or.inl (xtb_at 191 (by decide +kernel) (by decide +kernel))⟩
theorem F_Wr_65 : xfl "DviBytes$Writer" 65 7 8 := ⟨_, _, _, rfl, by decide, in_Wr, Or.inl (xtb_at 192 (by decide +kernel) (by decide +kernel))⟩
theorem F_Wr_68 : xfl "DviBytes$Writer" 68 7 9 := ⟨_, _, _, rfl, by decide, in_Wr, Or.inl (xtb_at 193 (by decide +kernel) (by decide +kernel))⟩
theorem F_Wr_50 : xfl "DviBytes$Writer" 50 7 10 := ⟨_, _, _, rfl, by decide, in_Wr, Or.inl (xtb_at 194 (by decide +kernel) (by decide +kernel))⟩
theorem F_Wr_54 : xfl "DviBytes$Writer" 54 7 11 := ⟨_, _, _, rfl, by decide, in_Wr, Or.inl (xtb_at 195 (by decide +kernel) (by decide +kernel))⟩
theorem F_Wr_38 : xfl "DviBytes$Writer" 38 7 12 := ⟨_, _, _, rfl, by decide, in_Wr, Or.inl (xtb_at 196 (by decide +kernel) (by decide +kernel))⟩
theorem F_Wr_71 : xfl "DviBytes$Writer" 71 7 13 := ⟨_, _, _, rfl, by decide, in_Wr, Or.inl (xtb_at 197 (by decide +kernel) (by decide +kernel))⟩
theorem F_Wr_74 : xfl "DviBytes$Writer" 74 7 14 := ⟨_, _, _, rfl, by decide, in_Wr, Or.inl (xtb_at 198 (by decide +kernel) (by decide +kernel))⟩
theorem F_Wr_86 : xfl "DviBytes$Writer" 86 7 15 := ⟨_, _, _, rfl, by decide, in_Wr, Or.inl (xtb_at 199 (by decide +kernel) (by decide +kernel))⟩
theorem F_Wr_89 : xfl "DviBytes$Writer" 89 7 16 := ⟨_, _, _, rfl, by decide, in_Wr, Or.inl (xtb_at 200 (by decide +kernel) (by decide +kernel))⟩
theorem F_Rg_11 : xfl "DviBytes$Reading" 11 3 0 := ⟨_, _, _, rfl, by decide, in_Rg, Or.inl (xtb_at 247 (by decide +kernel) (by decide +kernel))⟩
theorem F_Rg_15 : xfl "DviBytes$Reading" 15 3 1 := ⟨_, _, _, rfl, by decide, in_Rg, Or.inl (xtb_at 248 (by decide +kernel) (by decide +kernel))⟩
theorem F_Rg_18 : xfl "DviBytes$Reading" 18 3 2 := ⟨_, _, _, rfl, by decide, in_Rg, Or.inl (xtb_at 249 (by decide +kernel) (by decide +kernel))⟩
theorem F_Rg_21 : xfl "DviBytes$Reading" 21 3 3 := ⟨_, _, _, rfl, by decide, in_Rg, Or.inl (xtb_at 250 (by decide +kernel) (by decide +kernel))⟩
theorem F_Rg_27 : xfl "DviBytes$Reading" 27 3 4 := ⟨_, _, _, rfl, by decide, in_Rg, Or.inl (xtb_at 251 (by decide +kernel) (by decide +kernel))⟩
theorem F_Rg_35 : xfl "DviBytes$Reading" 35 3 5 := ⟨_, _, _, rfl, by decide, in_Rg, Or.inl (xtb_at 252 (by decide +kernel) (by decide +kernel))⟩
theorem F_Dv_204 : xfl "DviBytes" 204 3 5 := ⟨_, _, _, rfl, by decide, in_Rg, Or.inr ⟨"DviBytes", xnest_at 253 (by decide +kernel) (by decide +kernel)⟩⟩
theorem F_Rg_39 : xfl "DviBytes$Reading" 39 3 6 := ⟨_, _, _, rfl, by decide, in_Rg, Or.inl (xtb_at 254 (by decide +kernel) (by decide +kernel))⟩
theorem F_Dv_208 : xfl "DviBytes" 208 3 6 := ⟨_, _, _, rfl, by decide, in_Rg, Or.inr ⟨"DviBytes", xnest_at 255 (by decide +kernel) (by decide +kernel)⟩⟩
theorem F_Rd_176 : xfl "DviBytes$Reader" 176 3 6 := ⟨_, _, _, rfl, by decide, in_Rg, Or.inr ⟨"DviBytes", xnest_at 256 (by decide +kernel) (by decide +kernel)⟩⟩
theorem F_Rg_42 : xfl "DviBytes$Reading" 42 3 7 := ⟨_, _, _, rfl, by decide, in_Rg, Or.inl (xtb_at 257 (by decide +kernel) (by decide +kernel))⟩
theorem F_Dv_211 : xfl "DviBytes" 211 3 7 := ⟨_, _, _, rfl, by decide, in_Rg, Or.inr ⟨"DviBytes", xnest_at 258 (by decide +kernel) (by decide +kernel)⟩⟩
theorem F_Rg_45 : xfl "DviBytes$Reading" 45 3 8 := ⟨_, _, _, rfl, by decide, in_Rg, Or.inl (xtb_at 259 (by decide +kernel) (by decide +kernel))⟩
theorem F_Rd_116 : xfl "DviBytes$Reader" 116 3 8 := ⟨_, _, _, rfl, by decide, in_Rg, Or.inr ⟨"DviBytes", xnest_at 260 (by decide +kernel) (by decide +kernel)⟩⟩
theorem F_Dv_214 : xfl "DviBytes" 214 3 8 := ⟨_, _, _, rfl, by decide, in_Rg, Or.inr ⟨"DviBytes", xnest_at 261 (by decide +kernel) (by decide +kernel)⟩⟩
theorem F_Rg_48 : xfl "DviBytes$Reading" 48 3 9 := ⟨_, _, _, rfl, by decide, in_Rg, Or.inl (xtb_at 262 (by decide +kernel) (by decide +kernel))⟩
theorem F_Dv_217 : xfl "DviBytes" 217 3 9 := ⟨_, _, _, rfl, by decide, in_Rg, Or.inr ⟨"DviBytes", xnest_at 263 (by decide +kernel) (by decide +kernel)⟩⟩
theorem F_Rd_180 : xfl "DviBytes$Reader" 180 3 9 := ⟨_, _, _, rfl, by decide, in_Rg, Or.inr ⟨"DviBytes", xnest_at 264 (by decide +kernel) (by decide +kernel)⟩⟩
theorem F_Rg_51 : xfl "DviBytes$Reading" 51 3 10 := ⟨_, _, _, rfl, by decide, in_Rg, Or.inl (xtb_at 265 (by decide +kernel) (by decide +kernel))⟩
theorem F_Dv_220 : xfl "DviBytes" 220 3 10 := ⟨_, _, _, rfl, by decide, in_Rg, Or.inr ⟨"DviBytes", xnest_at 266 (by decide +kernel) (by decide +kernel)⟩⟩
theorem F_Rd_183 : xfl "DviBytes$Reader" 183 3 10 := ⟨_, _, _, rfl, by decide, in_Rg, Or.inr ⟨"DviBytes", xnest_at 267 (by decide +kernel) (by decide +kernel)⟩⟩
theorem F_Rg_54 : xfl "DviBytes$Reading" 54 3 11 := ⟨_, _, _, rfl, by decide, in_Rg, Or.inl (xtb_at 268 (by decide +kernel) (by decide +kernel))⟩
theorem F_Dv_223 : xfl "DviBytes" 223 3 11 := ⟨_, _, _, rfl, by decide, in_Rg, Or.inr ⟨"DviBytes", xnest_at 269 (by decide +kernel) (by decide +kernel)⟩⟩
theorem F_Rd_168 : xfl "DviBytes$Reader" 168 3 11 := ⟨_, _, _, rfl, by decide, in_Rg, Or.inr ⟨"DviBytes", xnest_at 270 (by decide +kernel) (by decide +kernel)⟩⟩
theorem F_Rd_18 : xfl "DviBytes$Reader" 18 2 0 := ⟨_, _, _, rfl, by decide, in_Rd, Or.inl (xtb_at 302 (by decide +kernel) (by decide +kernel))⟩
theorem F_Rd_22 : xfl "DviBytes$Reader" 22 2 1 := ⟨_, _, _, rfl, by decide, in_Rd, Or.inl (xtb_at 303 (by decide +kernel) (by decide +kernel))⟩
theorem F_Rd_26 : xfl "DviBytes$Reader" 26 2 2 := ⟨_, _, _, rfl, by decide, in_Rd, Or.inl (xtb_at 304 (by decide +kernel) (by decide +kernel))⟩
theorem F_Rd_11 : xfl "DviBytes$Reader" 11 2 3 := ⟨_, _, _, rfl, by decide, in_Rd, Or.inl (xtb_at 305 (by decide +kernel) (by decide +kernel))⟩
theorem F_Rd_15 : xfl "DviBytes$Reader" 15 2 4 := ⟨_, _, _, rfl, by decide, in_Rd, Or.inl (xtb_at 306 (by decide +kernel) (by decide +kernel))⟩
theorem F_Rd_107 : xfl "DviBytes$Reader" 107 2 5 := ⟨_, _, _, rfl, by decide, in_Rd, Or.inl (xtb_at 307 (by decide +kernel) (by decide +kernel))⟩
theorem F_Rd_35 : xfl "DviBytes$Reader" 35 2 6 := ⟨_, _, _, rfl, by decide, in_Rd, Or.inl (xtb_at 308 (by decide +kernel) (by decide +kernel))⟩
theorem F_Rd_39 : xfl "DviBytes$Reader" 39 2 7 := ⟨_, _, _, rfl, by decide, in_Rd, Or.inl (xtb_at 309 (by decide +kernel) (by decide +kernel))⟩
theorem F_Rd_57 : xfl "DviBytes$Reader" 57 2 8 := ⟨_, _, _, rfl, by decide, in_Rd, Or.inl (xtb_at 310 (by decide +kernel) (by decide +kernel))⟩
theorem F_Rd_63 : xfl "DviBytes$Reader" 63 2 9 := ⟨_, _, _, rfl, by decide, in_Rd, Or.inl (xtb_at 311 (by decide +kernel) (by decide +kernel))⟩
theorem F_Rd_128 : xfl "DviBytes$Reader" 128 2 10 := ⟨_, _, _, rfl, by decide, in_Rd, Or.inl (xtb_at 312 (by decide +kernel) (by decide +kernel))⟩
theorem F_Rd_42 : xfl "DviBytes$Reader" 42 2 11 := ⟨_, _, _, rfl, by decide, in_Rd, Or.inl (xtb_at 313 (by decide +kernel) (by decide +kernel))⟩
theorem F_Rd_122 : xfl "DviBytes$Reader" 122 2 12 := ⟨_, _, _, rfl, by decide, in_Rd, Or.inl (xtb_at 314 (by decide +kernel) (by decide +kernel))⟩
theorem F_Rd_45 : xfl "DviBytes$Reader" 45 2 13 := ⟨_, _, _, rfl, by decide, in_Rd, Or.inl (xtb_at 315 (by decide +kernel) (by decide +kernel))⟩
theorem F_Dv_10 : xfl "DviBytes" 10 8 0 := ⟨_, _, _, rfl, by decide, in_Dv, Or.inl (xtb_at 345 (by decide +kernel) (by decide +kernel))⟩
theorem F_Dv_19 : xfl "DviBytes" 19 8 1 := ⟨_, _, _, rfl, by decide, in_Dv, Or.inl (xtb_at 346 (by decide +kernel) (by decide +kernel))⟩
theorem F_Dv_23 : xfl "DviBytes" 23 8 2 := ⟨_, _, _, rfl, by decide, in_Dv, Or.inl (xtb_at 347 (by decide +kernel) (by decide +kernel))⟩
theorem F_Dv_30 : xfl "DviBytes" 30 8 3 := ⟨_, _, _, rfl, by decide, in_Dv, Or.inl (xtb_at 348 (by decide +kernel) (by decide +kernel))⟩
theorem F_Dv_39 : xfl "DviBytes" 39 8 4 := ⟨_, _, _, rfl, by decide, in_Dv, Or.inl (xtb_at 349 (by decide +kernel) (by decide +kernel))⟩
theorem F_Dv_46 : xfl "DviBytes" 46 8 5 := ⟨_, _, _, rfl, by decide, in_Dv, Or.inl (xtb_at 350 (by decide +kernel) (by decide +kernel))⟩
theorem F_Dv_53 : xfl "DviBytes" 53 8 6 := ⟨_, _, _, rfl, by decide, in_Dv, Or.inl (xtb_at 351 (by decide +kernel) (by decide +kernel))⟩
theorem F_Dv_62 : xfl "DviBytes" 62 8 7 := ⟨_, _, _, rfl, by decide, in_Dv, Or.inl (xtb_at 352 (by decide +kernel) (by decide +kernel))⟩
theorem F_Mo_97 : xfl "DviBytesModel" 97 9 0 := ⟨_, _, _, rfl, by decide, in_Mo, Or.inl (xtb_at 1015 (by decide +kernel) (by decide +kernel))⟩
theorem F_Mo_7 : xfl "DviBytesModel" 7 9 1 := ⟨_, _, _, rfl, by decide, in_Mo, Or.inl (xtb_at 1016 (by decide +kernel) (by decide +kernel))⟩
theorem F_Mo_13 : xfl "DviBytesModel" 13 9 2 := ⟨_, _, _, rfl, by decide, in_Mo, Or.inl (xtb_at 1017 (by decide +kernel) (by decide +kernel))⟩
theorem F_Mo_17 : xfl "DviBytesModel" 17 9 3 := ⟨_, _, _, rfl, by decide, in_Mo, Or.inl (xtb_at 1018 (by decide +kernel) (by decide +kernel))⟩
theorem F_Mo_20 : xfl "DviBytesModel" 20 9 4 := ⟨_, _, _, rfl, by decide, in_Mo, Or.inl (xtb_at 1019 (by decide +kernel) (by decide +kernel))⟩
theorem F_Mo_23 : xfl "DviBytesModel" 23 9 5 := ⟨_, _, _, rfl, by decide, in_Mo, Or.inl (xtb_at 1020 (by decide +kernel) (by decide +kernel))⟩
theorem F_Mo_26 : xfl "DviBytesModel" 26 9 6 := ⟨_, _, _, rfl, by decide, in_Mo, Or.inl (xtb_at 1021 (by decide +kernel) (by decide +kernel))⟩
theorem F_Mo_31 : xfl "DviBytesModel" 31 9 7 := ⟨_, _, _, rfl, by decide, in_Mo, Or.inl (xtb_at 1022 (by decide +kernel) (by decide +kernel))⟩
theorem F_Mo_34 : xfl "DviBytesModel" 34 9 8 := ⟨_, _, _, rfl, by decide, in_Mo, Or.inl (xtb_at 1023 (by decide +kernel) (by decide +kernel))⟩
theorem F_Mo_116 : xfl "DviBytesModel" 116 9 9 := ⟨_, _, _, rfl, by decide, in_Mo, Or.inl (xtb_at 1024 (by decide +kernel) (by decide +kernel))⟩
theorem F_Mo_38 : xfl "DviBytesModel" 38 9 10 := ⟨_, _, _, rfl, by decide, in_Mo, Or.inl (xtb_at 1025 (by decide +kernel) (by decide +kernel))⟩
theorem F_Mo_122 : xfl "DviBytesModel" 122 9 11 := ⟨_, _, _, rfl, by decide, in_Mo, Or.inl (xtb_at 1026 (by decide +kernel) (by decide +kernel))⟩
theorem F_Mo_125 : xfl "DviBytesModel" 125 9 12 := ⟨_, _, _, rfl, by decide, in_Mo, Or.inl (xtb_at 1027 (by decide +kernel) (by decide +kernel))⟩
theorem F_Mo_128 : xfl "DviBytesModel" 128 9 13 := ⟨_, _, _, rfl, by decide, in_Mo, Or.inl (xtb_at 1028 (by decide +kernel) (by decide +kernel))⟩
theorem F_Mo_132 : xfl "DviBytesModel" 132 9 14 := ⟨_, _, _, rfl, by decide, in_Mo, Or.inl (xtb_at 1029 (by decide +kernel) (by decide +kernel))⟩
theorem F_Mo_41 : xfl "DviBytesModel" 41 9 15 := ⟨_, _, _, rfl, by decide, in_Mo, Or.inl (xtb_at 1030 (by decide +kernel) (by decide +kernel))⟩
theorem F_Mo_135 : xfl "DviBytesModel" 135 9 16 := ⟨_, _, _, rfl, by decide, in_Mo, Or.inl (xtb_at 1031 (by decide +kernel) (by decide +kernel))⟩
theorem F_Mo_138 : xfl "DviBytesModel" 138 9 17 := ⟨_, _, _, rfl, by decide, in_Mo, Or.inl (xtb_at 1032 (by decide +kernel) (by decide +kernel))⟩
theorem F_Mo_100 : xfl "DviBytesModel" 100 9 18 := ⟨_, _, _, rfl, by decide, in_Mo, Or.inl (xtb_at 1033 (by decide +kernel) (by decide +kernel))⟩
theorem F_Mo_45 : xfl "DviBytesModel" 45 9 19 := ⟨_, _, _, rfl, by decide, in_Mo, Or.inl (xtb_at 1034 (by decide +kernel) (by decide +kernel))⟩
theorem F_Mo_119 : xfl "DviBytesModel" 119 9 20 := ⟨_, _, _, rfl, by decide, in_Mo, Or.inl (xtb_at 1035 (by decide +kernel) (by decide +kernel))⟩
theorem F_Mo_48 : xfl "DviBytesModel" 48 9 21 := ⟨_, _, _, rfl, by decide, in_Mo, Or.inl (xtb_at 1036 (by decide +kernel) (by decide +kernel))⟩
theorem F_Mo_51 : xfl "DviBytesModel" 51 9 22 := ⟨_, _, _, rfl, by decide, in_Mo, Or.inl (xtb_at 1037 (by decide +kernel) (by decide +kernel))⟩
theorem F_Mo_54 : xfl "DviBytesModel" 54 9 23 := ⟨_, _, _, rfl, by decide, in_Mo, Or.inl (xtb_at 1038 (by decide +kernel) (by decide +kernel))⟩
theorem F_Mo_57 : xfl "DviBytesModel" 57 9 24 := ⟨_, _, _, rfl, by decide, in_Mo, Or.inl (xtb_at 1039 (by decide +kernel) (by decide +kernel))⟩
theorem F_Mo_60 : xfl "DviBytesModel" 60 9 25 := ⟨_, _, _, rfl, by decide, in_Mo, Or.inl (xtb_at 1040 (by decide +kernel) (by decide +kernel))⟩
theorem F_Mo_63 : xfl "DviBytesModel" 63 9 26 := ⟨_, _, _, rfl, by decide, in_Mo, Or.inl (xtb_at 1041 (by decide +kernel) (by decide +kernel))⟩
theorem F_Mo_66 : xfl "DviBytesModel" 66 9 27 := ⟨_, _, _, rfl, by decide, in_Mo, Or.inl (xtb_at 1042 (by decide +kernel) (by decide +kernel))⟩
theorem F_Mo_69 : xfl "DviBytesModel" 69 9 28 := ⟨_, _, _, rfl, by decide, in_Mo, Or.inl (xtb_at 1043 (by decide +kernel) (by decide +kernel))⟩
theorem F_Mo_197 : xfl "DviBytesModel" 197 9 29 := ⟨_, _, _, rfl, by decide, in_Mo, Or.inl (xtb_at 1044 (by decide +kernel) (by decide +kernel))⟩
theorem F_Mo_73 : xfl "DviBytesModel" 73 9 30 := ⟨_, _, _, rfl, by decide, in_Mo, Or.inl (xtb_at 1045 (by decide +kernel) (by decide +kernel))⟩
theorem F_Mo_76 : xfl "DviBytesModel" 76 9 31 := ⟨_, _, _, rfl, by decide, in_Mo, Or.inl (xtb_at 1046 (by decide +kernel) (by decide +kernel))⟩
theorem F_Mo_279 : xfl "DviBytesModel" 279 9 32 := ⟨_, _, _, rfl, by decide, in_Mo, Or.inl (xtb_at 1047 (by decide +kernel) (by decide +kernel))⟩
theorem F_Mo_79 : xfl "DviBytesModel" 79 9 33 := ⟨_, _, _, rfl, by decide, in_Mo, Or.inl (xtb_at 1048 (by decide +kernel) (by decide +kernel))⟩
theorem F_Mo_257 : xfl "DviBytesModel" 257 9 34 := ⟨_, _, _, rfl, by decide, in_Mo, Or.inl (xtb_at 1049 (by decide +kernel) (by decide +kernel))⟩
theorem F_Mo_82 : xfl "DviBytesModel" 82 9 35 := ⟨_, _, _, rfl, by decide, in_Mo, Or.inl (xtb_at 1050 (by decide +kernel) (by decide +kernel))⟩
theorem F_Mo_238 : xfl "DviBytesModel" 238 9 36 := ⟨_, _, _, rfl, by decide, in_Mo, Or.inl (xtb_at 1051 (by decide +kernel) (by decide +kernel))⟩
theorem F_Mo_85 : xfl "DviBytesModel" 85 9 37 := ⟨_, _, _, rfl, by decide, in_Mo, Or.inl (xtb_at 1052 (by decide +kernel) (by decide +kernel))⟩
theorem F_Mo_88 : xfl "DviBytesModel" 88 9 38 := ⟨_, _, _, rfl, by decide, in_Mo, Or.inl (xtb_at 1053 (by decide +kernel) (by decide +kernel))⟩
theorem F_Mo_267 : xfl "DviBytesModel" 267 9 39 := ⟨_, _, _, rfl, by decide, in_Mo, Or.inl (xtb_at 1054 (by decide +kernel) (by decide +kernel))⟩
theorem F_Mo_270 : xfl "DviBytesModel" 270 9 40 := ⟨_, _, _, rfl, by decide, in_Mo, Or.inl (xtb_at 1055 (by decide +kernel) (by decide +kernel))⟩
theorem F_Mo_273 : xfl "DviBytesModel" 273 9 41 := ⟨_, _, _, rfl, by decide, in_Mo, Or.inl (xtb_at 1056 (by decide +kernel) (by decide +kernel))⟩
theorem F_Mo_292 : xfl "DviBytesModel" 292 9 42 := ⟨_, _, _, rfl, by decide, in_Mo, Or.inl (xtb_at 1057 (by decide +kernel) (by decide +kernel))⟩
theorem F_Mo_232 : xfl "DviBytesModel" 232 9 43 := ⟨_, _, _, rfl, by decide, in_Mo, Or.inl (xtb_at 1058 (by decide +kernel) (by decide +kernel))⟩
theorem F_Mo_203 : xfl "DviBytesModel" 203 9 44 := ⟨_, _, _, rfl, by decide, in_Mo, Or.inl (xtb_at 1059 (by decide +kernel) (by decide +kernel))⟩
theorem F_Mo_206 : xfl "DviBytesModel" 206 9 45 := ⟨_, _, _, rfl, by decide, in_Mo, Or.inl (xtb_at 1060 (by decide +kernel) (by decide +kernel))⟩
theorem F_Mo_254 : xfl "DviBytesModel" 254 9 46 := ⟨_, _, _, rfl, by decide, in_Mo, Or.inl (xtb_at 1061 (by decide +kernel) (by decide +kernel))⟩
theorem F_Mo_276 : xfl "DviBytesModel" 276 9 47 := ⟨_, _, _, rfl, by decide, in_Mo, Or.inl (xtb_at 1062 (by decide +kernel) (by decide +kernel))⟩
theorem F_Mo_282 : xfl "DviBytesModel" 282 9 48 := ⟨_, _, _, rfl, by decide, in_Mo, Or.inl (xtb_at 1063 (by decide +kernel) (by decide +kernel))⟩
theorem F_Mo_260 : xfl "DviBytesModel" 260 9 49 := ⟨_, _, _, rfl, by decide, in_Mo, Or.inl (xtb_at 1064 (by decide +kernel) (by decide +kernel))⟩
theorem F_Mo_263 : xfl "DviBytesModel" 263 9 50 := ⟨_, _, _, rfl, by decide, in_Mo, Or.inl (xtb_at 1065 (by decide +kernel) (by decide +kernel))⟩
theorem F_Mo_91 : xfl "DviBytesModel" 91 9 51 := ⟨_, _, _, rfl, by decide, in_Mo, Or.inl (xtb_at 1066 (by decide +kernel) (by decide +kernel))⟩
theorem F_Mo_94 : xfl "DviBytesModel" 94 9 52 := ⟨_, _, _, rfl, by decide, in_Mo, Or.inl (xtb_at 1067 (by decide +kernel) (by decide +kernel))⟩
theorem CD_Dv_init : xcd m_Dv_init := xtb_at 86 (by decide +kernel) (by decide +kernel)
theorem CD_Wi_init : xcd m_Wi_init := xtb_at 94 (by decide +kernel) (by decide +kernel)
theorem CD_Fo_init : xcd m_Fo_init := xtb_at 106 (by decide +kernel) (by decide +kernel)
theorem CD_Sh_init : xcd m_Sh_init := xtb_at 132 (by decide +kernel) (by decide +kernel)
theorem CD_Wr_init : xcd m_Wr_init := xtb_at 145 (by decide +kernel) (by decide +kernel)
theorem CD_By_init : xcd m_By_init := xtb_at 151 (by decide +kernel) (by decide +kernel)
theorem CD_Wa_init : xcd m_Wa_init := xtb_at 166 (by decide +kernel) (by decide +kernel)
theorem CD_Rg_init : xcd m_Rg_init := xtb_at 243 (by decide +kernel) (by decide +kernel)
theorem CD_Rd_init : xcd m_Rd_init := xtb_at 300 (by decide +kernel) (by decide +kernel)
theorem CD_Dv_size : xcd m_Dv_size := xtb_at 373 (by decide +kernel) (by decide +kernel)
theorem CD_Wr_bytes : xcd m_Wr_bytes := xtb_at 377 (by decide +kernel) (by decide +kernel)
theorem CD_By_length : xcd m_By_length := xtb_at 381 (by decide +kernel) (by decide +kernel)
theorem CD_Dv_feed : xcd m_Dv_feed := xtb_at 385 (by decide +kernel) (by decide +kernel)
theorem CD_By_add : xcd m_By_add := xtb_at 390 (by decide +kernel) (by decide +kernel)
theorem CD_Dv_keep : xcd m_Dv_keep := xtb_at 394 (by decide +kernel) (by decide +kernel)
theorem CD_By_cut : xcd m_By_cut := xtb_at 398 (by decide +kernel) (by decide +kernel)
theorem CD_Dv_copy : xcd m_Dv_copy := xtb_at 402 (by decide +kernel) (by decide +kernel)
theorem CD_By_become : xcd m_By_become := xtb_at 406 (by decide +kernel) (by decide +kernel)
theorem CD_Dv_read : xcd m_Dv_read := xtb_at 416 (by decide +kernel) (by decide +kernel)
theorem CD_Rd_restart : xcd m_Rd_restart := xtb_at 420 (by decide +kernel) (by decide +kernel)
theorem CD_Rg_clear : xcd m_Rg_clear := xtb_at 424 (by decide +kernel) (by decide +kernel)
theorem CD_Rd_readCommands : xcd m_Rd_readCommands := xtb_at 429 (by decide +kernel) (by decide +kernel)
theorem CD_By_at : xcd m_By_at := xtb_at 434 (by decide +kernel) (by decide +kernel)
theorem CD_Rd_bytesOfNumber : xcd m_Rd_bytesOfNumber := xtb_at 437 (by decide +kernel) (by decide +kernel)
theorem CD_Rd_bytesBehind : xcd m_Rd_bytesBehind := xtb_at 443 (by decide +kernel) (by decide +kernel)
theorem CD_Rd_fixedBytes : xcd m_Rd_fixedBytes := xtb_at 447 (by decide +kernel) (by decide +kernel)
theorem CD_Rd_isDefinition : xcd m_Rd_isDefinition := xtb_at 451 (by decide +kernel) (by decide +kernel)
theorem CD_Rd_bytesOfText : xcd m_Rd_bytesOfText := xtb_at 455 (by decide +kernel) (by decide +kernel)
theorem CD_By_number : xcd m_By_number := xtb_at 459 (by decide +kernel) (by decide +kernel)
theorem CD_Rd_canStand : xcd m_Rd_canStand := xtb_at 464 (by decide +kernel) (by decide +kernel)
theorem CD_Rd_obey : xcd m_Rd_obey := xtb_at 468 (by decide +kernel) (by decide +kernel)
theorem CD_Rd_obeyMove : xcd m_Rd_obeyMove := xtb_at 472 (by decide +kernel) (by decide +kernel)
theorem CD_By_signedNumber : xcd m_By_signedNumber := xtb_at 476 (by decide +kernel) (by decide +kernel)
theorem CD_Rd_grow : xcd m_Rd_grow := xtb_at 481 (by decide +kernel) (by decide +kernel)
theorem CD_Dv_isInt : xcd m_Dv_isInt := xtb_at 484 (by decide +kernel) (by decide +kernel)
theorem CD_Rd_obeyFont : xcd m_Rd_obeyFont := xtb_at 488 (by decide +kernel) (by decide +kernel)
theorem CD_Rg_findFont : xcd m_Rg_findFont := xtb_at 492 (by decide +kernel) (by decide +kernel)
theorem CD_Rd_obeyDefinition : xcd m_Rd_obeyDefinition := xtb_at 496 (by decide +kernel) (by decide +kernel)
theorem CD_Rg_isSameFont : xcd m_Rg_isSameFont := xtb_at 500 (by decide +kernel) (by decide +kernel)
theorem CD_Rg_fontPart : xcd m_Rg_fontPart := xtb_at 504 (by decide +kernel) (by decide +kernel)
theorem CD_Rg_isIn : xcd m_Rg_isIn := xtb_at 507 (by decide +kernel) (by decide +kernel)
theorem CD_Rg_nameLengthAt : xcd m_Rg_nameLengthAt := xtb_at 512 (by decide +kernel) (by decide +kernel)
theorem CD_Rg_addFont : xcd m_Rg_addFont := xtb_at 516 (by decide +kernel) (by decide +kernel)
theorem CD_Rd_obeyRule : xcd m_Rd_obeyRule := xtb_at 522 (by decide +kernel) (by decide +kernel)
theorem CD_Rg_addMark : xcd m_Rg_addMark := xtb_at 526 (by decide +kernel) (by decide +kernel)
theorem CD_Rd_obeyBegin : xcd m_Rd_obeyBegin := xtb_at 530 (by decide +kernel) (by decide +kernel)
theorem CD_Rg_addPage : xcd m_Rg_addPage := xtb_at 534 (by decide +kernel) (by decide +kernel)
theorem CD_Rd_obeyPush : xcd m_Rd_obeyPush := xtb_at 538 (by decide +kernel) (by decide +kernel)
theorem CD_Rd_obeyPop : xcd m_Rd_obeyPop := xtb_at 545 (by decide +kernel) (by decide +kernel)
theorem CD_Rd_obeyLast : xcd m_Rd_obeyLast := xtb_at 549 (by decide +kernel) (by decide +kernel)
theorem CD_Rd_obeyCharacter : xcd m_Rd_obeyCharacter := xtb_at 554 (by decide +kernel) (by decide +kernel)
theorem CD_Wi_of : xcd m_Wi_of := xtb_at 559 (by decide +kernel) (by decide +kernel)
theorem CD_Dv_isByte : xcd m_Dv_isByte := xtb_at 562 (by decide +kernel) (by decide +kernel)
theorem CD_Rd_place : xcd m_Rd_place := xtb_at 568 (by decide +kernel) (by decide +kernel)
theorem CD_Dv_font : xcd m_Dv_font := xtb_at 577 (by decide +kernel) (by decide +kernel)
theorem CD_Dv_isName : xcd m_Dv_isName := xtb_at 581 (by decide +kernel) (by decide +kernel)
theorem CD_Dv_letterOf : xcd m_Dv_letterOf := xtb_at 584 (by decide +kernel) (by decide +kernel)
theorem CD_Wr_hasTold : xcd m_Wr_hasTold := xtb_at 657 (by decide +kernel) (by decide +kernel)
theorem CD_Fo_define : xcd m_Fo_define := xtb_at 678 (by decide +kernel) (by decide +kernel)
theorem CD_Fo_call : xcd m_Fo_call := xtb_at 683 (by decide +kernel) (by decide +kernel)
theorem CD_Dv_width : xcd m_Dv_width := xtb_at 690 (by decide +kernel) (by decide +kernel)
theorem CD_Wi_change : xcd m_Wi_change := xtb_at 695 (by decide +kernel) (by decide +kernel)
theorem CD_Dv_count : xcd m_Dv_count := xtb_at 702 (by decide +kernel) (by decide +kernel)
theorem CD_Dv_begin : xcd m_Dv_begin := xtb_at 710 (by decide +kernel) (by decide +kernel)
theorem CD_Wr_restart : xcd m_Wr_restart := xtb_at 715 (by decide +kernel) (by decide +kernel)
theorem CD_Wr_goBack : xcd m_Wr_goBack := xtb_at 719 (by decide +kernel) (by decide +kernel)
theorem CD_Sh_clear : xcd m_Sh_clear := xtb_at 724 (by decide +kernel) (by decide +kernel)
theorem CD_Dv_put : xcd m_Dv_put := xtb_at 732 (by decide +kernel) (by decide +kernel)
theorem CD_Fo_isDefined : xcd m_Fo_isDefined := xtb_at 736 (by decide +kernel) (by decide +kernel)
theorem CD_Dv_isNear : xcd m_Dv_isNear := xtb_at 739 (by decide +kernel) (by decide +kernel)
theorem CD_Sh_isFull : xcd m_Sh_isFull := xtb_at 746 (by decide +kernel) (by decide +kernel)
theorem CD_Sh_add : xcd m_Sh_add := xtb_at 766 (by decide +kernel) (by decide +kernel)
theorem CD_Dv_rule : xcd m_Dv_rule := xtb_at 773 (by decide +kernel) (by decide +kernel)
theorem CD_Dv_isExtent : xcd m_Dv_isExtent := xtb_at 776 (by decide +kernel) (by decide +kernel)
theorem CD_Dv_ship : xcd m_Dv_ship := xtb_at 785 (by decide +kernel) (by decide +kernel)
theorem CD_Wr_isClosed : xcd m_Wr_isClosed := xtb_at 789 (by decide +kernel) (by decide +kernel)
theorem CD_Wr_planPage : xcd m_Wr_planPage := xtb_at 794 (by decide +kernel) (by decide +kernel)
theorem CD_Wa_clear : xcd m_Wa_clear := xtb_at 798 (by decide +kernel) (by decide +kernel)
theorem CD_Sh_length : xcd m_Sh_length := xtb_at 802 (by decide +kernel) (by decide +kernel)
theorem CD_Sh_x : xcd m_Sh_x := xtb_at 806 (by decide +kernel) (by decide +kernel)
theorem CD_Sh_part : xcd m_Sh_part := xtb_at 810 (by decide +kernel) (by decide +kernel)
theorem CD_Sh_y : xcd m_Sh_y := xtb_at 814 (by decide +kernel) (by decide +kernel)
theorem CD_Wr_growth : xcd m_Wr_growth := xtb_at 818 (by decide +kernel) (by decide +kernel)
theorem CD_Sh_isRule : xcd m_Sh_isRule := xtb_at 822 (by decide +kernel) (by decide +kernel)
theorem CD_Sh_fontOf : xcd m_Sh_fontOf := xtb_at 826 (by decide +kernel) (by decide +kernel)
theorem CD_Sh_characterOrWidth : xcd m_Sh_characterOrWidth := xtb_at 830 (by decide +kernel) (by decide +kernel)
theorem CD_Wa_plan : xcd m_Wa_plan := xtb_at 836 (by decide +kernel) (by decide +kernel)
theorem CD_Wr_writePage : xcd m_Wr_writePage := xtb_at 857 (by decide +kernel) (by decide +kernel)
theorem CD_Wr_writeStart : xcd m_Wr_writeStart := xtb_at 862 (by decide +kernel) (by decide +kernel)
theorem CD_Wr_writeScale : xcd m_Wr_writeScale := xtb_at 867 (by decide +kernel) (by decide +kernel)
theorem CD_By_addNumber : xcd m_By_addNumber := xtb_at 872 (by decide +kernel) (by decide +kernel)
theorem CD_Wr_writeMarks : xcd m_Wr_writeMarks := xtb_at 878 (by decide +kernel) (by decide +kernel)
theorem CD_Wa_write : xcd m_Wa_write := xtb_at 882 (by decide +kernel) (by decide +kernel)
theorem CD_Wa_comesBehind : xcd m_Wa_comesBehind := xtb_at 887 (by decide +kernel) (by decide +kernel)
theorem CD_By_addShortest : xcd m_By_addShortest := xtb_at 891 (by decide +kernel) (by decide +kernel)
theorem CD_By_bytesFor : xcd m_By_bytesFor := xtb_at 894 (by decide +kernel) (by decide +kernel)
theorem CD_Sh_height : xcd m_Sh_height := xtb_at 902 (by decide +kernel) (by decide +kernel)
theorem CD_Wr_writeFont : xcd m_Wr_writeFont := xtb_at 906 (by decide +kernel) (by decide +kernel)
theorem CD_Fo_writeDefinition : xcd m_Fo_writeDefinition := xtb_at 911 (by decide +kernel) (by decide +kernel)
theorem CD_Wr_remember : xcd m_Wr_remember := xtb_at 918 (by decide +kernel) (by decide +kernel)
theorem CD_Wr_writeCharacter : xcd m_Wr_writeCharacter := xtb_at 922 (by decide +kernel) (by decide +kernel)
theorem CD_Wr_pageCount : xcd m_Wr_pageCount := xtb_at 928 (by decide +kernel) (by decide +kernel)
theorem CD_Dv_close : xcd m_Dv_close := xtb_at 935 (by decide +kernel) (by decide +kernel)
theorem CD_Wr_writeEnd : xcd m_Wr_writeEnd := xtb_at 939 (by decide +kernel) (by decide +kernel)
theorem CD_Dv_out : xcd m_Dv_out := xtb_at 947 (by decide +kernel) (by decide +kernel)
theorem CD_Dv_about : xcd m_Dv_about := xtb_at 971 (by decide +kernel) (by decide +kernel)
theorem CD_Dv_mark : xcd m_Dv_mark := xtb_at 979 (by decide +kernel) (by decide +kernel)
theorem CD_Rg_markPart : xcd m_Rg_markPart := xtb_at 984 (by decide +kernel) (by decide +kernel)
theorem CD_Dv_page : xcd m_Dv_page := xtb_at 991 (by decide +kernel) (by decide +kernel)
theorem CD_Rg_pagePart : xcd m_Rg_pagePart := xtb_at 996 (by decide +kernel) (by decide +kernel)
theorem CD_Dv_told : xcd m_Dv_told := xtb_at 1003 (by decide +kernel) (by decide +kernel)
theorem CD_Mo_init : xcd m_Mo_init := xtb_at 1010 (by decide +kernel) (by decide +kernel)
theorem CD_Mo_thrown : xcd m_Mo_thrown := xtb_at 1178 (by decide +kernel) (by decide +kernel)
theorem CD_Mo_font : xcd m_Mo_font := xtb_at 1182 (by decide +kernel) (by decide +kernel)
theorem CD_Mo_isByte : xcd m_Mo_isByte := xtb_at 1185 (by decide +kernel) (by decide +kernel)
theorem CD_Mo_letter : xcd m_Mo_letter := xtb_at 1188 (by decide +kernel) (by decide +kernel)
theorem CD_Mo_isTold : xcd m_Mo_isTold := xtb_at 1193 (by decide +kernel) (by decide +kernel)
theorem CD_Mo_width : xcd m_Mo_width := xtb_at 1197 (by decide +kernel) (by decide +kernel)
theorem CD_Mo_count : xcd m_Mo_count := xtb_at 1201 (by decide +kernel) (by decide +kernel)
theorem CD_Mo_begin : xcd m_Mo_begin := xtb_at 1205 (by decide +kernel) (by decide +kernel)
theorem CD_Mo_put : xcd m_Mo_put := xtb_at 1209 (by decide +kernel) (by decide +kernel)
theorem CD_Mo_isPlace : xcd m_Mo_isPlace := xtb_at 1212 (by decide +kernel) (by decide +kernel)
theorem CD_Mo_mark5 : xcd m_Mo_mark5 := xtb_at 1218 (by decide +kernel) (by decide +kernel)
theorem CD_Mo_rule : xcd m_Mo_rule := xtb_at 1222 (by decide +kernel) (by decide +kernel)
theorem CD_Mo_ship : xcd m_Mo_ship := xtb_at 1226 (by decide +kernel) (by decide +kernel)
theorem CD_Mo_findMoves : xcd m_Mo_findMoves := xtb_at 1230 (by decide +kernel) (by decide +kernel)
theorem CD_Mo_isInt : xcd m_Mo_isInt := xtb_at 1233 (by decide +kernel) (by decide +kernel)
theorem CD_Mo_writePage : xcd m_Mo_writePage := xtb_at 1239 (by decide +kernel) (by decide +kernel)
theorem CD_Mo_open : xcd m_Mo_open := xtb_at 1243 (by decide +kernel) (by decide +kernel)
theorem CD_Mo_lay : xcd m_Mo_lay := xtb_at 1247 (by decide +kernel) (by decide +kernel)
theorem CD_Mo_layNumber : xcd m_Mo_layNumber := xtb_at 1252 (by decide +kernel) (by decide +kernel)
theorem CD_Mo_move : xcd m_Mo_move := xtb_at 1257 (by decide +kernel) (by decide +kernel)
theorem CD_Mo_bytesOf : xcd m_Mo_bytesOf := xtb_at 1260 (by decide +kernel) (by decide +kernel)
theorem CD_Mo_comes : xcd m_Mo_comes := xtb_at 1267 (by decide +kernel) (by decide +kernel)
theorem CD_Mo_define : xcd m_Mo_define := xtb_at 1271 (by decide +kernel) (by decide +kernel)
theorem CD_Mo_close : xcd m_Mo_close := xtb_at 1276 (by decide +kernel) (by decide +kernel)
theorem CD_Mo_size : xcd m_Mo_size := xtb_at 1280 (by decide +kernel) (by decide +kernel)
theorem CD_Mo_out : xcd m_Mo_out := xtb_at 1284 (by decide +kernel) (by decide +kernel)
theorem CD_Mo_feed : xcd m_Mo_feed := xtb_at 1288 (by decide +kernel) (by decide +kernel)
theorem CD_Mo_keep : xcd m_Mo_keep := xtb_at 1292 (by decide +kernel) (by decide +kernel)
theorem CD_Mo_copy : xcd m_Mo_copy := xtb_at 1296 (by decide +kernel) (by decide +kernel)
theorem CD_Mo_read : xcd m_Mo_read := xtb_at 1300 (by decide +kernel) (by decide +kernel)
theorem CD_Mo_forget : xcd m_Mo_forget := xtb_at 1304 (by decide +kernel) (by decide +kernel)
theorem CD_Mo_goThrough : xcd m_Mo_goThrough := xtb_at 1308 (by decide +kernel) (by decide +kernel)
theorem CD_Mo_fault : xcd m_Mo_fault := xtb_at 1311 (by decide +kernel) (by decide +kernel)
theorem CD_Mo_byteAt : xcd m_Mo_byteAt := xtb_at 1316 (by decide +kernel) (by decide +kernel)
theorem CD_Mo_length : xcd m_Mo_length := xtb_at 1320 (by decide +kernel) (by decide +kernel)
theorem CD_Mo_among : xcd m_Mo_among := xtb_at 1323 (by decide +kernel) (by decide +kernel)
theorem CD_Mo_moveBytes : xcd m_Mo_moveBytes := xtb_at 1328 (by decide +kernel) (by decide +kernel)
theorem CD_Mo_number : xcd m_Mo_number := xtb_at 1332 (by decide +kernel) (by decide +kernel)
theorem CD_Mo_mayStand : xcd m_Mo_mayStand := xtb_at 1340 (by decide +kernel) (by decide +kernel)
theorem CD_Mo_isFontTold : xcd m_Mo_isFontTold := xtb_at 1344 (by decide +kernel) (by decide +kernel)
theorem CD_Mo_within : xcd m_Mo_within := xtb_at 1348 (by decide +kernel) (by decide +kernel)
theorem CD_Mo_setCharacter : xcd m_Mo_setCharacter := xtb_at 1352 (by decide +kernel) (by decide +kernel)
theorem CD_Mo_noteMark : xcd m_Mo_noteMark := xtb_at 1356 (by decide +kernel) (by decide +kernel)
theorem CD_Mo_add : xcd m_Mo_add := xtb_at 1360 (by decide +kernel) (by decide +kernel)
theorem CD_Mo_setRule : xcd m_Mo_setRule := xtb_at 1364 (by decide +kernel) (by decide +kernel)
theorem CD_Mo_push : xcd m_Mo_push := xtb_at 1368 (by decide +kernel) (by decide +kernel)
theorem CD_Mo_pop : xcd m_Mo_pop := xtb_at 1372 (by decide +kernel) (by decide +kernel)
theorem CD_Mo_moveBy : xcd m_Mo_moveBy := xtb_at 1376 (by decide +kernel) (by decide +kernel)
theorem CD_Mo_take : xcd m_Mo_take := xtb_at 1380 (by decide +kernel) (by decide +kernel)
theorem CD_Mo_fontAt : xcd m_Mo_fontAt := xtb_at 1384 (by decide +kernel) (by decide +kernel)
theorem CD_Mo_tell : xcd m_Mo_tell := xtb_at 1388 (by decide +kernel) (by decide +kernel)
theorem CD_Mo_isSame : xcd m_Mo_isSame := xtb_at 1392 (by decide +kernel) (by decide +kernel)
theorem CD_Mo_nameSize : xcd m_Mo_nameSize := xtb_at 1396 (by decide +kernel) (by decide +kernel)
theorem CD_Mo_behindNumber : xcd m_Mo_behindNumber := xtb_at 1400 (by decide +kernel) (by decide +kernel)
theorem CD_Mo_outside : xcd m_Mo_outside := xtb_at 1404 (by decide +kernel) (by decide +kernel)
theorem CD_Mo_beginPage : xcd m_Mo_beginPage := xtb_at 1408 (by decide +kernel) (by decide +kernel)
theorem CD_Mo_post : xcd m_Mo_post := xtb_at 1412 (by decide +kernel) (by decide +kernel)
theorem CD_Mo_about : xcd m_Mo_about := xtb_at 1417 (by decide +kernel) (by decide +kernel)
theorem CD_Mo_mark2 : xcd m_Mo_mark2 := xtb_at 1421 (by decide +kernel) (by decide +kernel)
theorem CD_Mo_page : xcd m_Mo_page := xtb_at 1425 (by decide +kernel) (by decide +kernel)
theorem CD_Mo_told : xcd m_Mo_told := xtb_at 1429 (by decide +kernel) (by decide +kernel)
theorem L_La_65 : xlI "DviBytesLaw" 65 m_Dv_init.1 0 := ⟨Or.inl (xtb_at 84 (by decide +kernel) (by decide +kernel)), xtb_at 85 (by decide +kernel) (by decide +kernel), xtb_at 62 (by decide +kernel) (by decide +kernel), ⟨by decide, by decide, by decide +kernel⟩, rfl⟩
theorem L_Dv_9 : xlI "DviBytes" 9 m_Wi_init.1 0 := ⟨Or.inr ⟨"DviBytes", xnest_at 92 (by decide +kernel) (by decide +kernel)⟩, xtb_at 93 (by decide +kernel) (by decide +kernel), xtb_at 63 (by decide +kernel) (by decide +kernel), ⟨by decide, by decide, by decide +kernel⟩, rfl⟩
theorem L_Dv_18 : xlI "DviBytes" 18 m_Fo_init.1 0 := ⟨Or.inr ⟨"DviBytes", xnest_at 104 (by decide +kernel) (by decide +kernel)⟩, xtb_at 105 (by decide +kernel) (by decide +kernel), xtb_at 64 (by decide +kernel) (by decide +kernel), ⟨by decide, by decide, by decide +kernel⟩, rfl⟩
theorem L_Dv_29 : xlI "DviBytes" 29 m_Sh_init.1 0 := ⟨Or.inr ⟨"DviBytes", xnest_at 130 (by decide +kernel) (by decide +kernel)⟩, xtb_at 131 (by decide +kernel) (by decide +kernel), xtb_at 65 (by decide +kernel) (by decide +kernel), ⟨by decide, by decide, by decide +kernel⟩, rfl⟩
theorem L_Dv_36 : xlI "DviBytes" 36 m_Wr_init.1 2 := ⟨Or.inl (xtb_at 143 (by decide +kernel) (by decide +kernel)), xtb_at 144 (by decide +kernel) (by decide +kernel), xtb_at 66 (by decide +kernel) (by decide +kernel), ⟨by decide, by decide, by decide +kernel⟩, rfl⟩
theorem L_Wr_11 : xlI "DviBytes$Writer" 11 m_By_init.1 0 := ⟨Or.inr ⟨"DviBytes", xnest_at 149 (by decide +kernel) (by decide +kernel)⟩, xtb_at 150 (by decide +kernel) (by decide +kernel), xtb_at 67 (by decide +kernel) (by decide +kernel), ⟨by decide, by decide, by decide +kernel⟩, rfl⟩
theorem L_Wr_20 : xlI "DviBytes$Writer" 20 m_Wa_init.1 1 := ⟨Or.inl (xtb_at 164 (by decide +kernel) (by decide +kernel)), xtb_at 165 (by decide +kernel) (by decide +kernel), xtb_at 68 (by decide +kernel) (by decide +kernel), ⟨by decide, by decide, by decide +kernel⟩, rfl⟩
theorem L_Dv_45 : xlI "DviBytes" 45 m_By_init.1 0 := ⟨Or.inr ⟨"DviBytes", xnest_at 238 (by decide +kernel) (by decide +kernel)⟩, xtb_at 150 (by decide +kernel) (by decide +kernel), xtb_at 67 (by decide +kernel) (by decide +kernel), ⟨by decide, by decide, by decide +kernel⟩, rfl⟩
theorem L_Dv_52 : xlI "DviBytes" 52 m_Rg_init.1 0 := ⟨Or.inr ⟨"DviBytes", xnest_at 241 (by decide +kernel) (by decide +kernel)⟩, xtb_at 242 (by decide +kernel) (by decide +kernel), xtb_at 69 (by decide +kernel) (by decide +kernel), ⟨by decide, by decide, by decide +kernel⟩, rfl⟩
theorem L_Rg_26 : xlI "DviBytes$Reading" 26 m_By_init.1 0 := ⟨Or.inr ⟨"DviBytes", xnest_at 246 (by decide +kernel) (by decide +kernel)⟩, xtb_at 150 (by decide +kernel) (by decide +kernel), xtb_at 67 (by decide +kernel) (by decide +kernel), ⟨by decide, by decide, by decide +kernel⟩, rfl⟩
theorem L_Dv_59 : xlI "DviBytes" 59 m_Rd_init.1 3 := ⟨Or.inl (xtb_at 298 (by decide +kernel) (by decide +kernel)), xtb_at 299 (by decide +kernel) (by decide +kernel), xtb_at 70 (by decide +kernel) (by decide +kernel), ⟨by decide, by decide, by decide +kernel⟩, rfl⟩
theorem L_La_105 : xlV "DviBytesLaw" 105 m_Dv_size.1 0 := ⟨Or.inl (xtb_at 370 (by decide +kernel) (by decide +kernel)), xtb_at 371 (by decide +kernel) (by decide +kernel), xtb_at 372 (by decide +kernel) (by decide +kernel), xtb_at 62 (by decide +kernel) (by decide +kernel), ⟨by decide, by decide, by decide +kernel⟩⟩
theorem L_Dv_167 : xlV "DviBytes" 167 m_Wr_bytes.1 0 := ⟨Or.inl (xtb_at 374 (by decide +kernel) (by decide +kernel)), xtb_at 375 (by decide +kernel) (by decide +kernel), xtb_at 376 (by decide +kernel) (by decide +kernel), xtb_at 66 (by decide +kernel) (by decide +kernel), ⟨by decide, by decide, by decide +kernel⟩⟩
theorem L_Dv_171 : xlV "DviBytes" 171 m_By_length.1 0 := ⟨Or.inl (xtb_at 378 (by decide +kernel) (by decide +kernel)), xtb_at 379 (by decide +kernel) (by decide +kernel), xtb_at 380 (by decide +kernel) (by decide +kernel), xtb_at 67 (by decide +kernel) (by decide +kernel), ⟨by decide, by decide, by decide +kernel⟩⟩
theorem L_La_113 : xlV "DviBytesLaw" 113 m_Dv_feed.1 2 := ⟨Or.inl (xtb_at 382 (by decide +kernel) (by decide +kernel)), xtb_at 383 (by decide +kernel) (by decide +kernel), xtb_at 384 (by decide +kernel) (by decide +kernel), xtb_at 62 (by decide +kernel) (by decide +kernel), ⟨by decide, by decide, by decide +kernel⟩⟩
theorem L_Dv_184 : xlV "DviBytes" 184 m_By_add.1 1 := ⟨Or.inl (xtb_at 387 (by decide +kernel) (by decide +kernel)), xtb_at 388 (by decide +kernel) (by decide +kernel), xtb_at 389 (by decide +kernel) (by decide +kernel), xtb_at 67 (by decide +kernel) (by decide +kernel), ⟨by decide, by decide, by decide +kernel⟩⟩
theorem L_La_118 : xlV "DviBytesLaw" 118 m_Dv_keep.1 1 := ⟨Or.inl (xtb_at 391 (by decide +kernel) (by decide +kernel)), xtb_at 392 (by decide +kernel) (by decide +kernel), xtb_at 393 (by decide +kernel) (by decide +kernel), xtb_at 62 (by decide +kernel) (by decide +kernel), ⟨by decide, by decide, by decide +kernel⟩⟩
theorem L_Dv_187 : xlV "DviBytes" 187 m_By_cut.1 1 := ⟨Or.inl (xtb_at 395 (by decide +kernel) (by decide +kernel)), xtb_at 396 (by decide +kernel) (by decide +kernel), xtb_at 397 (by decide +kernel) (by decide +kernel), xtb_at 67 (by decide +kernel) (by decide +kernel), ⟨by decide, by decide, by decide +kernel⟩⟩
theorem L_La_123 : xlV "DviBytesLaw" 123 m_Dv_copy.1 0 := ⟨Or.inl (xtb_at 399 (by decide +kernel) (by decide +kernel)), xtb_at 400 (by decide +kernel) (by decide +kernel), xtb_at 401 (by decide +kernel) (by decide +kernel), xtb_at 62 (by decide +kernel) (by decide +kernel), ⟨by decide, by decide, by decide +kernel⟩⟩
theorem L_Dv_190 : xlV "DviBytes" 190 m_By_become.1 1 := ⟨Or.inl (xtb_at 403 (by decide +kernel) (by decide +kernel)), xtb_at 404 (by decide +kernel) (by decide +kernel), xtb_at 405 (by decide +kernel) (by decide +kernel), xtb_at 67 (by decide +kernel) (by decide +kernel), ⟨by decide, by decide, by decide +kernel⟩⟩
theorem L_La_127 : xlV "DviBytesLaw" 127 m_Dv_read.1 0 := ⟨Or.inl (xtb_at 413 (by decide +kernel) (by decide +kernel)), xtb_at 414 (by decide +kernel) (by decide +kernel), xtb_at 415 (by decide +kernel) (by decide +kernel), xtb_at 62 (by decide +kernel) (by decide +kernel), ⟨by decide, by decide, by decide +kernel⟩⟩
theorem L_Dv_194 : xlV "DviBytes" 194 m_Rd_restart.1 0 := ⟨Or.inl (xtb_at 417 (by decide +kernel) (by decide +kernel)), xtb_at 418 (by decide +kernel) (by decide +kernel), xtb_at 419 (by decide +kernel) (by decide +kernel), xtb_at 70 (by decide +kernel) (by decide +kernel), ⟨by decide, by decide, by decide +kernel⟩⟩
theorem L_Rd_30 : xlV "DviBytes$Reader" 30 m_Rg_clear.1 0 := ⟨Or.inl (xtb_at 421 (by decide +kernel) (by decide +kernel)), xtb_at 422 (by decide +kernel) (by decide +kernel), xtb_at 423 (by decide +kernel) (by decide +kernel), xtb_at 69 (by decide +kernel) (by decide +kernel), ⟨by decide, by decide, by decide +kernel⟩⟩
theorem L_Rg_31 : xlV "DviBytes$Reading" 31 m_By_cut.1 1 := ⟨Or.inl (xtb_at 425 (by decide +kernel) (by decide +kernel)), xtb_at 396 (by decide +kernel) (by decide +kernel), xtb_at 397 (by decide +kernel) (by decide +kernel), xtb_at 67 (by decide +kernel) (by decide +kernel), ⟨by decide, by decide, by decide +kernel⟩⟩
theorem L_Dv_196 : xlV "DviBytes" 196 m_Rd_readCommands.1 0 := ⟨Or.inl (xtb_at 426 (by decide +kernel) (by decide +kernel)), xtb_at 427 (by decide +kernel) (by decide +kernel), xtb_at 428 (by decide +kernel) (by decide +kernel), xtb_at 70 (by decide +kernel) (by decide +kernel), ⟨by decide, by decide, by decide +kernel⟩⟩
theorem L_Rd_48 : xlV "DviBytes$Reader" 48 m_By_length.1 0 := ⟨Or.inl (xtb_at 430 (by decide +kernel) (by decide +kernel)), xtb_at 379 (by decide +kernel) (by decide +kernel), xtb_at 380 (by decide +kernel) (by decide +kernel), xtb_at 67 (by decide +kernel) (by decide +kernel), ⟨by decide, by decide, by decide +kernel⟩⟩
theorem L_Rd_54 : xlV "DviBytes$Reader" 54 m_By_at.1 1 := ⟨Or.inl (xtb_at 431 (by decide +kernel) (by decide +kernel)), xtb_at 432 (by decide +kernel) (by decide +kernel), xtb_at 433 (by decide +kernel) (by decide +kernel), xtb_at 67 (by decide +kernel) (by decide +kernel), ⟨by decide, by decide, by decide +kernel⟩⟩
theorem L_Rd_60 : xlS "DviBytes$Reader" 60 m_Rd_bytesOfNumber.1 1 := ⟨Or.inl (xtb_at 435 (by decide +kernel) (by decide +kernel)), xtb_at 436 (by decide +kernel) (by decide +kernel), xtb_at 70 (by decide +kernel) (by decide +kernel), ⟨by decide, by decide, by decide +kernel⟩⟩
theorem L_Rd_66 : xlV "DviBytes$Reader" 66 m_Rd_bytesBehind.1 0 := ⟨Or.inl (xtb_at 440 (by decide +kernel) (by decide +kernel)), xtb_at 442 (by decide +kernel) (by decide +kernel), xtb_at 0 (by decide +kernel) (by decide +kernel), xtb_at 70 (by decide +kernel) (by decide +kernel), ⟨by decide, by decide, by decide +kernel⟩⟩
theorem L_Rd_79 : xlV "DviBytes$Reader" 79 m_Rd_fixedBytes.1 0 := ⟨Or.inl (xtb_at 444 (by decide +kernel) (by decide +kernel)), xtb_at 446 (by decide +kernel) (by decide +kernel), xtb_at 1 (by decide +kernel) (by decide +kernel), xtb_at 70 (by decide +kernel) (by decide +kernel), ⟨by decide, by decide, by decide +kernel⟩⟩
theorem L_Rd_85 : xlV "DviBytes$Reader" 85 m_Rd_isDefinition.1 0 := ⟨Or.inl (xtb_at 448 (by decide +kernel) (by decide +kernel)), xtb_at 450 (by decide +kernel) (by decide +kernel), xtb_at 2 (by decide +kernel) (by decide +kernel), xtb_at 70 (by decide +kernel) (by decide +kernel), ⟨by decide, by decide, by decide +kernel⟩⟩
theorem L_Rd_82 : xlV "DviBytes$Reader" 82 m_Rd_bytesOfText.1 1 := ⟨Or.inl (xtb_at 452 (by decide +kernel) (by decide +kernel)), xtb_at 454 (by decide +kernel) (by decide +kernel), xtb_at 3 (by decide +kernel) (by decide +kernel), xtb_at 70 (by decide +kernel) (by decide +kernel), ⟨by decide, by decide, by decide +kernel⟩⟩
theorem L_Rd_88 : xlV "DviBytes$Reader" 88 m_By_number.1 2 := ⟨Or.inl (xtb_at 456 (by decide +kernel) (by decide +kernel)), xtb_at 457 (by decide +kernel) (by decide +kernel), xtb_at 458 (by decide +kernel) (by decide +kernel), xtb_at 67 (by decide +kernel) (by decide +kernel), ⟨by decide, by decide, by decide +kernel⟩⟩
theorem L_By_35 : xlV "DviBytes$Bytes" 35 m_By_at.1 1 := ⟨Or.inl (xtb_at 460 (by decide +kernel) (by decide +kernel)), xtb_at 432 (by decide +kernel) (by decide +kernel), xtb_at 433 (by decide +kernel) (by decide +kernel), xtb_at 67 (by decide +kernel) (by decide +kernel), ⟨by decide, by decide, by decide +kernel⟩⟩
theorem L_Rd_69 : xlV "DviBytes$Reader" 69 m_Rd_canStand.1 0 := ⟨Or.inl (xtb_at 461 (by decide +kernel) (by decide +kernel)), xtb_at 463 (by decide +kernel) (by decide +kernel), xtb_at 4 (by decide +kernel) (by decide +kernel), xtb_at 70 (by decide +kernel) (by decide +kernel), ⟨by decide, by decide, by decide +kernel⟩⟩
theorem L_Rd_73 : xlV "DviBytes$Reader" 73 m_Rd_obey.1 0 := ⟨Or.inl (xtb_at 465 (by decide +kernel) (by decide +kernel)), xtb_at 467 (by decide +kernel) (by decide +kernel), xtb_at 5 (by decide +kernel) (by decide +kernel), xtb_at 70 (by decide +kernel) (by decide +kernel), ⟨by decide, by decide, by decide +kernel⟩⟩
theorem L_Rd_92 : xlV "DviBytes$Reader" 92 m_Rd_obeyMove.1 0 := ⟨Or.inl (xtb_at 469 (by decide +kernel) (by decide +kernel)), xtb_at 471 (by decide +kernel) (by decide +kernel), xtb_at 6 (by decide +kernel) (by decide +kernel), xtb_at 70 (by decide +kernel) (by decide +kernel), ⟨by decide, by decide, by decide +kernel⟩⟩
theorem L_Rd_151 : xlV "DviBytes$Reader" 151 m_By_signedNumber.1 2 := ⟨Or.inl (xtb_at 473 (by decide +kernel) (by decide +kernel)), xtb_at 474 (by decide +kernel) (by decide +kernel), xtb_at 475 (by decide +kernel) (by decide +kernel), xtb_at 67 (by decide +kernel) (by decide +kernel), ⟨by decide, by decide, by decide +kernel⟩⟩
theorem L_By_38 : xlV "DviBytes$Bytes" 38 m_By_number.1 2 := ⟨Or.inl (xtb_at 477 (by decide +kernel) (by decide +kernel)), xtb_at 457 (by decide +kernel) (by decide +kernel), xtb_at 458 (by decide +kernel) (by decide +kernel), xtb_at 67 (by decide +kernel) (by decide +kernel), ⟨by decide, by decide, by decide +kernel⟩⟩
theorem L_Rd_139 : xlV "DviBytes$Reader" 139 m_Rd_grow.1 2 := ⟨Or.inl (xtb_at 478 (by decide +kernel) (by decide +kernel)), xtb_at 480 (by decide +kernel) (by decide +kernel), xtb_at 7 (by decide +kernel) (by decide +kernel), xtb_at 70 (by decide +kernel) (by decide +kernel), ⟨by decide, by decide, by decide +kernel⟩⟩
theorem L_Rd_147 : xlS "DviBytes$Reader" 147 m_Dv_isInt.1 1 := ⟨Or.inr ⟨"DviBytes", xnest_at 482 (by decide +kernel) (by decide +kernel)⟩, xtb_at 483 (by decide +kernel) (by decide +kernel), xtb_at 62 (by decide +kernel) (by decide +kernel), ⟨by decide, by decide, by decide +kernel⟩⟩
theorem L_Rd_95 : xlV "DviBytes$Reader" 95 m_Rd_obeyFont.1 0 := ⟨Or.inl (xtb_at 485 (by decide +kernel) (by decide +kernel)), xtb_at 487 (by decide +kernel) (by decide +kernel), xtb_at 8 (by decide +kernel) (by decide +kernel), xtb_at 70 (by decide +kernel) (by decide +kernel), ⟨by decide, by decide, by decide +kernel⟩⟩
theorem L_Rd_154 : xlV "DviBytes$Reader" 154 m_Rg_findFont.1 1 := ⟨Or.inl (xtb_at 489 (by decide +kernel) (by decide +kernel)), xtb_at 490 (by decide +kernel) (by decide +kernel), xtb_at 491 (by decide +kernel) (by decide +kernel), xtb_at 69 (by decide +kernel) (by decide +kernel), ⟨by decide, by decide, by decide +kernel⟩⟩
theorem L_Rd_98 : xlV "DviBytes$Reader" 98 m_Rd_obeyDefinition.1 0 := ⟨Or.inl (xtb_at 493 (by decide +kernel) (by decide +kernel)), xtb_at 495 (by decide +kernel) (by decide +kernel), xtb_at 9 (by decide +kernel) (by decide +kernel), xtb_at 70 (by decide +kernel) (by decide +kernel), ⟨by decide, by decide, by decide +kernel⟩⟩
theorem L_Rd_157 : xlV "DviBytes$Reader" 157 m_Rg_isSameFont.1 3 := ⟨Or.inl (xtb_at 497 (by decide +kernel) (by decide +kernel)), xtb_at 498 (by decide +kernel) (by decide +kernel), xtb_at 499 (by decide +kernel) (by decide +kernel), xtb_at 69 (by decide +kernel) (by decide +kernel), ⟨by decide, by decide, by decide +kernel⟩⟩
theorem L_Rg_80 : xlV "DviBytes$Reading" 80 m_Rg_fontPart.1 2 := ⟨Or.inl (xtb_at 501 (by decide +kernel) (by decide +kernel)), xtb_at 502 (by decide +kernel) (by decide +kernel), xtb_at 503 (by decide +kernel) (by decide +kernel), xtb_at 69 (by decide +kernel) (by decide +kernel), ⟨by decide, by decide, by decide +kernel⟩⟩
theorem L_Rg_57 : xlS "DviBytes$Reading" 57 m_Rg_isIn.1 3 := ⟨Or.inl (xtb_at 505 (by decide +kernel) (by decide +kernel)), xtb_at 506 (by decide +kernel) (by decide +kernel), xtb_at 69 (by decide +kernel) (by decide +kernel), ⟨by decide, by decide, by decide +kernel⟩⟩
theorem L_Rg_61 : xlV "DviBytes$Reading" 61 m_By_at.1 1 := ⟨Or.inl (xtb_at 508 (by decide +kernel) (by decide +kernel)), xtb_at 432 (by decide +kernel) (by decide +kernel), xtb_at 433 (by decide +kernel) (by decide +kernel), xtb_at 67 (by decide +kernel) (by decide +kernel), ⟨by decide, by decide, by decide +kernel⟩⟩
theorem L_Rg_65 : xlV "DviBytes$Reading" 65 m_By_number.1 2 := ⟨Or.inl (xtb_at 509 (by decide +kernel) (by decide +kernel)), xtb_at 457 (by decide +kernel) (by decide +kernel), xtb_at 458 (by decide +kernel) (by decide +kernel), xtb_at 67 (by decide +kernel) (by decide +kernel), ⟨by decide, by decide, by decide +kernel⟩⟩
theorem L_Rg_69 : xlS "DviBytes$Reading" 69 m_Rg_nameLengthAt.1 2 := ⟨Or.inl (xtb_at 510 (by decide +kernel) (by decide +kernel)), xtb_at 511 (by decide +kernel) (by decide +kernel), xtb_at 69 (by decide +kernel) (by decide +kernel), ⟨by decide, by decide, by decide +kernel⟩⟩
theorem L_Rd_161 : xlV "DviBytes$Reader" 161 m_Rg_addFont.1 3 := ⟨Or.inl (xtb_at 513 (by decide +kernel) (by decide +kernel)), xtb_at 514 (by decide +kernel) (by decide +kernel), xtb_at 515 (by decide +kernel) (by decide +kernel), xtb_at 69 (by decide +kernel) (by decide +kernel), ⟨by decide, by decide, by decide +kernel⟩⟩
theorem L_Rg_73 : xlV "DviBytes$Reading" 73 m_By_length.1 0 := ⟨Or.inl (xtb_at 517 (by decide +kernel) (by decide +kernel)), xtb_at 379 (by decide +kernel) (by decide +kernel), xtb_at 380 (by decide +kernel) (by decide +kernel), xtb_at 67 (by decide +kernel) (by decide +kernel), ⟨by decide, by decide, by decide +kernel⟩⟩
theorem L_Rg_77 : xlV "DviBytes$Reading" 77 m_By_add.1 1 := ⟨Or.inl (xtb_at 518 (by decide +kernel) (by decide +kernel)), xtb_at 388 (by decide +kernel) (by decide +kernel), xtb_at 389 (by decide +kernel) (by decide +kernel), xtb_at 67 (by decide +kernel) (by decide +kernel), ⟨by decide, by decide, by decide +kernel⟩⟩
theorem L_Rd_101 : xlV "DviBytes$Reader" 101 m_Rd_obeyRule.1 0 := ⟨Or.inl (xtb_at 519 (by decide +kernel) (by decide +kernel)), xtb_at 521 (by decide +kernel) (by decide +kernel), xtb_at 10 (by decide +kernel) (by decide +kernel), xtb_at 70 (by decide +kernel) (by decide +kernel), ⟨by decide, by decide, by decide +kernel⟩⟩
theorem L_Rd_143 : xlV "DviBytes$Reader" 143 m_Rg_addMark.1 5 := ⟨Or.inl (xtb_at 523 (by decide +kernel) (by decide +kernel)), xtb_at 524 (by decide +kernel) (by decide +kernel), xtb_at 525 (by decide +kernel) (by decide +kernel), xtb_at 69 (by decide +kernel) (by decide +kernel), ⟨by decide, by decide, by decide +kernel⟩⟩
theorem L_Rd_104 : xlV "DviBytes$Reader" 104 m_Rd_obeyBegin.1 0 := ⟨Or.inl (xtb_at 527 (by decide +kernel) (by decide +kernel)), xtb_at 529 (by decide +kernel) (by decide +kernel), xtb_at 11 (by decide +kernel) (by decide +kernel), xtb_at 70 (by decide +kernel) (by decide +kernel), ⟨by decide, by decide, by decide +kernel⟩⟩
theorem L_Rd_164 : xlV "DviBytes$Reader" 164 m_Rg_addPage.1 2 := ⟨Or.inl (xtb_at 531 (by decide +kernel) (by decide +kernel)), xtb_at 532 (by decide +kernel) (by decide +kernel), xtb_at 533 (by decide +kernel) (by decide +kernel), xtb_at 69 (by decide +kernel) (by decide +kernel), ⟨by decide, by decide, by decide +kernel⟩⟩
theorem L_Rd_110 : xlV "DviBytes$Reader" 110 m_Rd_obeyPush.1 0 := ⟨Or.inl (xtb_at 535 (by decide +kernel) (by decide +kernel)), xtb_at 537 (by decide +kernel) (by decide +kernel), xtb_at 12 (by decide +kernel) (by decide +kernel), xtb_at 70 (by decide +kernel) (by decide +kernel), ⟨by decide, by decide, by decide +kernel⟩⟩
theorem L_Rd_113 : xlV "DviBytes$Reader" 113 m_Rd_obeyPop.1 0 := ⟨Or.inl (xtb_at 542 (by decide +kernel) (by decide +kernel)), xtb_at 544 (by decide +kernel) (by decide +kernel), xtb_at 13 (by decide +kernel) (by decide +kernel), xtb_at 70 (by decide +kernel) (by decide +kernel), ⟨by decide, by decide, by decide +kernel⟩⟩
theorem L_Rd_119 : xlV "DviBytes$Reader" 119 m_Rd_obeyLast.1 0 := ⟨Or.inl (xtb_at 546 (by decide +kernel) (by decide +kernel)), xtb_at 548 (by decide +kernel) (by decide +kernel), xtb_at 14 (by decide +kernel) (by decide +kernel), xtb_at 70 (by decide +kernel) (by decide +kernel), ⟨by decide, by decide, by decide +kernel⟩⟩
theorem L_Rd_125 : xlV "DviBytes$Reader" 125 m_Rd_obeyCharacter.1 0 := ⟨Or.inl (xtb_at 551 (by decide +kernel) (by decide +kernel)), xtb_at 553 (by decide +kernel) (by decide +kernel), xtb_at 15 (by decide +kernel) (by decide +kernel), xtb_at 70 (by decide +kernel) (by decide +kernel), ⟨by decide, by decide, by decide +kernel⟩⟩
theorem L_Rd_131 : xlV "DviBytes$Reader" 131 m_Rg_fontPart.1 2 := ⟨Or.inl (xtb_at 555 (by decide +kernel) (by decide +kernel)), xtb_at 502 (by decide +kernel) (by decide +kernel), xtb_at 503 (by decide +kernel) (by decide +kernel), xtb_at 69 (by decide +kernel) (by decide +kernel), ⟨by decide, by decide, by decide +kernel⟩⟩
theorem L_Rd_134 : xlV "DviBytes$Reader" 134 m_Wi_of.1 2 := ⟨Or.inl (xtb_at 556 (by decide +kernel) (by decide +kernel)), xtb_at 557 (by decide +kernel) (by decide +kernel), xtb_at 558 (by decide +kernel) (by decide +kernel), xtb_at 63 (by decide +kernel) (by decide +kernel), ⟨by decide, by decide, by decide +kernel⟩⟩
theorem L_Wi_16 : xlS "DviBytes$Widths" 16 m_Dv_isByte.1 1 := ⟨Or.inr ⟨"DviBytes", xnest_at 560 (by decide +kernel) (by decide +kernel)⟩, xtb_at 561 (by decide +kernel) (by decide +kernel), xtb_at 62 (by decide +kernel) (by decide +kernel), ⟨by decide, by decide, by decide +kernel⟩⟩
theorem L_Dv_199 : xlV "DviBytes" 199 m_Rg_clear.1 0 := ⟨Or.inl (xtb_at 563 (by decide +kernel) (by decide +kernel)), xtb_at 422 (by decide +kernel) (by decide +kernel), xtb_at 423 (by decide +kernel) (by decide +kernel), xtb_at 69 (by decide +kernel) (by decide +kernel), ⟨by decide, by decide, by decide +kernel⟩⟩
theorem L_Dv_201 : xlV "DviBytes" 201 m_Rd_place.1 0 := ⟨Or.inl (xtb_at 565 (by decide +kernel) (by decide +kernel)), xtb_at 566 (by decide +kernel) (by decide +kernel), xtb_at 567 (by decide +kernel) (by decide +kernel), xtb_at 70 (by decide +kernel) (by decide +kernel), ⟨by decide, by decide, by decide +kernel⟩⟩
theorem L_La_71 : xlS "DviBytesLaw" 71 m_La_font.1 8 := ⟨Or.inl (xtb_at 569 (by decide +kernel) (by decide +kernel)), xtb_at 570 (by decide +kernel) (by decide +kernel), xtb_at 61 (by decide +kernel) (by decide +kernel), ⟨by decide, by decide, by decide +kernel⟩⟩
theorem L_La_7 : xlV "DviBytesLaw" 7 m_Dv_font.1 7 := ⟨Or.inl (xtb_at 574 (by decide +kernel) (by decide +kernel)), xtb_at 575 (by decide +kernel) (by decide +kernel), xtb_at 576 (by decide +kernel) (by decide +kernel), xtb_at 62 (by decide +kernel) (by decide +kernel), ⟨by decide, by decide, by decide +kernel⟩⟩
theorem L_Dv_66 : xlS "DviBytes" 66 m_Dv_isByte.1 1 := ⟨Or.inl (xtb_at 578 (by decide +kernel) (by decide +kernel)), xtb_at 561 (by decide +kernel) (by decide +kernel), xtb_at 62 (by decide +kernel) (by decide +kernel), ⟨by decide, by decide, by decide +kernel⟩⟩
theorem L_Dv_70 : xlS "DviBytes" 70 m_Dv_isName.1 3 := ⟨Or.inl (xtb_at 579 (by decide +kernel) (by decide +kernel)), xtb_at 580 (by decide +kernel) (by decide +kernel), xtb_at 62 (by decide +kernel) (by decide +kernel), ⟨by decide, by decide, by decide +kernel⟩⟩
theorem L_Dv_246 : xlS "DviBytes" 246 m_Dv_letterOf.1 3 := ⟨Or.inl (xtb_at 582 (by decide +kernel) (by decide +kernel)), xtb_at 583 (by decide +kernel) (by decide +kernel), xtb_at 62 (by decide +kernel) (by decide +kernel), ⟨by decide, by decide, by decide +kernel⟩⟩
theorem L_Dv_81 : xlV "DviBytes" 81 m_Wr_hasTold.1 1 := ⟨Or.inl (xtb_at 654 (by decide +kernel) (by decide +kernel)), xtb_at 655 (by decide +kernel) (by decide +kernel), xtb_at 656 (by decide +kernel) (by decide +kernel), xtb_at 66 (by decide +kernel) (by decide +kernel), ⟨by decide, by decide, by decide +kernel⟩⟩
theorem L_Wr_57 : xlS "DviBytes$Writer" 57 m_Dv_isByte.1 1 := ⟨Or.inr ⟨"DviBytes", xnest_at 658 (by decide +kernel) (by decide +kernel)⟩, xtb_at 561 (by decide +kernel) (by decide +kernel), xtb_at 62 (by decide +kernel) (by decide +kernel), ⟨by decide, by decide, by decide +kernel⟩⟩
theorem L_Dv_89 : xlV "DviBytes" 89 m_Fo_define.1 4 := ⟨Or.inl (xtb_at 675 (by decide +kernel) (by decide +kernel)), xtb_at 676 (by decide +kernel) (by decide +kernel), xtb_at 677 (by decide +kernel) (by decide +kernel), xtb_at 64 (by decide +kernel) (by decide +kernel), ⟨by decide, by decide, by decide +kernel⟩⟩
theorem L_Fo_31 : xlS "DviBytes$Fonts" 31 m_Dv_isByte.1 1 := ⟨Or.inr ⟨"DviBytes", xnest_at 679 (by decide +kernel) (by decide +kernel)⟩, xtb_at 561 (by decide +kernel) (by decide +kernel), xtb_at 62 (by decide +kernel) (by decide +kernel), ⟨by decide, by decide, by decide +kernel⟩⟩
theorem L_Dv_93 : xlV "DviBytes" 93 m_Fo_call.1 4 := ⟨Or.inl (xtb_at 680 (by decide +kernel) (by decide +kernel)), xtb_at 681 (by decide +kernel) (by decide +kernel), xtb_at 682 (by decide +kernel) (by decide +kernel), xtb_at 64 (by decide +kernel) (by decide +kernel), ⟨by decide, by decide, by decide +kernel⟩⟩
theorem L_La_80 : xlS "DviBytesLaw" 80 m_La_width.1 4 := ⟨Or.inl (xtb_at 684 (by decide +kernel) (by decide +kernel)), xtb_at 685 (by decide +kernel) (by decide +kernel), xtb_at 61 (by decide +kernel) (by decide +kernel), ⟨by decide, by decide, by decide +kernel⟩⟩
theorem L_La_17 : xlV "DviBytesLaw" 17 m_Dv_width.1 3 := ⟨Or.inl (xtb_at 687 (by decide +kernel) (by decide +kernel)), xtb_at 688 (by decide +kernel) (by decide +kernel), xtb_at 689 (by decide +kernel) (by decide +kernel), xtb_at 62 (by decide +kernel) (by decide +kernel), ⟨by decide, by decide, by decide +kernel⟩⟩
theorem L_Dv_99 : xlV "DviBytes" 99 m_Wi_change.1 3 := ⟨Or.inl (xtb_at 692 (by decide +kernel) (by decide +kernel)), xtb_at 693 (by decide +kernel) (by decide +kernel), xtb_at 694 (by decide +kernel) (by decide +kernel), xtb_at 63 (by decide +kernel) (by decide +kernel), ⟨by decide, by decide, by decide +kernel⟩⟩
theorem L_La_84 : xlS "DviBytesLaw" 84 m_La_count.1 3 := ⟨Or.inl (xtb_at 696 (by decide +kernel) (by decide +kernel)), xtb_at 697 (by decide +kernel) (by decide +kernel), xtb_at 61 (by decide +kernel) (by decide +kernel), ⟨by decide, by decide, by decide +kernel⟩⟩
theorem L_La_21 : xlV "DviBytesLaw" 21 m_Dv_count.1 2 := ⟨Or.inl (xtb_at 699 (by decide +kernel) (by decide +kernel)), xtb_at 700 (by decide +kernel) (by decide +kernel), xtb_at 701 (by decide +kernel) (by decide +kernel), xtb_at 62 (by decide +kernel) (by decide +kernel), ⟨by decide, by decide, by decide +kernel⟩⟩
theorem L_La_88 : xlS "DviBytesLaw" 88 m_La_begin.1 3 := ⟨Or.inl (xtb_at 704 (by decide +kernel) (by decide +kernel)), xtb_at 705 (by decide +kernel) (by decide +kernel), xtb_at 61 (by decide +kernel) (by decide +kernel), ⟨by decide, by decide, by decide +kernel⟩⟩
theorem L_La_25 : xlV "DviBytesLaw" 25 m_Dv_begin.1 2 := ⟨Or.inl (xtb_at 707 (by decide +kernel) (by decide +kernel)), xtb_at 708 (by decide +kernel) (by decide +kernel), xtb_at 709 (by decide +kernel) (by decide +kernel), xtb_at 62 (by decide +kernel) (by decide +kernel), ⟨by decide, by decide, by decide +kernel⟩⟩
theorem L_Dv_107 : xlV "DviBytes" 107 m_Wr_restart.1 2 := ⟨Or.inl (xtb_at 712 (by decide +kernel) (by decide +kernel)), xtb_at 713 (by decide +kernel) (by decide +kernel), xtb_at 714 (by decide +kernel) (by decide +kernel), xtb_at 66 (by decide +kernel) (by decide +kernel), ⟨by decide, by decide, by decide +kernel⟩⟩
theorem L_Wr_61 : xlV "DviBytes$Writer" 61 m_Wr_goBack.1 2 := ⟨Or.inl (xtb_at 716 (by decide +kernel) (by decide +kernel)), xtb_at 718 (by decide +kernel) (by decide +kernel), xtb_at 17 (by decide +kernel) (by decide +kernel), xtb_at 66 (by decide +kernel) (by decide +kernel), ⟨by decide, by decide, by decide +kernel⟩⟩
theorem L_Wr_77 : xlV "DviBytes$Writer" 77 m_By_cut.1 1 := ⟨Or.inl (xtb_at 720 (by decide +kernel) (by decide +kernel)), xtb_at 396 (by decide +kernel) (by decide +kernel), xtb_at 397 (by decide +kernel) (by decide +kernel), xtb_at 67 (by decide +kernel) (by decide +kernel), ⟨by decide, by decide, by decide +kernel⟩⟩
theorem L_Dv_111 : xlV "DviBytes" 111 m_Sh_clear.1 0 := ⟨Or.inl (xtb_at 721 (by decide +kernel) (by decide +kernel)), xtb_at 722 (by decide +kernel) (by decide +kernel), xtb_at 723 (by decide +kernel) (by decide +kernel), xtb_at 65 (by decide +kernel) (by decide +kernel), ⟨by decide, by decide, by decide +kernel⟩⟩
theorem L_La_91 : xlS "DviBytesLaw" 91 m_La_put.1 6 := ⟨Or.inl (xtb_at 725 (by decide +kernel) (by decide +kernel)), xtb_at 726 (by decide +kernel) (by decide +kernel), xtb_at 61 (by decide +kernel) (by decide +kernel), ⟨by decide, by decide, by decide +kernel⟩⟩
theorem L_La_28 : xlV "DviBytesLaw" 28 m_Dv_put.1 4 := ⟨Or.inl (xtb_at 729 (by decide +kernel) (by decide +kernel)), xtb_at 730 (by decide +kernel) (by decide +kernel), xtb_at 731 (by decide +kernel) (by decide +kernel), xtb_at 62 (by decide +kernel) (by decide +kernel), ⟨by decide, by decide, by decide +kernel⟩⟩
theorem L_Dv_114 : xlV "DviBytes" 114 m_Fo_isDefined.1 1 := ⟨Or.inl (xtb_at 733 (by decide +kernel) (by decide +kernel)), xtb_at 734 (by decide +kernel) (by decide +kernel), xtb_at 735 (by decide +kernel) (by decide +kernel), xtb_at 64 (by decide +kernel) (by decide +kernel), ⟨by decide, by decide, by decide +kernel⟩⟩
theorem L_Dv_117 : xlS "DviBytes" 117 m_Dv_isNear.1 1 := ⟨Or.inl (xtb_at 737 (by decide +kernel) (by decide +kernel)), xtb_at 738 (by decide +kernel) (by decide +kernel), xtb_at 62 (by decide +kernel) (by decide +kernel), ⟨by decide, by decide, by decide +kernel⟩⟩
theorem L_Dv_122 : xlV "DviBytes" 122 m_Sh_isFull.1 0 := ⟨Or.inl (xtb_at 743 (by decide +kernel) (by decide +kernel)), xtb_at 744 (by decide +kernel) (by decide +kernel), xtb_at 745 (by decide +kernel) (by decide +kernel), xtb_at 65 (by decide +kernel) (by decide +kernel), ⟨by decide, by decide, by decide +kernel⟩⟩
theorem L_Dv_131 : xlV "DviBytes" 131 m_Sh_add.1 5 := ⟨Or.inl (xtb_at 763 (by decide +kernel) (by decide +kernel)), xtb_at 764 (by decide +kernel) (by decide +kernel), xtb_at 765 (by decide +kernel) (by decide +kernel), xtb_at 65 (by decide +kernel) (by decide +kernel), ⟨by decide, by decide, by decide +kernel⟩⟩
theorem L_La_95 : xlS "DviBytesLaw" 95 m_La_rule.1 6 := ⟨Or.inl (xtb_at 767 (by decide +kernel) (by decide +kernel)), xtb_at 768 (by decide +kernel) (by decide +kernel), xtb_at 61 (by decide +kernel) (by decide +kernel), ⟨by decide, by decide, by decide +kernel⟩⟩
theorem L_La_34 : xlV "DviBytesLaw" 34 m_Dv_rule.1 4 := ⟨Or.inl (xtb_at 770 (by decide +kernel) (by decide +kernel)), xtb_at 771 (by decide +kernel) (by decide +kernel), xtb_at 772 (by decide +kernel) (by decide +kernel), xtb_at 62 (by decide +kernel) (by decide +kernel), ⟨by decide, by decide, by decide +kernel⟩⟩
theorem L_Dv_135 : xlS "DviBytes" 135 m_Dv_isExtent.1 1 := ⟨Or.inl (xtb_at 774 (by decide +kernel) (by decide +kernel)), xtb_at 775 (by decide +kernel) (by decide +kernel), xtb_at 62 (by decide +kernel) (by decide +kernel), ⟨by decide, by decide, by decide +kernel⟩⟩
theorem L_La_98 : xlS "DviBytesLaw" 98 m_La_ship.1 2 := ⟨Or.inl (xtb_at 778 (by decide +kernel) (by decide +kernel)), xtb_at 779 (by decide +kernel) (by decide +kernel), xtb_at 61 (by decide +kernel) (by decide +kernel), ⟨by decide, by decide, by decide +kernel⟩⟩
theorem L_La_37 : xlV "DviBytesLaw" 37 m_Dv_ship.1 0 := ⟨Or.inl (xtb_at 782 (by decide +kernel) (by decide +kernel)), xtb_at 783 (by decide +kernel) (by decide +kernel), xtb_at 784 (by decide +kernel) (by decide +kernel), xtb_at 62 (by decide +kernel) (by decide +kernel), ⟨by decide, by decide, by decide +kernel⟩⟩
theorem L_Dv_140 : xlV "DviBytes" 140 m_Wr_isClosed.1 0 := ⟨Or.inl (xtb_at 786 (by decide +kernel) (by decide +kernel)), xtb_at 787 (by decide +kernel) (by decide +kernel), xtb_at 788 (by decide +kernel) (by decide +kernel), xtb_at 66 (by decide +kernel) (by decide +kernel), ⟨by decide, by decide, by decide +kernel⟩⟩
theorem L_Dv_145 : xlV "DviBytes" 145 m_Wr_planPage.1 1 := ⟨Or.inl (xtb_at 791 (by decide +kernel) (by decide +kernel)), xtb_at 792 (by decide +kernel) (by decide +kernel), xtb_at 793 (by decide +kernel) (by decide +kernel), xtb_at 66 (by decide +kernel) (by decide +kernel), ⟨by decide, by decide, by decide +kernel⟩⟩
theorem L_Wr_83 : xlV "DviBytes$Writer" 83 m_Wa_clear.1 0 := ⟨Or.inl (xtb_at 795 (by decide +kernel) (by decide +kernel)), xtb_at 796 (by decide +kernel) (by decide +kernel), xtb_at 797 (by decide +kernel) (by decide +kernel), xtb_at 68 (by decide +kernel) (by decide +kernel), ⟨by decide, by decide, by decide +kernel⟩⟩
theorem L_Wr_92 : xlV "DviBytes$Writer" 92 m_Sh_length.1 0 := ⟨Or.inl (xtb_at 799 (by decide +kernel) (by decide +kernel)), xtb_at 800 (by decide +kernel) (by decide +kernel), xtb_at 801 (by decide +kernel) (by decide +kernel), xtb_at 65 (by decide +kernel) (by decide +kernel), ⟨by decide, by decide, by decide +kernel⟩⟩
theorem L_Wr_98 : xlV "DviBytes$Writer" 98 m_Sh_x.1 1 := ⟨Or.inl (xtb_at 803 (by decide +kernel) (by decide +kernel)), xtb_at 804 (by decide +kernel) (by decide +kernel), xtb_at 805 (by decide +kernel) (by decide +kernel), xtb_at 65 (by decide +kernel) (by decide +kernel), ⟨by decide, by decide, by decide +kernel⟩⟩
theorem L_Sh_19 : xlV "DviBytes$Sheet" 19 m_Sh_part.1 2 := ⟨Or.inl (xtb_at 807 (by decide +kernel) (by decide +kernel)), xtb_at 809 (by decide +kernel) (by decide +kernel), xtb_at 18 (by decide +kernel) (by decide +kernel), xtb_at 65 (by decide +kernel) (by decide +kernel), ⟨by decide, by decide, by decide +kernel⟩⟩
theorem L_Wr_102 : xlV "DviBytes$Writer" 102 m_Sh_y.1 1 := ⟨Or.inl (xtb_at 811 (by decide +kernel) (by decide +kernel)), xtb_at 812 (by decide +kernel) (by decide +kernel), xtb_at 813 (by decide +kernel) (by decide +kernel), xtb_at 65 (by decide +kernel) (by decide +kernel), ⟨by decide, by decide, by decide +kernel⟩⟩
theorem L_Wr_105 : xlV "DviBytes$Writer" 105 m_Wr_growth.1 2 := ⟨Or.inl (xtb_at 815 (by decide +kernel) (by decide +kernel)), xtb_at 817 (by decide +kernel) (by decide +kernel), xtb_at 19 (by decide +kernel) (by decide +kernel), xtb_at 66 (by decide +kernel) (by decide +kernel), ⟨by decide, by decide, by decide +kernel⟩⟩
theorem L_Wr_122 : xlV "DviBytes$Writer" 122 m_Sh_isRule.1 1 := ⟨Or.inl (xtb_at 819 (by decide +kernel) (by decide +kernel)), xtb_at 820 (by decide +kernel) (by decide +kernel), xtb_at 821 (by decide +kernel) (by decide +kernel), xtb_at 65 (by decide +kernel) (by decide +kernel), ⟨by decide, by decide, by decide +kernel⟩⟩
theorem L_Wr_125 : xlV "DviBytes$Writer" 125 m_Sh_fontOf.1 1 := ⟨Or.inl (xtb_at 823 (by decide +kernel) (by decide +kernel)), xtb_at 824 (by decide +kernel) (by decide +kernel), xtb_at 825 (by decide +kernel) (by decide +kernel), xtb_at 65 (by decide +kernel) (by decide +kernel), ⟨by decide, by decide, by decide +kernel⟩⟩
theorem L_Wr_128 : xlV "DviBytes$Writer" 128 m_Sh_characterOrWidth.1 1 := ⟨Or.inl (xtb_at 827 (by decide +kernel) (by decide +kernel)), xtb_at 828 (by decide +kernel) (by decide +kernel), xtb_at 829 (by decide +kernel) (by decide +kernel), xtb_at 65 (by decide +kernel) (by decide +kernel), ⟨by decide, by decide, by decide +kernel⟩⟩
theorem L_Wr_131 : xlV "DviBytes$Writer" 131 m_Wi_of.1 2 := ⟨Or.inl (xtb_at 831 (by decide +kernel) (by decide +kernel)), xtb_at 557 (by decide +kernel) (by decide +kernel), xtb_at 558 (by decide +kernel) (by decide +kernel), xtb_at 63 (by decide +kernel) (by decide +kernel), ⟨by decide, by decide, by decide +kernel⟩⟩
theorem L_Wr_109 : xlS "DviBytes$Writer" 109 m_Dv_isInt.1 1 := ⟨Or.inr ⟨"DviBytes", xnest_at 832 (by decide +kernel) (by decide +kernel)⟩, xtb_at 483 (by decide +kernel) (by decide +kernel), xtb_at 62 (by decide +kernel) (by decide +kernel), ⟨by decide, by decide, by decide +kernel⟩⟩
theorem L_Wr_113 : xlV "DviBytes$Writer" 113 m_Wa_plan.1 1 := ⟨Or.inl (xtb_at 833 (by decide +kernel) (by decide +kernel)), xtb_at 834 (by decide +kernel) (by decide +kernel), xtb_at 835 (by decide +kernel) (by decide +kernel), xtb_at 68 (by decide +kernel) (by decide +kernel), ⟨by decide, by decide, by decide +kernel⟩⟩
theorem L_Dv_154 : xlV "DviBytes" 154 m_Wr_writePage.1 2 := ⟨Or.inl (xtb_at 854 (by decide +kernel) (by decide +kernel)), xtb_at 855 (by decide +kernel) (by decide +kernel), xtb_at 856 (by decide +kernel) (by decide +kernel), xtb_at 66 (by decide +kernel) (by decide +kernel), ⟨by decide, by decide, by decide +kernel⟩⟩
theorem L_Wr_136 : xlV "DviBytes$Writer" 136 m_By_length.1 0 := ⟨Or.inl (xtb_at 858 (by decide +kernel) (by decide +kernel)), xtb_at 379 (by decide +kernel) (by decide +kernel), xtb_at 380 (by decide +kernel) (by decide +kernel), xtb_at 67 (by decide +kernel) (by decide +kernel), ⟨by decide, by decide, by decide +kernel⟩⟩
theorem L_Wr_137 : xlV "DviBytes$Writer" 137 m_Wr_writeStart.1 0 := ⟨Or.inl (xtb_at 859 (by decide +kernel) (by decide +kernel)), xtb_at 861 (by decide +kernel) (by decide +kernel), xtb_at 20 (by decide +kernel) (by decide +kernel), xtb_at 66 (by decide +kernel) (by decide +kernel), ⟨by decide, by decide, by decide +kernel⟩⟩
theorem L_Wr_140 : xlV "DviBytes$Writer" 140 m_By_add.1 1 := ⟨Or.inl (xtb_at 863 (by decide +kernel) (by decide +kernel)), xtb_at 388 (by decide +kernel) (by decide +kernel), xtb_at 389 (by decide +kernel) (by decide +kernel), xtb_at 67 (by decide +kernel) (by decide +kernel), ⟨by decide, by decide, by decide +kernel⟩⟩
theorem L_Wr_151 : xlV "DviBytes$Writer" 151 m_Wr_writeScale.1 0 := ⟨Or.inl (xtb_at 864 (by decide +kernel) (by decide +kernel)), xtb_at 866 (by decide +kernel) (by decide +kernel), xtb_at 21 (by decide +kernel) (by decide +kernel), xtb_at 66 (by decide +kernel) (by decide +kernel), ⟨by decide, by decide, by decide +kernel⟩⟩
theorem L_Wr_143 : xlV "DviBytes$Writer" 143 m_By_addNumber.1 2 := ⟨Or.inl (xtb_at 869 (by decide +kernel) (by decide +kernel)), xtb_at 870 (by decide +kernel) (by decide +kernel), xtb_at 871 (by decide +kernel) (by decide +kernel), xtb_at 67 (by decide +kernel) (by decide +kernel), ⟨by decide, by decide, by decide +kernel⟩⟩
theorem L_By_20 : xlV "DviBytes$Bytes" 20 m_By_add.1 1 := ⟨Or.inl (xtb_at 873 (by decide +kernel) (by decide +kernel)), xtb_at 388 (by decide +kernel) (by decide +kernel), xtb_at 389 (by decide +kernel) (by decide +kernel), xtb_at 67 (by decide +kernel) (by decide +kernel), ⟨by decide, by decide, by decide +kernel⟩⟩
theorem L_Wr_146 : xlV "DviBytes$Writer" 146 m_Wr_writeMarks.1 1 := ⟨Or.inl (xtb_at 875 (by decide +kernel) (by decide +kernel)), xtb_at 877 (by decide +kernel) (by decide +kernel), xtb_at 22 (by decide +kernel) (by decide +kernel), xtb_at 66 (by decide +kernel) (by decide +kernel), ⟨by decide, by decide, by decide +kernel⟩⟩
theorem L_Wr_156 : xlV "DviBytes$Writer" 156 m_Wa_write.1 2 := ⟨Or.inl (xtb_at 879 (by decide +kernel) (by decide +kernel)), xtb_at 880 (by decide +kernel) (by decide +kernel), xtb_at 881 (by decide +kernel) (by decide +kernel), xtb_at 68 (by decide +kernel) (by decide +kernel), ⟨by decide, by decide, by decide +kernel⟩⟩
theorem L_Wa_28 : xlV "DviBytes$Way" 28 m_By_add.1 1 := ⟨Or.inl (xtb_at 883 (by decide +kernel) (by decide +kernel)), xtb_at 388 (by decide +kernel) (by decide +kernel), xtb_at 389 (by decide +kernel) (by decide +kernel), xtb_at 67 (by decide +kernel) (by decide +kernel), ⟨by decide, by decide, by decide +kernel⟩⟩
theorem L_Wa_34 : xlV "DviBytes$Way" 34 m_Wa_comesBehind.1 2 := ⟨Or.inl (xtb_at 884 (by decide +kernel) (by decide +kernel)), xtb_at 886 (by decide +kernel) (by decide +kernel), xtb_at 23 (by decide +kernel) (by decide +kernel), xtb_at 68 (by decide +kernel) (by decide +kernel), ⟨by decide, by decide, by decide +kernel⟩⟩
theorem L_Wa_38 : xlV "DviBytes$Way" 38 m_By_addShortest.1 2 := ⟨Or.inl (xtb_at 888 (by decide +kernel) (by decide +kernel)), xtb_at 889 (by decide +kernel) (by decide +kernel), xtb_at 890 (by decide +kernel) (by decide +kernel), xtb_at 67 (by decide +kernel) (by decide +kernel), ⟨by decide, by decide, by decide +kernel⟩⟩
theorem L_By_24 : xlS "DviBytes$Bytes" 24 m_By_bytesFor.1 1 := ⟨Or.inl (xtb_at 892 (by decide +kernel) (by decide +kernel)), xtb_at 893 (by decide +kernel) (by decide +kernel), xtb_at 67 (by decide +kernel) (by decide +kernel), ⟨by decide, by decide, by decide +kernel⟩⟩
theorem L_By_28 : xlV "DviBytes$Bytes" 28 m_By_addNumber.1 2 := ⟨Or.inl (xtb_at 898 (by decide +kernel) (by decide +kernel)), xtb_at 870 (by decide +kernel) (by decide +kernel), xtb_at 871 (by decide +kernel) (by decide +kernel), xtb_at 67 (by decide +kernel) (by decide +kernel), ⟨by decide, by decide, by decide +kernel⟩⟩
theorem L_Wr_160 : xlV "DviBytes$Writer" 160 m_Sh_height.1 1 := ⟨Or.inl (xtb_at 899 (by decide +kernel) (by decide +kernel)), xtb_at 900 (by decide +kernel) (by decide +kernel), xtb_at 901 (by decide +kernel) (by decide +kernel), xtb_at 65 (by decide +kernel) (by decide +kernel), ⟨by decide, by decide, by decide +kernel⟩⟩
theorem L_Wr_163 : xlV "DviBytes$Writer" 163 m_Wr_writeFont.1 1 := ⟨Or.inl (xtb_at 903 (by decide +kernel) (by decide +kernel)), xtb_at 905 (by decide +kernel) (by decide +kernel), xtb_at 24 (by decide +kernel) (by decide +kernel), xtb_at 66 (by decide +kernel) (by decide +kernel), ⟨by decide, by decide, by decide +kernel⟩⟩
theorem L_Wr_169 : xlV "DviBytes$Writer" 169 m_Wr_hasTold.1 1 := ⟨Or.inl (xtb_at 907 (by decide +kernel) (by decide +kernel)), xtb_at 655 (by decide +kernel) (by decide +kernel), xtb_at 656 (by decide +kernel) (by decide +kernel), xtb_at 66 (by decide +kernel) (by decide +kernel), ⟨by decide, by decide, by decide +kernel⟩⟩
theorem L_Wr_172 : xlV "DviBytes$Writer" 172 m_Fo_writeDefinition.1 2 := ⟨Or.inl (xtb_at 908 (by decide +kernel) (by decide +kernel)), xtb_at 909 (by decide +kernel) (by decide +kernel), xtb_at 910 (by decide +kernel) (by decide +kernel), xtb_at 64 (by decide +kernel) (by decide +kernel), ⟨by decide, by decide, by decide +kernel⟩⟩
theorem L_Fo_35 : xlV "DviBytes$Fonts" 35 m_By_add.1 1 := ⟨Or.inl (xtb_at 912 (by decide +kernel) (by decide +kernel)), xtb_at 388 (by decide +kernel) (by decide +kernel), xtb_at 389 (by decide +kernel) (by decide +kernel), xtb_at 67 (by decide +kernel) (by decide +kernel), ⟨by decide, by decide, by decide +kernel⟩⟩
theorem L_Fo_41 : xlV "DviBytes$Fonts" 41 m_By_addNumber.1 2 := ⟨Or.inl (xtb_at 913 (by decide +kernel) (by decide +kernel)), xtb_at 870 (by decide +kernel) (by decide +kernel), xtb_at 871 (by decide +kernel) (by decide +kernel), xtb_at 67 (by decide +kernel) (by decide +kernel), ⟨by decide, by decide, by decide +kernel⟩⟩
theorem L_Fo_45 : xlS "DviBytes$Fonts" 45 m_Dv_letterOf.1 3 := ⟨Or.inr ⟨"DviBytes", xnest_at 914 (by decide +kernel) (by decide +kernel)⟩, xtb_at 583 (by decide +kernel) (by decide +kernel), xtb_at 62 (by decide +kernel) (by decide +kernel), ⟨by decide, by decide, by decide +kernel⟩⟩
theorem L_Wr_177 : xlV "DviBytes$Writer" 177 m_Wr_remember.1 1 := ⟨Or.inl (xtb_at 915 (by decide +kernel) (by decide +kernel)), xtb_at 917 (by decide +kernel) (by decide +kernel), xtb_at 25 (by decide +kernel) (by decide +kernel), xtb_at 66 (by decide +kernel) (by decide +kernel), ⟨by decide, by decide, by decide +kernel⟩⟩
theorem L_Wr_166 : xlV "DviBytes$Writer" 166 m_Wr_writeCharacter.1 1 := ⟨Or.inl (xtb_at 919 (by decide +kernel) (by decide +kernel)), xtb_at 921 (by decide +kernel) (by decide +kernel), xtb_at 26 (by decide +kernel) (by decide +kernel), xtb_at 66 (by decide +kernel) (by decide +kernel), ⟨by decide, by decide, by decide +kernel⟩⟩
theorem L_Dv_160 : xlV "DviBytes" 160 m_Wr_pageCount.1 0 := ⟨Or.inl (xtb_at 925 (by decide +kernel) (by decide +kernel)), xtb_at 926 (by decide +kernel) (by decide +kernel), xtb_at 927 (by decide +kernel) (by decide +kernel), xtb_at 66 (by decide +kernel) (by decide +kernel), ⟨by decide, by decide, by decide +kernel⟩⟩
theorem L_La_102 : xlS "DviBytesLaw" 102 m_La_close.1 2 := ⟨Or.inl (xtb_at 929 (by decide +kernel) (by decide +kernel)), xtb_at 930 (by decide +kernel) (by decide +kernel), xtb_at 61 (by decide +kernel) (by decide +kernel), ⟨by decide, by decide, by decide +kernel⟩⟩
theorem L_La_43 : xlV "DviBytesLaw" 43 m_Dv_close.1 0 := ⟨Or.inl (xtb_at 932 (by decide +kernel) (by decide +kernel)), xtb_at 933 (by decide +kernel) (by decide +kernel), xtb_at 934 (by decide +kernel) (by decide +kernel), xtb_at 62 (by decide +kernel) (by decide +kernel), ⟨by decide, by decide, by decide +kernel⟩⟩
theorem L_Dv_164 : xlV "DviBytes" 164 m_Wr_writeEnd.1 0 := ⟨Or.inl (xtb_at 936 (by decide +kernel) (by decide +kernel)), xtb_at 937 (by decide +kernel) (by decide +kernel), xtb_at 938 (by decide +kernel) (by decide +kernel), xtb_at 66 (by decide +kernel) (by decide +kernel), ⟨by decide, by decide, by decide +kernel⟩⟩
theorem L_La_109 : xlS "DviBytesLaw" 109 m_La_out.1 3 := ⟨Or.inl (xtb_at 940 (by decide +kernel) (by decide +kernel)), xtb_at 941 (by decide +kernel) (by decide +kernel), xtb_at 61 (by decide +kernel) (by decide +kernel), ⟨by decide, by decide, by decide +kernel⟩⟩
theorem L_La_46 : xlV "DviBytesLaw" 46 m_Dv_out.1 1 := ⟨Or.inl (xtb_at 944 (by decide +kernel) (by decide +kernel)), xtb_at 945 (by decide +kernel) (by decide +kernel), xtb_at 946 (by decide +kernel) (by decide +kernel), xtb_at 62 (by decide +kernel) (by decide +kernel), ⟨by decide, by decide, by decide +kernel⟩⟩
theorem L_Dv_179 : xlV "DviBytes" 179 m_By_at.1 1 := ⟨Or.inl (xtb_at 964 (by decide +kernel) (by decide +kernel)), xtb_at 432 (by decide +kernel) (by decide +kernel), xtb_at 433 (by decide +kernel) (by decide +kernel), xtb_at 67 (by decide +kernel) (by decide +kernel), ⟨by decide, by decide, by decide +kernel⟩⟩
theorem L_La_131 : xlS "DviBytesLaw" 131 m_La_about.1 3 := ⟨Or.inl (xtb_at 965 (by decide +kernel) (by decide +kernel)), xtb_at 966 (by decide +kernel) (by decide +kernel), xtb_at 61 (by decide +kernel) (by decide +kernel), ⟨by decide, by decide, by decide +kernel⟩⟩
theorem L_La_52 : xlV "DviBytesLaw" 52 m_Dv_about.1 1 := ⟨Or.inl (xtb_at 968 (by decide +kernel) (by decide +kernel)), xtb_at 969 (by decide +kernel) (by decide +kernel), xtb_at 970 (by decide +kernel) (by decide +kernel), xtb_at 62 (by decide +kernel) (by decide +kernel), ⟨by decide, by decide, by decide +kernel⟩⟩
theorem L_La_134 : xlS "DviBytesLaw" 134 m_La_mark.1 4 := ⟨Or.inl (xtb_at 973 (by decide +kernel) (by decide +kernel)), xtb_at 974 (by decide +kernel) (by decide +kernel), xtb_at 61 (by decide +kernel) (by decide +kernel), ⟨by decide, by decide, by decide +kernel⟩⟩
theorem L_La_55 : xlV "DviBytesLaw" 55 m_Dv_mark.1 2 := ⟨Or.inl (xtb_at 976 (by decide +kernel) (by decide +kernel)), xtb_at 977 (by decide +kernel) (by decide +kernel), xtb_at 978 (by decide +kernel) (by decide +kernel), xtb_at 62 (by decide +kernel) (by decide +kernel), ⟨by decide, by decide, by decide +kernel⟩⟩
theorem L_Dv_230 : xlV "DviBytes" 230 m_Rg_markPart.1 2 := ⟨Or.inl (xtb_at 981 (by decide +kernel) (by decide +kernel)), xtb_at 982 (by decide +kernel) (by decide +kernel), xtb_at 983 (by decide +kernel) (by decide +kernel), xtb_at 69 (by decide +kernel) (by decide +kernel), ⟨by decide, by decide, by decide +kernel⟩⟩
theorem L_La_138 : xlS "DviBytesLaw" 138 m_La_page.1 4 := ⟨Or.inl (xtb_at 985 (by decide +kernel) (by decide +kernel)), xtb_at 986 (by decide +kernel) (by decide +kernel), xtb_at 61 (by decide +kernel) (by decide +kernel), ⟨by decide, by decide, by decide +kernel⟩⟩
theorem L_La_59 : xlV "DviBytesLaw" 59 m_Dv_page.1 2 := ⟨Or.inl (xtb_at 988 (by decide +kernel) (by decide +kernel)), xtb_at 989 (by decide +kernel) (by decide +kernel), xtb_at 990 (by decide +kernel) (by decide +kernel), xtb_at 62 (by decide +kernel) (by decide +kernel), ⟨by decide, by decide, by decide +kernel⟩⟩
theorem L_Dv_236 : xlV "DviBytes" 236 m_Rg_pagePart.1 2 := ⟨Or.inl (xtb_at 993 (by decide +kernel) (by decide +kernel)), xtb_at 994 (by decide +kernel) (by decide +kernel), xtb_at 995 (by decide +kernel) (by decide +kernel), xtb_at 69 (by decide +kernel) (by decide +kernel), ⟨by decide, by decide, by decide +kernel⟩⟩
theorem L_La_141 : xlS "DviBytesLaw" 141 m_La_told.1 4 := ⟨Or.inl (xtb_at 997 (by decide +kernel) (by decide +kernel)), xtb_at 998 (by decide +kernel) (by decide +kernel), xtb_at 61 (by decide +kernel) (by decide +kernel), ⟨by decide, by decide, by decide +kernel⟩⟩
theorem L_La_62 : xlV "DviBytesLaw" 62 m_Dv_told.1 2 := ⟨Or.inl (xtb_at 1000 (by decide +kernel) (by decide +kernel)), xtb_at 1001 (by decide +kernel) (by decide +kernel), xtb_at 1002 (by decide +kernel) (by decide +kernel), xtb_at 62 (by decide +kernel) (by decide +kernel), ⟨by decide, by decide, by decide +kernel⟩⟩
theorem L_Dv_241 : xlV "DviBytes" 241 m_Rg_fontPart.1 2 := ⟨Or.inl (xtb_at 1005 (by decide +kernel) (by decide +kernel)), xtb_at 502 (by decide +kernel) (by decide +kernel), xtb_at 503 (by decide +kernel) (by decide +kernel), xtb_at 69 (by decide +kernel) (by decide +kernel), ⟨by decide, by decide, by decide +kernel⟩⟩
theorem L_La_68 : xlI "DviBytesLaw" 68 m_Mo_init.1 0 := ⟨Or.inl (xtb_at 1008 (by decide +kernel) (by decide +kernel)), xtb_at 1009 (by decide +kernel) (by decide +kernel), xtb_at 71 (by decide +kernel) (by decide +kernel), ⟨by decide, by decide, by decide +kernel⟩, rfl⟩
theorem L_La_77 : xlV "DviBytesLaw" 77 m_Mo_thrown.1 0 := ⟨Or.inl (xtb_at 1175 (by decide +kernel) (by decide +kernel)), xtb_at 1176 (by decide +kernel) (by decide +kernel), xtb_at 1177 (by decide +kernel) (by decide +kernel), xtb_at 71 (by decide +kernel) (by decide +kernel), ⟨by decide, by decide, by decide +kernel⟩⟩
theorem L_La_76 : xlV "DviBytesLaw" 76 m_Mo_font.1 7 := ⟨Or.inl (xtb_at 1179 (by decide +kernel) (by decide +kernel)), xtb_at 1180 (by decide +kernel) (by decide +kernel), xtb_at 1181 (by decide +kernel) (by decide +kernel), xtb_at 71 (by decide +kernel) (by decide +kernel), ⟨by decide, by decide, by decide +kernel⟩⟩
theorem L_Mo_105 : xlS "DviBytesModel" 105 m_Mo_isByte.1 1 := ⟨Or.inl (xtb_at 1183 (by decide +kernel) (by decide +kernel)), xtb_at 1184 (by decide +kernel) (by decide +kernel), xtb_at 71 (by decide +kernel) (by decide +kernel), ⟨by decide, by decide, by decide +kernel⟩⟩
theorem L_Mo_109 : xlS "DviBytesModel" 109 m_Mo_letter.1 3 := ⟨Or.inl (xtb_at 1186 (by decide +kernel) (by decide +kernel)), xtb_at 1187 (by decide +kernel) (by decide +kernel), xtb_at 71 (by decide +kernel) (by decide +kernel), ⟨by decide, by decide, by decide +kernel⟩⟩
theorem L_Mo_113 : xlV "DviBytesModel" 113 m_Mo_isTold.1 1 := ⟨Or.inl (xtb_at 1190 (by decide +kernel) (by decide +kernel)), xtb_at 1192 (by decide +kernel) (by decide +kernel), xtb_at 27 (by decide +kernel) (by decide +kernel), xtb_at 71 (by decide +kernel) (by decide +kernel), ⟨by decide, by decide, by decide +kernel⟩⟩
theorem L_La_83 : xlV "DviBytesLaw" 83 m_Mo_width.1 3 := ⟨Or.inl (xtb_at 1194 (by decide +kernel) (by decide +kernel)), xtb_at 1195 (by decide +kernel) (by decide +kernel), xtb_at 1196 (by decide +kernel) (by decide +kernel), xtb_at 71 (by decide +kernel) (by decide +kernel), ⟨by decide, by decide, by decide +kernel⟩⟩
theorem L_La_87 : xlV "DviBytesLaw" 87 m_Mo_count.1 2 := ⟨Or.inl (xtb_at 1198 (by decide +kernel) (by decide +kernel)), xtb_at 1199 (by decide +kernel) (by decide +kernel), xtb_at 1200 (by decide +kernel) (by decide +kernel), xtb_at 71 (by decide +kernel) (by decide +kernel), ⟨by decide, by decide, by decide +kernel⟩⟩
theorem L_La_90 : xlV "DviBytesLaw" 90 m_Mo_begin.1 2 := ⟨Or.inl (xtb_at 1202 (by decide +kernel) (by decide +kernel)), xtb_at 1203 (by decide +kernel) (by decide +kernel), xtb_at 1204 (by decide +kernel) (by decide +kernel), xtb_at 71 (by decide +kernel) (by decide +kernel), ⟨by decide, by decide, by decide +kernel⟩⟩
theorem L_La_94 : xlV "DviBytesLaw" 94 m_Mo_put.1 4 := ⟨Or.inl (xtb_at 1206 (by decide +kernel) (by decide +kernel)), xtb_at 1207 (by decide +kernel) (by decide +kernel), xtb_at 1208 (by decide +kernel) (by decide +kernel), xtb_at 71 (by decide +kernel) (by decide +kernel), ⟨by decide, by decide, by decide +kernel⟩⟩
theorem L_Mo_143 : xlS "DviBytesModel" 143 m_Mo_isPlace.1 1 := ⟨Or.inl (xtb_at 1210 (by decide +kernel) (by decide +kernel)), xtb_at 1211 (by decide +kernel) (by decide +kernel), xtb_at 71 (by decide +kernel) (by decide +kernel), ⟨by decide, by decide, by decide +kernel⟩⟩
theorem L_Mo_146 : xlV "DviBytesModel" 146 m_Mo_mark5.1 5 := ⟨Or.inl (xtb_at 1215 (by decide +kernel) (by decide +kernel)), xtb_at 1217 (by decide +kernel) (by decide +kernel), xtb_at 28 (by decide +kernel) (by decide +kernel), xtb_at 71 (by decide +kernel) (by decide +kernel), ⟨by decide, by decide, by decide +kernel⟩⟩
theorem L_La_97 : xlV "DviBytesLaw" 97 m_Mo_rule.1 4 := ⟨Or.inl (xtb_at 1219 (by decide +kernel) (by decide +kernel)), xtb_at 1220 (by decide +kernel) (by decide +kernel), xtb_at 1221 (by decide +kernel) (by decide +kernel), xtb_at 71 (by decide +kernel) (by decide +kernel), ⟨by decide, by decide, by decide +kernel⟩⟩
theorem L_La_101 : xlV "DviBytesLaw" 101 m_Mo_ship.1 0 := ⟨Or.inl (xtb_at 1223 (by decide +kernel) (by decide +kernel)), xtb_at 1224 (by decide +kernel) (by decide +kernel), xtb_at 1225 (by decide +kernel) (by decide +kernel), xtb_at 71 (by decide +kernel) (by decide +kernel), ⟨by decide, by decide, by decide +kernel⟩⟩
theorem L_Mo_189 : xlV "DviBytesModel" 189 m_Mo_findMoves.1 0 := ⟨Or.inl (xtb_at 1227 (by decide +kernel) (by decide +kernel)), xtb_at 1229 (by decide +kernel) (by decide +kernel), xtb_at 29 (by decide +kernel) (by decide +kernel), xtb_at 71 (by decide +kernel) (by decide +kernel), ⟨by decide, by decide, by decide +kernel⟩⟩
theorem L_Mo_158 : xlS "DviBytesModel" 158 m_Mo_isInt.1 1 := ⟨Or.inl (xtb_at 1231 (by decide +kernel) (by decide +kernel)), xtb_at 1232 (by decide +kernel) (by decide +kernel), xtb_at 71 (by decide +kernel) (by decide +kernel), ⟨by decide, by decide, by decide +kernel⟩⟩
theorem L_Mo_193 : xlV "DviBytesModel" 193 m_Mo_writePage.1 0 := ⟨Or.inl (xtb_at 1236 (by decide +kernel) (by decide +kernel)), xtb_at 1238 (by decide +kernel) (by decide +kernel), xtb_at 30 (by decide +kernel) (by decide +kernel), xtb_at 71 (by decide +kernel) (by decide +kernel), ⟨by decide, by decide, by decide +kernel⟩⟩
theorem L_Mo_179 : xlV "DviBytesModel" 179 m_Mo_open.1 0 := ⟨Or.inl (xtb_at 1240 (by decide +kernel) (by decide +kernel)), xtb_at 1242 (by decide +kernel) (by decide +kernel), xtb_at 31 (by decide +kernel) (by decide +kernel), xtb_at 71 (by decide +kernel) (by decide +kernel), ⟨by decide, by decide, by decide +kernel⟩⟩
theorem L_Mo_150 : xlV "DviBytesModel" 150 m_Mo_lay.1 1 := ⟨Or.inl (xtb_at 1244 (by decide +kernel) (by decide +kernel)), xtb_at 1246 (by decide +kernel) (by decide +kernel), xtb_at 32 (by decide +kernel) (by decide +kernel), xtb_at 71 (by decide +kernel) (by decide +kernel), ⟨by decide, by decide, by decide +kernel⟩⟩
theorem L_Mo_173 : xlV "DviBytesModel" 173 m_Mo_layNumber.1 2 := ⟨Or.inl (xtb_at 1249 (by decide +kernel) (by decide +kernel)), xtb_at 1251 (by decide +kernel) (by decide +kernel), xtb_at 33 (by decide +kernel) (by decide +kernel), xtb_at 71 (by decide +kernel) (by decide +kernel), ⟨by decide, by decide, by decide +kernel⟩⟩
theorem L_Mo_182 : xlV "DviBytesModel" 182 m_Mo_move.1 4 := ⟨Or.inl (xtb_at 1254 (by decide +kernel) (by decide +kernel)), xtb_at 1256 (by decide +kernel) (by decide +kernel), xtb_at 34 (by decide +kernel) (by decide +kernel), xtb_at 71 (by decide +kernel) (by decide +kernel), ⟨by decide, by decide, by decide +kernel⟩⟩
theorem L_Mo_165 : xlS "DviBytesModel" 165 m_Mo_bytesOf.1 1 := ⟨Or.inl (xtb_at 1258 (by decide +kernel) (by decide +kernel)), xtb_at 1259 (by decide +kernel) (by decide +kernel), xtb_at 71 (by decide +kernel) (by decide +kernel), ⟨by decide, by decide, by decide +kernel⟩⟩
theorem L_Mo_169 : xlV "DviBytesModel" 169 m_Mo_comes.1 3 := ⟨Or.inl (xtb_at 1264 (by decide +kernel) (by decide +kernel)), xtb_at 1266 (by decide +kernel) (by decide +kernel), xtb_at 35 (by decide +kernel) (by decide +kernel), xtb_at 71 (by decide +kernel) (by decide +kernel), ⟨by decide, by decide, by decide +kernel⟩⟩
theorem L_Mo_186 : xlV "DviBytesModel" 186 m_Mo_define.1 1 := ⟨Or.inl (xtb_at 1268 (by decide +kernel) (by decide +kernel)), xtb_at 1270 (by decide +kernel) (by decide +kernel), xtb_at 36 (by decide +kernel) (by decide +kernel), xtb_at 71 (by decide +kernel) (by decide +kernel), ⟨by decide, by decide, by decide +kernel⟩⟩
theorem L_La_104 : xlV "DviBytesLaw" 104 m_Mo_close.1 0 := ⟨Or.inl (xtb_at 1273 (by decide +kernel) (by decide +kernel)), xtb_at 1274 (by decide +kernel) (by decide +kernel), xtb_at 1275 (by decide +kernel) (by decide +kernel), xtb_at 71 (by decide +kernel) (by decide +kernel), ⟨by decide, by decide, by decide +kernel⟩⟩
theorem L_La_108 : xlV "DviBytesLaw" 108 m_Mo_size.1 0 := ⟨Or.inl (xtb_at 1277 (by decide +kernel) (by decide +kernel)), xtb_at 1278 (by decide +kernel) (by decide +kernel), xtb_at 1279 (by decide +kernel) (by decide +kernel), xtb_at 71 (by decide +kernel) (by decide +kernel), ⟨by decide, by decide, by decide +kernel⟩⟩
theorem L_La_112 : xlV "DviBytesLaw" 112 m_Mo_out.1 1 := ⟨Or.inl (xtb_at 1281 (by decide +kernel) (by decide +kernel)), xtb_at 1282 (by decide +kernel) (by decide +kernel), xtb_at 1283 (by decide +kernel) (by decide +kernel), xtb_at 71 (by decide +kernel) (by decide +kernel), ⟨by decide, by decide, by decide +kernel⟩⟩
theorem L_La_117 : xlV "DviBytesLaw" 117 m_Mo_feed.1 2 := ⟨Or.inl (xtb_at 1285 (by decide +kernel) (by decide +kernel)), xtb_at 1286 (by decide +kernel) (by decide +kernel), xtb_at 1287 (by decide +kernel) (by decide +kernel), xtb_at 71 (by decide +kernel) (by decide +kernel), ⟨by decide, by decide, by decide +kernel⟩⟩
theorem L_La_122 : xlV "DviBytesLaw" 122 m_Mo_keep.1 1 := ⟨Or.inl (xtb_at 1289 (by decide +kernel) (by decide +kernel)), xtb_at 1290 (by decide +kernel) (by decide +kernel), xtb_at 1291 (by decide +kernel) (by decide +kernel), xtb_at 71 (by decide +kernel) (by decide +kernel), ⟨by decide, by decide, by decide +kernel⟩⟩
theorem L_La_126 : xlV "DviBytesLaw" 126 m_Mo_copy.1 0 := ⟨Or.inl (xtb_at 1293 (by decide +kernel) (by decide +kernel)), xtb_at 1294 (by decide +kernel) (by decide +kernel), xtb_at 1295 (by decide +kernel) (by decide +kernel), xtb_at 71 (by decide +kernel) (by decide +kernel), ⟨by decide, by decide, by decide +kernel⟩⟩
theorem L_La_130 : xlV "DviBytesLaw" 130 m_Mo_read.1 0 := ⟨Or.inl (xtb_at 1297 (by decide +kernel) (by decide +kernel)), xtb_at 1298 (by decide +kernel) (by decide +kernel), xtb_at 1299 (by decide +kernel) (by decide +kernel), xtb_at 71 (by decide +kernel) (by decide +kernel), ⟨by decide, by decide, by decide +kernel⟩⟩
theorem L_Mo_341 : xlV "DviBytesModel" 341 m_Mo_forget.1 0 := ⟨Or.inl (xtb_at 1301 (by decide +kernel) (by decide +kernel)), xtb_at 1303 (by decide +kernel) (by decide +kernel), xtb_at 37 (by decide +kernel) (by decide +kernel), xtb_at 71 (by decide +kernel) (by decide +kernel), ⟨by decide, by decide, by decide +kernel⟩⟩
theorem L_Mo_344 : xlV "DviBytesModel" 344 m_Mo_goThrough.1 0 := ⟨Or.inl (xtb_at 1305 (by decide +kernel) (by decide +kernel)), xtb_at 1307 (by decide +kernel) (by decide +kernel), xtb_at 38 (by decide +kernel) (by decide +kernel), xtb_at 71 (by decide +kernel) (by decide +kernel), ⟨by decide, by decide, by decide +kernel⟩⟩
theorem L_Mo_326 : xlS "DviBytesModel" 326 m_Mo_fault.1 2 := ⟨Or.inl (xtb_at 1309 (by decide +kernel) (by decide +kernel)), xtb_at 1310 (by decide +kernel) (by decide +kernel), xtb_at 71 (by decide +kernel) (by decide +kernel), ⟨by decide, by decide, by decide +kernel⟩⟩
theorem L_Mo_200 : xlV "DviBytesModel" 200 m_Mo_byteAt.1 1 := ⟨Or.inl (xtb_at 1313 (by decide +kernel) (by decide +kernel)), xtb_at 1315 (by decide +kernel) (by decide +kernel), xtb_at 39 (by decide +kernel) (by decide +kernel), xtb_at 71 (by decide +kernel) (by decide +kernel), ⟨by decide, by decide, by decide +kernel⟩⟩
theorem L_Mo_329 : xlV "DviBytesModel" 329 m_Mo_length.1 0 := ⟨Or.inl (xtb_at 1317 (by decide +kernel) (by decide +kernel)), xtb_at 1319 (by decide +kernel) (by decide +kernel), xtb_at 40 (by decide +kernel) (by decide +kernel), xtb_at 71 (by decide +kernel) (by decide +kernel), ⟨by decide, by decide, by decide +kernel⟩⟩
theorem L_Mo_209 : xlS "DviBytesModel" 209 m_Mo_among.1 2 := ⟨Or.inl (xtb_at 1321 (by decide +kernel) (by decide +kernel)), xtb_at 1322 (by decide +kernel) (by decide +kernel), xtb_at 71 (by decide +kernel) (by decide +kernel), ⟨by decide, by decide, by decide +kernel⟩⟩
theorem L_Mo_217 : xlS "DviBytesModel" 217 m_Mo_moveBytes.1 1 := ⟨Or.inl (xtb_at 1326 (by decide +kernel) (by decide +kernel)), xtb_at 1327 (by decide +kernel) (by decide +kernel), xtb_at 71 (by decide +kernel) (by decide +kernel), ⟨by decide, by decide, by decide +kernel⟩⟩
theorem L_Mo_220 : xlV "DviBytesModel" 220 m_Mo_number.1 3 := ⟨Or.inl (xtb_at 1329 (by decide +kernel) (by decide +kernel)), xtb_at 1331 (by decide +kernel) (by decide +kernel), xtb_at 41 (by decide +kernel) (by decide +kernel), xtb_at 71 (by decide +kernel) (by decide +kernel), ⟨by decide, by decide, by decide +kernel⟩⟩
theorem L_Mo_332 : xlV "DviBytesModel" 332 m_Mo_mayStand.1 1 := ⟨Or.inl (xtb_at 1337 (by decide +kernel) (by decide +kernel)), xtb_at 1339 (by decide +kernel) (by decide +kernel), xtb_at 42 (by decide +kernel) (by decide +kernel), xtb_at 71 (by decide +kernel) (by decide +kernel), ⟨by decide, by decide, by decide +kernel⟩⟩
theorem L_Mo_235 : xlV "DviBytesModel" 235 m_Mo_isFontTold.1 1 := ⟨Or.inl (xtb_at 1341 (by decide +kernel) (by decide +kernel)), xtb_at 1343 (by decide +kernel) (by decide +kernel), xtb_at 43 (by decide +kernel) (by decide +kernel), xtb_at 71 (by decide +kernel) (by decide +kernel), ⟨by decide, by decide, by decide +kernel⟩⟩
theorem L_Mo_335 : xlV "DviBytesModel" 335 m_Mo_within.1 1 := ⟨Or.inl (xtb_at 1345 (by decide +kernel) (by decide +kernel)), xtb_at 1347 (by decide +kernel) (by decide +kernel), xtb_at 44 (by decide +kernel) (by decide +kernel), xtb_at 71 (by decide +kernel) (by decide +kernel), ⟨by decide, by decide, by decide +kernel⟩⟩
theorem L_Mo_295 : xlV "DviBytesModel" 295 m_Mo_setCharacter.1 2 := ⟨Or.inl (xtb_at 1349 (by decide +kernel) (by decide +kernel)), xtb_at 1351 (by decide +kernel) (by decide +kernel), xtb_at 45 (by decide +kernel) (by decide +kernel), xtb_at 71 (by decide +kernel) (by decide +kernel), ⟨by decide, by decide, by decide +kernel⟩⟩
theorem L_Mo_285 : xlV "DviBytesModel" 285 m_Mo_noteMark.1 3 := ⟨Or.inl (xtb_at 1353 (by decide +kernel) (by decide +kernel)), xtb_at 1355 (by decide +kernel) (by decide +kernel), xtb_at 46 (by decide +kernel) (by decide +kernel), xtb_at 71 (by decide +kernel) (by decide +kernel), ⟨by decide, by decide, by decide +kernel⟩⟩
theorem L_Mo_289 : xlV "DviBytesModel" 289 m_Mo_add.1 2 := ⟨Or.inl (xtb_at 1357 (by decide +kernel) (by decide +kernel)), xtb_at 1359 (by decide +kernel) (by decide +kernel), xtb_at 47 (by decide +kernel) (by decide +kernel), xtb_at 71 (by decide +kernel) (by decide +kernel), ⟨by decide, by decide, by decide +kernel⟩⟩
theorem L_Mo_299 : xlV "DviBytesModel" 299 m_Mo_setRule.1 1 := ⟨Or.inl (xtb_at 1361 (by decide +kernel) (by decide +kernel)), xtb_at 1363 (by decide +kernel) (by decide +kernel), xtb_at 48 (by decide +kernel) (by decide +kernel), xtb_at 71 (by decide +kernel) (by decide +kernel), ⟨by decide, by decide, by decide +kernel⟩⟩
theorem L_Mo_303 : xlV "DviBytesModel" 303 m_Mo_push.1 0 := ⟨Or.inl (xtb_at 1365 (by decide +kernel) (by decide +kernel)), xtb_at 1367 (by decide +kernel) (by decide +kernel), xtb_at 49 (by decide +kernel) (by decide +kernel), xtb_at 71 (by decide +kernel) (by decide +kernel), ⟨by decide, by decide, by decide +kernel⟩⟩
theorem L_Mo_307 : xlV "DviBytesModel" 307 m_Mo_pop.1 0 := ⟨Or.inl (xtb_at 1369 (by decide +kernel) (by decide +kernel)), xtb_at 1371 (by decide +kernel) (by decide +kernel), xtb_at 50 (by decide +kernel) (by decide +kernel), xtb_at 71 (by decide +kernel) (by decide +kernel), ⟨by decide, by decide, by decide +kernel⟩⟩
theorem L_Mo_310 : xlV "DviBytesModel" 310 m_Mo_moveBy.1 1 := ⟨Or.inl (xtb_at 1373 (by decide +kernel) (by decide +kernel)), xtb_at 1375 (by decide +kernel) (by decide +kernel), xtb_at 51 (by decide +kernel) (by decide +kernel), xtb_at 71 (by decide +kernel) (by decide +kernel), ⟨by decide, by decide, by decide +kernel⟩⟩
theorem L_Mo_313 : xlV "DviBytesModel" 313 m_Mo_take.1 1 := ⟨Or.inl (xtb_at 1377 (by decide +kernel) (by decide +kernel)), xtb_at 1379 (by decide +kernel) (by decide +kernel), xtb_at 52 (by decide +kernel) (by decide +kernel), xtb_at 71 (by decide +kernel) (by decide +kernel), ⟨by decide, by decide, by decide +kernel⟩⟩
theorem L_Mo_247 : xlV "DviBytesModel" 247 m_Mo_fontAt.1 1 := ⟨Or.inl (xtb_at 1381 (by decide +kernel) (by decide +kernel)), xtb_at 1383 (by decide +kernel) (by decide +kernel), xtb_at 53 (by decide +kernel) (by decide +kernel), xtb_at 71 (by decide +kernel) (by decide +kernel), ⟨by decide, by decide, by decide +kernel⟩⟩
theorem L_Mo_316 : xlV "DviBytesModel" 316 m_Mo_tell.1 0 := ⟨Or.inl (xtb_at 1385 (by decide +kernel) (by decide +kernel)), xtb_at 1387 (by decide +kernel) (by decide +kernel), xtb_at 54 (by decide +kernel) (by decide +kernel), xtb_at 71 (by decide +kernel) (by decide +kernel), ⟨by decide, by decide, by decide +kernel⟩⟩
theorem L_Mo_250 : xlV "DviBytesModel" 250 m_Mo_isSame.1 2 := ⟨Or.inl (xtb_at 1389 (by decide +kernel) (by decide +kernel)), xtb_at 1391 (by decide +kernel) (by decide +kernel), xtb_at 55 (by decide +kernel) (by decide +kernel), xtb_at 71 (by decide +kernel) (by decide +kernel), ⟨by decide, by decide, by decide +kernel⟩⟩
theorem L_Mo_244 : xlV "DviBytesModel" 244 m_Mo_nameSize.1 1 := ⟨Or.inl (xtb_at 1393 (by decide +kernel) (by decide +kernel)), xtb_at 1395 (by decide +kernel) (by decide +kernel), xtb_at 56 (by decide +kernel) (by decide +kernel), xtb_at 71 (by decide +kernel) (by decide +kernel), ⟨by decide, by decide, by decide +kernel⟩⟩
theorem L_Mo_241 : xlV "DviBytesModel" 241 m_Mo_behindNumber.1 1 := ⟨Or.inl (xtb_at 1397 (by decide +kernel) (by decide +kernel)), xtb_at 1399 (by decide +kernel) (by decide +kernel), xtb_at 57 (by decide +kernel) (by decide +kernel), xtb_at 71 (by decide +kernel) (by decide +kernel), ⟨by decide, by decide, by decide +kernel⟩⟩
theorem L_Mo_338 : xlV "DviBytesModel" 338 m_Mo_outside.1 1 := ⟨Or.inl (xtb_at 1401 (by decide +kernel) (by decide +kernel)), xtb_at 1403 (by decide +kernel) (by decide +kernel), xtb_at 58 (by decide +kernel) (by decide +kernel), xtb_at 71 (by decide +kernel) (by decide +kernel), ⟨by decide, by decide, by decide +kernel⟩⟩
theorem L_Mo_319 : xlV "DviBytesModel" 319 m_Mo_beginPage.1 0 := ⟨Or.inl (xtb_at 1405 (by decide +kernel) (by decide +kernel)), xtb_at 1407 (by decide +kernel) (by decide +kernel), xtb_at 59 (by decide +kernel) (by decide +kernel), xtb_at 71 (by decide +kernel) (by decide +kernel), ⟨by decide, by decide, by decide +kernel⟩⟩
theorem L_Mo_322 : xlV "DviBytesModel" 322 m_Mo_post.1 0 := ⟨Or.inl (xtb_at 1409 (by decide +kernel) (by decide +kernel)), xtb_at 1411 (by decide +kernel) (by decide +kernel), xtb_at 60 (by decide +kernel) (by decide +kernel), xtb_at 71 (by decide +kernel) (by decide +kernel), ⟨by decide, by decide, by decide +kernel⟩⟩
theorem L_La_133 : xlV "DviBytesLaw" 133 m_Mo_about.1 1 := ⟨Or.inl (xtb_at 1414 (by decide +kernel) (by decide +kernel)), xtb_at 1415 (by decide +kernel) (by decide +kernel), xtb_at 1416 (by decide +kernel) (by decide +kernel), xtb_at 71 (by decide +kernel) (by decide +kernel), ⟨by decide, by decide, by decide +kernel⟩⟩
theorem L_La_137 : xlV "DviBytesLaw" 137 m_Mo_mark2.1 2 := ⟨Or.inl (xtb_at 1418 (by decide +kernel) (by decide +kernel)), xtb_at 1419 (by decide +kernel) (by decide +kernel), xtb_at 1420 (by decide +kernel) (by decide +kernel), xtb_at 71 (by decide +kernel) (by decide +kernel), ⟨by decide, by decide, by decide +kernel⟩⟩
theorem L_La_140 : xlV "DviBytesLaw" 140 m_Mo_page.1 2 := ⟨Or.inl (xtb_at 1422 (by decide +kernel) (by decide +kernel)), xtb_at 1423 (by decide +kernel) (by decide +kernel), xtb_at 1424 (by decide +kernel) (by decide +kernel), xtb_at 71 (by decide +kernel) (by decide +kernel), ⟨by decide, by decide, by decide +kernel⟩⟩
theorem L_La_143 : xlV "DviBytesLaw" 143 m_Mo_told.1 2 := ⟨Or.inl (xtb_at 1426 (by decide +kernel) (by decide +kernel)), xtb_at 1427 (by decide +kernel) (by decide +kernel), xtb_at 1428 (by decide +kernel) (by decide +kernel), xtb_at 71 (by decide +kernel) (by decide +kernel), ⟨by decide, by decide, by decide +kernel⟩⟩
theorem K_Wi_9 : Cond.constant "DviBytes$Widths" 9 (65536) ∈ xtb := xtb_at 96 (by decide +kernel) (by decide +kernel)
theorem K_By_9 : Cond.constant "DviBytes$Bytes" 9 (70000) ∈ xtb := xtb_at 153 (by decide +kernel) (by decide +kernel)
theorem K_Dv_183 : Cond.constant "DviBytes" 183 (70000) ∈ xtb := xtb_at 386 (by decide +kernel) (by decide +kernel)
theorem K_Rd_179 : Cond.constant "DviBytes$Reader" 179 (65535) ∈ xtb := xtb_at 550 (by decide +kernel) (by decide +kernel)
theorem K_Dv_200 : Cond.constant "DviBytes" 200 (100000) ∈ xtb := xtb_at 564 (by decide +kernel) (by decide +kernel)
theorem K_Dv_244 : Cond.constant "DviBytes" 244 (-1000000000) ∈ xtb := xtb_at 740 (by decide +kernel) (by decide +kernel)
theorem K_Dv_245 : Cond.constant "DviBytes" 245 (1000000000) ∈ xtb := xtb_at 741 (by decide +kernel) (by decide +kernel)
theorem K_Wr_154 : Cond.constant "DviBytes$Writer" 154 (25400000) ∈ xtb := xtb_at 868 (by decide +kernel) (by decide +kernel)
theorem K_Wr_155 : Cond.constant "DviBytes$Writer" 155 (473628672) ∈ xtb := xtb_at 874 (by decide +kernel) (by decide +kernel)
theorem K_By_32 : Cond.constant "DviBytes$Bytes" 32 (32768) ∈ xtb := xtb_at 895 (by decide +kernel) (by decide +kernel)
theorem K_By_33 : Cond.constant "DviBytes$Bytes" 33 (-8388608) ∈ xtb := xtb_at 896 (by decide +kernel) (by decide +kernel)
theorem K_By_34 : Cond.constant "DviBytes$Bytes" 34 (8388608) ∈ xtb := xtb_at 897 (by decide +kernel) (by decide +kernel)
theorem K_Wr_150 : Cond.constant "DviBytes$Writer" 150 (60000) ∈ xtb := xtb_at 923 (by decide +kernel) (by decide +kernel)
theorem K_Mo_30 : Cond.constant "DviBytesModel" 30 (65536) ∈ xtb := xtb_at 1012 (by decide +kernel) (by decide +kernel)
theorem K_Mo_37 : Cond.constant "DviBytesModel" 37 (131072) ∈ xtb := xtb_at 1013 (by decide +kernel) (by decide +kernel)
theorem K_Mo_72 : Cond.constant "DviBytesModel" 72 (70000) ∈ xtb := xtb_at 1014 (by decide +kernel) (by decide +kernel)
theorem K_Mo_103 : Cond.constantLong "DviBytesModel" 103 (255) ∈ xtb := xtb_at 1189 (by decide +kernel) (by decide +kernel)
theorem K_Mo_141 : Cond.constant "DviBytesModel" 141 (-1000000000) ∈ xtb := xtb_at 1213 (by decide +kernel) (by decide +kernel)
theorem K_Mo_142 : Cond.constant "DviBytesModel" 142 (1000000000) ∈ xtb := xtb_at 1214 (by decide +kernel) (by decide +kernel)
theorem K_Mo_154 : Cond.constantLong "DviBytesModel" 154 (-2147483648) ∈ xtb := xtb_at 1234 (by decide +kernel) (by decide +kernel)
theorem K_Mo_156 : Cond.constantLong "DviBytesModel" 156 (2147483647) ∈ xtb := xtb_at 1235 (by decide +kernel) (by decide +kernel)
theorem K_Mo_177 : Cond.constant "DviBytesModel" 177 (25400000) ∈ xtb := xtb_at 1248 (by decide +kernel) (by decide +kernel)
theorem K_Mo_178 : Cond.constant "DviBytesModel" 178 (473628672) ∈ xtb := xtb_at 1253 (by decide +kernel) (by decide +kernel)
theorem K_Mo_162 : Cond.constant "DviBytesModel" 162 (32768) ∈ xtb := xtb_at 1261 (by decide +kernel) (by decide +kernel)
theorem K_Mo_163 : Cond.constant "DviBytesModel" 163 (-8388608) ∈ xtb := xtb_at 1262 (by decide +kernel) (by decide +kernel)
theorem K_Mo_164 : Cond.constant "DviBytesModel" 164 (8388608) ∈ xtb := xtb_at 1263 (by decide +kernel) (by decide +kernel)
theorem K_Mo_196 : Cond.constant "DviBytesModel" 196 (60000) ∈ xtb := xtb_at 1272 (by decide +kernel) (by decide +kernel)
theorem K_Mo_325 : Cond.constant "DviBytesModel" 325 (100000) ∈ xtb := xtb_at 1312 (by decide +kernel) (by decide +kernel)
theorem K_Mo_213 : Cond.constantLong "DviBytesModel" 213 (8) ∈ xtb := xtb_at 1324 (by decide +kernel) (by decide +kernel)
theorem K_Mo_215 : Cond.constantLong "DviBytesModel" 215 (44) ∈ xtb := xtb_at 1325 (by decide +kernel) (by decide +kernel)
theorem K_Mo_224 : Cond.constantLong "DviBytesModel" 224 (1000000) ∈ xtb := xtb_at 1333 (by decide +kernel) (by decide +kernel)
theorem K_Mo_226 : Cond.constantLong "DviBytesModel" 226 (14) ∈ xtb := xtb_at 1334 (by decide +kernel) (by decide +kernel)
theorem K_Mo_228 : Cond.constantLong "DviBytesModel" 228 (28) ∈ xtb := xtb_at 1335 (by decide +kernel) (by decide +kernel)
theorem K_Mo_230 : Cond.constantLong "DviBytesModel" 230 (5) ∈ xtb := xtb_at 1336 (by decide +kernel) (by decide +kernel)
theorem K_Mo_266 : Cond.constant "DviBytesModel" 266 (65535) ∈ xtb := xtb_at 1413 (by decide +kernel) (by decide +kernel)
theorem K_La_69 : Cond.constantLong "DviBytesLaw" 69 (4294967295) ∈ xtb := xtb_at 1430 (by decide +kernel) (by decide +kernel)
theorem M_Wr_116 : xwmax "DviBytes$Writer" 116 := ⟨xtb_at 837 (by decide +kernel) (by decide +kernel), xtb_at 540 (by decide +kernel) (by decide +kernel), xtb_at 78 (by decide +kernel) (by decide +kernel), xtb_at 541 (by decide +kernel) (by decide +kernel)⟩
theorem M_By_42 : xwmin "DviBytes$Bytes" 42 := ⟨xtb_at 407 (by decide +kernel) (by decide +kernel), xtb_at 408 (by decide +kernel) (by decide +kernel), xtb_at 78 (by decide +kernel) (by decide +kernel), xtb_at 409 (by decide +kernel) (by decide +kernel)⟩
theorem M_By_47 : xwcopy "DviBytes$Bytes" 47 := ⟨xtb_at 410 (by decide +kernel) (by decide +kernel), xtb_at 412 (by decide +kernel) (by decide +kernel), xtb_at 411 (by decide +kernel) (by decide +kernel), xtb_at 81 (by decide +kernel) (by decide +kernel)⟩
theorem M_Rd_171 : xwmax "DviBytes$Reader" 171 := ⟨xtb_at 539 (by decide +kernel) (by decide +kernel), xtb_at 540 (by decide +kernel) (by decide +kernel), xtb_at 78 (by decide +kernel) (by decide +kernel), xtb_at 541 (by decide +kernel) (by decide +kernel)⟩
end
section
theorem D_Dv_init_0 : xd m_Dv_init 0 (.aload_n 0) 1 1 := ⟨by decide +kernel, rfl⟩
theorem D_Dv_init_1 : xd m_Dv_init 1 (.invokespecial 1) 3 4 := ⟨by decide +kernel, rfl⟩
theorem D_Dv_init_4 : xd m_Dv_init 4 (.aload_n 0) 1 5 := ⟨by decide +kernel, rfl⟩
theorem D_Dv_init_5 : xd m_Dv_init 5 (.new 7) 3 8 := ⟨by decide +kernel, rfl⟩
theorem D_Dv_init_8 : xd m_Dv_init 8 (.dup) 1 9 := ⟨by decide +kernel, rfl⟩
theorem D_Dv_init_9 : xd m_Dv_init 9 (.invokespecial 9) 3 12 := ⟨by decide +kernel, rfl⟩
theorem D_Dv_init_12 : xd m_Dv_init 12 (.putfield 10) 3 15 := ⟨by decide +kernel, rfl⟩
theorem D_Dv_init_15 : xd m_Dv_init 15 (.aload_n 0) 1 16 := ⟨by decide +kernel, rfl⟩
theorem D_Dv_init_16 : xd m_Dv_init 16 (.new 16) 3 19 := ⟨by decide +kernel, rfl⟩
theorem D_Dv_init_19 : xd m_Dv_init 19 (.dup) 1 20 := ⟨by decide +kernel, rfl⟩
theorem D_Dv_init_20 : xd m_Dv_init 20 (.invokespecial 18) 3 23 := ⟨by decide +kernel, rfl⟩
theorem D_Dv_init_23 : xd m_Dv_init 23 (.putfield 19) 3 26 := ⟨by decide +kernel, rfl⟩
theorem D_Dv_init_26 : xd m_Dv_init 26 (.aload_n 0) 1 27 := ⟨by decide +kernel, rfl⟩
theorem D_Dv_init_27 : xd m_Dv_init 27 (.bipush 10) 2 29 := ⟨by decide +kernel, rfl⟩
theorem D_Dv_init_29 : xd m_Dv_init 29 (.newarray .int) 2 31 := ⟨by decide +kernel, rfl⟩
theorem D_Dv_init_31 : xd m_Dv_init 31 (.putfield 23) 3 34 := ⟨by decide +kernel, rfl⟩
theorem D_Dv_init_34 : xd m_Dv_init 34 (.aload_n 0) 1 35 := ⟨by decide +kernel, rfl⟩
theorem D_Dv_init_35 : xd m_Dv_init 35 (.new 27) 3 38 := ⟨by decide +kernel, rfl⟩
theorem D_Dv_init_38 : xd m_Dv_init 38 (.dup) 1 39 := ⟨by decide +kernel, rfl⟩
theorem D_Dv_init_39 : xd m_Dv_init 39 (.invokespecial 29) 3 42 := ⟨by decide +kernel, rfl⟩
theorem D_Dv_init_42 : xd m_Dv_init 42 (.putfield 30) 3 45 := ⟨by decide +kernel, rfl⟩
theorem D_Dv_init_45 : xd m_Dv_init 45 (.aload_n 0) 1 46 := ⟨by decide +kernel, rfl⟩
theorem D_Dv_init_46 : xd m_Dv_init 46 (.new 34) 3 49 := ⟨by decide +kernel, rfl⟩
theorem D_Dv_init_49 : xd m_Dv_init 49 (.dup) 1 50 := ⟨by decide +kernel, rfl⟩
theorem D_Dv_init_50 : xd m_Dv_init 50 (.aload_n 0) 1 51 := ⟨by decide +kernel, rfl⟩
theorem D_Dv_init_51 : xd m_Dv_init 51 (.getfield 19) 3 54 := ⟨by decide +kernel, rfl⟩
theorem D_Dv_init_54 : xd m_Dv_init 54 (.aload_n 0) 1 55 := ⟨by decide +kernel, rfl⟩
theorem D_Dv_init_55 : xd m_Dv_init 55 (.getfield 10) 3 58 := ⟨by decide +kernel, rfl⟩
theorem D_Dv_init_58 : xd m_Dv_init 58 (.invokespecial 36) 3 61 := ⟨by decide +kernel, rfl⟩
theorem D_Dv_init_61 : xd m_Dv_init 61 (.putfield 39) 3 64 := ⟨by decide +kernel, rfl⟩
theorem D_Dv_init_64 : xd m_Dv_init 64 (.aload_n 0) 1 65 := ⟨by decide +kernel, rfl⟩
theorem D_Dv_init_65 : xd m_Dv_init 65 (.new 43) 3 68 := ⟨by decide +kernel, rfl⟩
theorem D_Dv_init_68 : xd m_Dv_init 68 (.dup) 1 69 := ⟨by decide +kernel, rfl⟩
theorem D_Dv_init_69 : xd m_Dv_init 69 (.invokespecial 45) 3 72 := ⟨by decide +kernel, rfl⟩
theorem D_Dv_init_72 : xd m_Dv_init 72 (.putfield 46) 3 75 := ⟨by decide +kernel, rfl⟩
theorem D_Dv_init_75 : xd m_Dv_init 75 (.aload_n 0) 1 76 := ⟨by decide +kernel, rfl⟩
theorem D_Dv_init_76 : xd m_Dv_init 76 (.new 50) 3 79 := ⟨by decide +kernel, rfl⟩
theorem D_Dv_init_79 : xd m_Dv_init 79 (.dup) 1 80 := ⟨by decide +kernel, rfl⟩
theorem D_Dv_init_80 : xd m_Dv_init 80 (.invokespecial 52) 3 83 := ⟨by decide +kernel, rfl⟩
theorem D_Dv_init_83 : xd m_Dv_init 83 (.putfield 53) 3 86 := ⟨by decide +kernel, rfl⟩
theorem D_Dv_init_86 : xd m_Dv_init 86 (.aload_n 0) 1 87 := ⟨by decide +kernel, rfl⟩
theorem D_Dv_init_87 : xd m_Dv_init 87 (.new 57) 3 90 := ⟨by decide +kernel, rfl⟩
theorem D_Dv_init_90 : xd m_Dv_init 90 (.dup) 1 91 := ⟨by decide +kernel, rfl⟩
theorem D_Dv_init_91 : xd m_Dv_init 91 (.aload_n 0) 1 92 := ⟨by decide +kernel, rfl⟩
theorem D_Dv_init_92 : xd m_Dv_init 92 (.getfield 46) 3 95 := ⟨by decide +kernel, rfl⟩
theorem D_Dv_init_95 : xd m_Dv_init 95 (.aload_n 0) 1 96 := ⟨by decide +kernel, rfl⟩
theorem D_Dv_init_96 : xd m_Dv_init 96 (.getfield 10) 3 99 := ⟨by decide +kernel, rfl⟩
theorem D_Dv_init_99 : xd m_Dv_init 99 (.aload_n 0) 1 100 := ⟨by decide +kernel, rfl⟩
theorem D_Dv_init_100 : xd m_Dv_init 100 (.getfield 53) 3 103 := ⟨by decide +kernel, rfl⟩
theorem D_Dv_init_103 : xd m_Dv_init 103 (.invokespecial 59) 3 106 := ⟨by decide +kernel, rfl⟩
theorem D_Dv_init_106 : xd m_Dv_init 106 (.putfield 62) 3 109 := ⟨by decide +kernel, rfl⟩
theorem D_Dv_init_109 : xd m_Dv_init 109 (.return_) 1 110 := ⟨by decide +kernel, rfl⟩
theorem D_Dv_font_0 : xd m_Dv_font 0 (.iload_n 1) 1 1 := ⟨by decide +kernel, rfl⟩
theorem D_Dv_font_1 : xd m_Dv_font 1 (.invokestatic 66) 3 4 := ⟨by decide +kernel, rfl⟩
theorem D_Dv_font_4 : xd m_Dv_font 4 (.ifCond .eq 15) 3 7 := ⟨by decide +kernel, rfl⟩
theorem D_Dv_font_7 : xd m_Dv_font 7 (.lload 5) 2 9 := ⟨by decide +kernel, rfl⟩
theorem D_Dv_font_9 : xd m_Dv_font 9 (.lload 7) 2 11 := ⟨by decide +kernel, rfl⟩
theorem D_Dv_font_11 : xd m_Dv_font 11 (.iload 9) 2 13 := ⟨by decide +kernel, rfl⟩
theorem D_Dv_font_13 : xd m_Dv_font 13 (.invokestatic 70) 3 16 := ⟨by decide +kernel, rfl⟩
theorem D_Dv_font_16 : xd m_Dv_font 16 (.ifCond .ne 13) 3 19 := ⟨by decide +kernel, rfl⟩
theorem D_Dv_font_19 : xd m_Dv_font 19 (.new 74) 3 22 := ⟨by decide +kernel, rfl⟩
theorem D_Dv_font_22 : xd m_Dv_font 22 (.dup) 1 23 := ⟨by decide +kernel, rfl⟩
theorem D_Dv_font_23 : xd m_Dv_font 23 (.ldc 76) 2 25 := ⟨by decide +kernel, rfl⟩
theorem D_Dv_font_25 : xd m_Dv_font 25 (.invokespecial 78) 3 28 := ⟨by decide +kernel, rfl⟩
theorem D_Dv_font_28 : xd m_Dv_font 28 (.athrow) 1 29 := ⟨by decide +kernel, rfl⟩
theorem D_Dv_font_29 : xd m_Dv_font 29 (.aload_n 0) 1 30 := ⟨by decide +kernel, rfl⟩
theorem D_Dv_font_30 : xd m_Dv_font 30 (.getfield 39) 3 33 := ⟨by decide +kernel, rfl⟩
theorem D_Dv_font_33 : xd m_Dv_font 33 (.iload_n 1) 1 34 := ⟨by decide +kernel, rfl⟩
theorem D_Dv_font_34 : xd m_Dv_font 34 (.invokevirtual 81) 3 37 := ⟨by decide +kernel, rfl⟩
theorem D_Dv_font_37 : xd m_Dv_font 37 (.ifCond .eq 13) 3 40 := ⟨by decide +kernel, rfl⟩
theorem D_Dv_font_40 : xd m_Dv_font 40 (.new 84) 3 43 := ⟨by decide +kernel, rfl⟩
theorem D_Dv_font_43 : xd m_Dv_font 43 (.dup) 1 44 := ⟨by decide +kernel, rfl⟩
theorem D_Dv_font_44 : xd m_Dv_font 44 (.ldc 86) 2 46 := ⟨by decide +kernel, rfl⟩
theorem D_Dv_font_46 : xd m_Dv_font 46 (.invokespecial 88) 3 49 := ⟨by decide +kernel, rfl⟩
theorem D_Dv_font_49 : xd m_Dv_font 49 (.athrow) 1 50 := ⟨by decide +kernel, rfl⟩
theorem D_Dv_font_50 : xd m_Dv_font 50 (.aload_n 0) 1 51 := ⟨by decide +kernel, rfl⟩
theorem D_Dv_font_51 : xd m_Dv_font 51 (.getfield 19) 3 54 := ⟨by decide +kernel, rfl⟩
theorem D_Dv_font_54 : xd m_Dv_font 54 (.iload_n 1) 1 55 := ⟨by decide +kernel, rfl⟩
theorem D_Dv_font_55 : xd m_Dv_font 55 (.iload_n 2) 1 56 := ⟨by decide +kernel, rfl⟩
theorem D_Dv_font_56 : xd m_Dv_font 56 (.iload_n 3) 1 57 := ⟨by decide +kernel, rfl⟩
theorem D_Dv_font_57 : xd m_Dv_font 57 (.iload 4) 2 59 := ⟨by decide +kernel, rfl⟩
theorem D_Dv_font_59 : xd m_Dv_font 59 (.invokevirtual 89) 3 62 := ⟨by decide +kernel, rfl⟩
theorem D_Dv_font_62 : xd m_Dv_font 62 (.aload_n 0) 1 63 := ⟨by decide +kernel, rfl⟩
theorem D_Dv_font_63 : xd m_Dv_font 63 (.getfield 19) 3 66 := ⟨by decide +kernel, rfl⟩
theorem D_Dv_font_66 : xd m_Dv_font 66 (.iload_n 1) 1 67 := ⟨by decide +kernel, rfl⟩
theorem D_Dv_font_67 : xd m_Dv_font 67 (.lload 5) 2 69 := ⟨by decide +kernel, rfl⟩
theorem D_Dv_font_69 : xd m_Dv_font 69 (.lload 7) 2 71 := ⟨by decide +kernel, rfl⟩
theorem D_Dv_font_71 : xd m_Dv_font 71 (.iload 9) 2 73 := ⟨by decide +kernel, rfl⟩
theorem D_Dv_font_73 : xd m_Dv_font 73 (.invokevirtual 93) 3 76 := ⟨by decide +kernel, rfl⟩
theorem D_Dv_font_76 : xd m_Dv_font 76 (.return_) 1 77 := ⟨by decide +kernel, rfl⟩
theorem D_Dv_width_0 : xd m_Dv_width 0 (.iload_n 1) 1 1 := ⟨by decide +kernel, rfl⟩
theorem D_Dv_width_1 : xd m_Dv_width 1 (.invokestatic 66) 3 4 := ⟨by decide +kernel, rfl⟩
theorem D_Dv_width_4 : xd m_Dv_width 4 (.ifCond .eq 10) 3 7 := ⟨by decide +kernel, rfl⟩
theorem D_Dv_width_7 : xd m_Dv_width 7 (.iload_n 2) 1 8 := ⟨by decide +kernel, rfl⟩
theorem D_Dv_width_8 : xd m_Dv_width 8 (.invokestatic 66) 3 11 := ⟨by decide +kernel, rfl⟩
theorem D_Dv_width_11 : xd m_Dv_width 11 (.ifCond .ne 13) 3 14 := ⟨by decide +kernel, rfl⟩
theorem D_Dv_width_14 : xd m_Dv_width 14 (.new 74) 3 17 := ⟨by decide +kernel, rfl⟩
theorem D_Dv_width_17 : xd m_Dv_width 17 (.dup) 1 18 := ⟨by decide +kernel, rfl⟩
theorem D_Dv_width_18 : xd m_Dv_width 18 (.ldc 97) 2 20 := ⟨by decide +kernel, rfl⟩
theorem D_Dv_width_20 : xd m_Dv_width 20 (.invokespecial 78) 3 23 := ⟨by decide +kernel, rfl⟩
theorem D_Dv_width_23 : xd m_Dv_width 23 (.athrow) 1 24 := ⟨by decide +kernel, rfl⟩
theorem D_Dv_width_24 : xd m_Dv_width 24 (.aload_n 0) 1 25 := ⟨by decide +kernel, rfl⟩
theorem D_Dv_width_25 : xd m_Dv_width 25 (.getfield 10) 3 28 := ⟨by decide +kernel, rfl⟩
theorem D_Dv_width_28 : xd m_Dv_width 28 (.iload_n 1) 1 29 := ⟨by decide +kernel, rfl⟩
theorem D_Dv_width_29 : xd m_Dv_width 29 (.iload_n 2) 1 30 := ⟨by decide +kernel, rfl⟩
theorem D_Dv_width_30 : xd m_Dv_width 30 (.iload_n 3) 1 31 := ⟨by decide +kernel, rfl⟩
theorem D_Dv_width_31 : xd m_Dv_width 31 (.invokevirtual 99) 3 34 := ⟨by decide +kernel, rfl⟩
theorem D_Dv_width_34 : xd m_Dv_width 34 (.return_) 1 35 := ⟨by decide +kernel, rfl⟩
theorem D_Dv_count_0 : xd m_Dv_count 0 (.iload_n 1) 1 1 := ⟨by decide +kernel, rfl⟩
theorem D_Dv_count_1 : xd m_Dv_count 1 (.ifCond .lt 12) 3 4 := ⟨by decide +kernel, rfl⟩
theorem D_Dv_count_4 : xd m_Dv_count 4 (.iload_n 1) 1 5 := ⟨by decide +kernel, rfl⟩
theorem D_Dv_count_5 : xd m_Dv_count 5 (.aload_n 0) 1 6 := ⟨by decide +kernel, rfl⟩
theorem D_Dv_count_6 : xd m_Dv_count 6 (.getfield 23) 3 9 := ⟨by decide +kernel, rfl⟩
theorem D_Dv_count_9 : xd m_Dv_count 9 (.arraylength) 1 10 := ⟨by decide +kernel, rfl⟩
theorem D_Dv_count_10 : xd m_Dv_count 10 (.if_icmp .lt 13) 3 13 := ⟨by decide +kernel, rfl⟩
theorem D_Dv_count_13 : xd m_Dv_count 13 (.new 74) 3 16 := ⟨by decide +kernel, rfl⟩
theorem D_Dv_count_16 : xd m_Dv_count 16 (.dup) 1 17 := ⟨by decide +kernel, rfl⟩
theorem D_Dv_count_17 : xd m_Dv_count 17 (.ldc 103) 2 19 := ⟨by decide +kernel, rfl⟩
theorem D_Dv_count_19 : xd m_Dv_count 19 (.invokespecial 78) 3 22 := ⟨by decide +kernel, rfl⟩
theorem D_Dv_count_22 : xd m_Dv_count 22 (.athrow) 1 23 := ⟨by decide +kernel, rfl⟩
theorem D_Dv_count_23 : xd m_Dv_count 23 (.aload_n 0) 1 24 := ⟨by decide +kernel, rfl⟩
theorem D_Dv_count_24 : xd m_Dv_count 24 (.getfield 23) 3 27 := ⟨by decide +kernel, rfl⟩
theorem D_Dv_count_27 : xd m_Dv_count 27 (.iload_n 1) 1 28 := ⟨by decide +kernel, rfl⟩
theorem D_Dv_count_28 : xd m_Dv_count 28 (.iload_n 2) 1 29 := ⟨by decide +kernel, rfl⟩
theorem D_Dv_count_29 : xd m_Dv_count 29 (.iastore) 1 30 := ⟨by decide +kernel, rfl⟩
theorem D_Dv_count_30 : xd m_Dv_count 30 (.return_) 1 31 := ⟨by decide +kernel, rfl⟩
theorem D_Dv_begin_0 : xd m_Dv_begin 0 (.iload_n 1) 1 1 := ⟨by decide +kernel, rfl⟩
theorem D_Dv_begin_1 : xd m_Dv_begin 1 (.invokestatic 66) 3 4 := ⟨by decide +kernel, rfl⟩
theorem D_Dv_begin_4 : xd m_Dv_begin 4 (.ifCond .eq 10) 3 7 := ⟨by decide +kernel, rfl⟩
theorem D_Dv_begin_7 : xd m_Dv_begin 7 (.iload_n 2) 1 8 := ⟨by decide +kernel, rfl⟩
theorem D_Dv_begin_8 : xd m_Dv_begin 8 (.invokestatic 66) 3 11 := ⟨by decide +kernel, rfl⟩
theorem D_Dv_begin_11 : xd m_Dv_begin 11 (.ifCond .ne 13) 3 14 := ⟨by decide +kernel, rfl⟩
theorem D_Dv_begin_14 : xd m_Dv_begin 14 (.new 74) 3 17 := ⟨by decide +kernel, rfl⟩
theorem D_Dv_begin_17 : xd m_Dv_begin 17 (.dup) 1 18 := ⟨by decide +kernel, rfl⟩
theorem D_Dv_begin_18 : xd m_Dv_begin 18 (.ldc 105) 2 20 := ⟨by decide +kernel, rfl⟩
theorem D_Dv_begin_20 : xd m_Dv_begin 20 (.invokespecial 78) 3 23 := ⟨by decide +kernel, rfl⟩
theorem D_Dv_begin_23 : xd m_Dv_begin 23 (.athrow) 1 24 := ⟨by decide +kernel, rfl⟩
theorem D_Dv_begin_24 : xd m_Dv_begin 24 (.aload_n 0) 1 25 := ⟨by decide +kernel, rfl⟩
theorem D_Dv_begin_25 : xd m_Dv_begin 25 (.getfield 39) 3 28 := ⟨by decide +kernel, rfl⟩
theorem D_Dv_begin_28 : xd m_Dv_begin 28 (.iload_n 1) 1 29 := ⟨by decide +kernel, rfl⟩
theorem D_Dv_begin_29 : xd m_Dv_begin 29 (.iload_n 2) 1 30 := ⟨by decide +kernel, rfl⟩
theorem D_Dv_begin_30 : xd m_Dv_begin 30 (.invokevirtual 107) 3 33 := ⟨by decide +kernel, rfl⟩
theorem D_Dv_begin_33 : xd m_Dv_begin 33 (.aload_n 0) 1 34 := ⟨by decide +kernel, rfl⟩
theorem D_Dv_begin_34 : xd m_Dv_begin 34 (.getfield 30) 3 37 := ⟨by decide +kernel, rfl⟩
theorem D_Dv_begin_37 : xd m_Dv_begin 37 (.invokevirtual 111) 3 40 := ⟨by decide +kernel, rfl⟩
theorem D_Dv_begin_40 : xd m_Dv_begin 40 (.return_) 1 41 := ⟨by decide +kernel, rfl⟩
theorem D_Dv_put_0 : xd m_Dv_put 0 (.aload_n 0) 1 1 := ⟨by decide +kernel, rfl⟩
theorem D_Dv_put_1 : xd m_Dv_put 1 (.getfield 19) 3 4 := ⟨by decide +kernel, rfl⟩
theorem D_Dv_put_4 : xd m_Dv_put 4 (.iload_n 1) 1 5 := ⟨by decide +kernel, rfl⟩
theorem D_Dv_put_5 : xd m_Dv_put 5 (.invokevirtual 114) 3 8 := ⟨by decide +kernel, rfl⟩
theorem D_Dv_put_8 : xd m_Dv_put 8 (.ifCond .eq 25) 3 11 := ⟨by decide +kernel, rfl⟩
theorem D_Dv_put_11 : xd m_Dv_put 11 (.iload_n 2) 1 12 := ⟨by decide +kernel, rfl⟩
theorem D_Dv_put_12 : xd m_Dv_put 12 (.invokestatic 66) 3 15 := ⟨by decide +kernel, rfl⟩
theorem D_Dv_put_15 : xd m_Dv_put 15 (.ifCond .eq 18) 3 18 := ⟨by decide +kernel, rfl⟩
theorem D_Dv_put_18 : xd m_Dv_put 18 (.iload_n 3) 1 19 := ⟨by decide +kernel, rfl⟩
theorem D_Dv_put_19 : xd m_Dv_put 19 (.invokestatic 117) 3 22 := ⟨by decide +kernel, rfl⟩
theorem D_Dv_put_22 : xd m_Dv_put 22 (.ifCond .eq 11) 3 25 := ⟨by decide +kernel, rfl⟩
theorem D_Dv_put_25 : xd m_Dv_put 25 (.iload 4) 2 27 := ⟨by decide +kernel, rfl⟩
theorem D_Dv_put_27 : xd m_Dv_put 27 (.invokestatic 117) 3 30 := ⟨by decide +kernel, rfl⟩
theorem D_Dv_put_30 : xd m_Dv_put 30 (.ifCond .ne 13) 3 33 := ⟨by decide +kernel, rfl⟩
theorem D_Dv_put_33 : xd m_Dv_put 33 (.new 74) 3 36 := ⟨by decide +kernel, rfl⟩
theorem D_Dv_put_36 : xd m_Dv_put 36 (.dup) 1 37 := ⟨by decide +kernel, rfl⟩
theorem D_Dv_put_37 : xd m_Dv_put 37 (.ldc 120) 2 39 := ⟨by decide +kernel, rfl⟩
theorem D_Dv_put_39 : xd m_Dv_put 39 (.invokespecial 78) 3 42 := ⟨by decide +kernel, rfl⟩
theorem D_Dv_put_42 : xd m_Dv_put 42 (.athrow) 1 43 := ⟨by decide +kernel, rfl⟩
theorem D_Dv_put_43 : xd m_Dv_put 43 (.aload_n 0) 1 44 := ⟨by decide +kernel, rfl⟩
theorem D_Dv_put_44 : xd m_Dv_put 44 (.getfield 30) 3 47 := ⟨by decide +kernel, rfl⟩
theorem D_Dv_put_47 : xd m_Dv_put 47 (.invokevirtual 122) 3 50 := ⟨by decide +kernel, rfl⟩
theorem D_Dv_put_50 : xd m_Dv_put 50 (.ifCond .eq 13) 3 53 := ⟨by decide +kernel, rfl⟩
theorem D_Dv_put_53 : xd m_Dv_put 53 (.new 126) 3 56 := ⟨by decide +kernel, rfl⟩
theorem D_Dv_put_56 : xd m_Dv_put 56 (.dup) 1 57 := ⟨by decide +kernel, rfl⟩
theorem D_Dv_put_57 : xd m_Dv_put 57 (.ldc 128) 2 59 := ⟨by decide +kernel, rfl⟩
theorem D_Dv_put_59 : xd m_Dv_put 59 (.invokespecial 130) 3 62 := ⟨by decide +kernel, rfl⟩
theorem D_Dv_put_62 : xd m_Dv_put 62 (.athrow) 1 63 := ⟨by decide +kernel, rfl⟩
theorem D_Dv_put_63 : xd m_Dv_put 63 (.aload_n 0) 1 64 := ⟨by decide +kernel, rfl⟩
theorem D_Dv_put_64 : xd m_Dv_put 64 (.getfield 30) 3 67 := ⟨by decide +kernel, rfl⟩
theorem D_Dv_put_67 : xd m_Dv_put 67 (.iload_n 1) 1 68 := ⟨by decide +kernel, rfl⟩
theorem D_Dv_put_68 : xd m_Dv_put 68 (.iload_n 2) 1 69 := ⟨by decide +kernel, rfl⟩
theorem D_Dv_put_69 : xd m_Dv_put 69 (.iconst 0) 1 70 := ⟨by decide +kernel, rfl⟩
theorem D_Dv_put_70 : xd m_Dv_put 70 (.iload_n 3) 1 71 := ⟨by decide +kernel, rfl⟩
theorem D_Dv_put_71 : xd m_Dv_put 71 (.iload 4) 2 73 := ⟨by decide +kernel, rfl⟩
theorem D_Dv_put_73 : xd m_Dv_put 73 (.invokevirtual 131) 3 76 := ⟨by decide +kernel, rfl⟩
theorem D_Dv_put_76 : xd m_Dv_put 76 (.ireturn) 1 77 := ⟨by decide +kernel, rfl⟩
theorem D_Dv_rule_0 : xd m_Dv_rule 0 (.iload_n 1) 1 1 := ⟨by decide +kernel, rfl⟩
theorem D_Dv_rule_1 : xd m_Dv_rule 1 (.invokestatic 117) 3 4 := ⟨by decide +kernel, rfl⟩
theorem D_Dv_rule_4 : xd m_Dv_rule 4 (.ifCond .eq 25) 3 7 := ⟨by decide +kernel, rfl⟩
theorem D_Dv_rule_7 : xd m_Dv_rule 7 (.iload_n 2) 1 8 := ⟨by decide +kernel, rfl⟩
theorem D_Dv_rule_8 : xd m_Dv_rule 8 (.invokestatic 117) 3 11 := ⟨by decide +kernel, rfl⟩
theorem D_Dv_rule_11 : xd m_Dv_rule 11 (.ifCond .eq 18) 3 14 := ⟨by decide +kernel, rfl⟩
theorem D_Dv_rule_14 : xd m_Dv_rule 14 (.iload_n 3) 1 15 := ⟨by decide +kernel, rfl⟩
theorem D_Dv_rule_15 : xd m_Dv_rule 15 (.invokestatic 135) 3 18 := ⟨by decide +kernel, rfl⟩
theorem D_Dv_rule_18 : xd m_Dv_rule 18 (.ifCond .eq 11) 3 21 := ⟨by decide +kernel, rfl⟩
theorem D_Dv_rule_21 : xd m_Dv_rule 21 (.iload 4) 2 23 := ⟨by decide +kernel, rfl⟩
theorem D_Dv_rule_23 : xd m_Dv_rule 23 (.invokestatic 135) 3 26 := ⟨by decide +kernel, rfl⟩
theorem D_Dv_rule_26 : xd m_Dv_rule 26 (.ifCond .ne 13) 3 29 := ⟨by decide +kernel, rfl⟩
theorem D_Dv_rule_29 : xd m_Dv_rule 29 (.new 74) 3 32 := ⟨by decide +kernel, rfl⟩
theorem D_Dv_rule_32 : xd m_Dv_rule 32 (.dup) 1 33 := ⟨by decide +kernel, rfl⟩
theorem D_Dv_rule_33 : xd m_Dv_rule 33 (.ldc 138) 2 35 := ⟨by decide +kernel, rfl⟩
theorem D_Dv_rule_35 : xd m_Dv_rule 35 (.invokespecial 78) 3 38 := ⟨by decide +kernel, rfl⟩
theorem D_Dv_rule_38 : xd m_Dv_rule 38 (.athrow) 1 39 := ⟨by decide +kernel, rfl⟩
theorem D_Dv_rule_39 : xd m_Dv_rule 39 (.aload_n 0) 1 40 := ⟨by decide +kernel, rfl⟩
theorem D_Dv_rule_40 : xd m_Dv_rule 40 (.getfield 30) 3 43 := ⟨by decide +kernel, rfl⟩
theorem D_Dv_rule_43 : xd m_Dv_rule 43 (.invokevirtual 122) 3 46 := ⟨by decide +kernel, rfl⟩
theorem D_Dv_rule_46 : xd m_Dv_rule 46 (.ifCond .eq 13) 3 49 := ⟨by decide +kernel, rfl⟩
theorem D_Dv_rule_49 : xd m_Dv_rule 49 (.new 126) 3 52 := ⟨by decide +kernel, rfl⟩
theorem D_Dv_rule_52 : xd m_Dv_rule 52 (.dup) 1 53 := ⟨by decide +kernel, rfl⟩
theorem D_Dv_rule_53 : xd m_Dv_rule 53 (.ldc 128) 2 55 := ⟨by decide +kernel, rfl⟩
theorem D_Dv_rule_55 : xd m_Dv_rule 55 (.invokespecial 130) 3 58 := ⟨by decide +kernel, rfl⟩
theorem D_Dv_rule_58 : xd m_Dv_rule 58 (.athrow) 1 59 := ⟨by decide +kernel, rfl⟩
theorem D_Dv_rule_59 : xd m_Dv_rule 59 (.aload_n 0) 1 60 := ⟨by decide +kernel, rfl⟩
theorem D_Dv_rule_60 : xd m_Dv_rule 60 (.getfield 30) 3 63 := ⟨by decide +kernel, rfl⟩
theorem D_Dv_rule_63 : xd m_Dv_rule 63 (.iconst (-1)) 1 64 := ⟨by decide +kernel, rfl⟩
theorem D_Dv_rule_64 : xd m_Dv_rule 64 (.iload_n 3) 1 65 := ⟨by decide +kernel, rfl⟩
theorem D_Dv_rule_65 : xd m_Dv_rule 65 (.iload 4) 2 67 := ⟨by decide +kernel, rfl⟩
theorem D_Dv_rule_67 : xd m_Dv_rule 67 (.iload_n 1) 1 68 := ⟨by decide +kernel, rfl⟩
theorem D_Dv_rule_68 : xd m_Dv_rule 68 (.iload_n 2) 1 69 := ⟨by decide +kernel, rfl⟩
theorem D_Dv_rule_69 : xd m_Dv_rule 69 (.invokevirtual 131) 3 72 := ⟨by decide +kernel, rfl⟩
theorem D_Dv_rule_72 : xd m_Dv_rule 72 (.ireturn) 1 73 := ⟨by decide +kernel, rfl⟩
theorem D_Dv_ship_0 : xd m_Dv_ship 0 (.aload_n 0) 1 1 := ⟨by decide +kernel, rfl⟩
theorem D_Dv_ship_1 : xd m_Dv_ship 1 (.getfield 39) 3 4 := ⟨by decide +kernel, rfl⟩
theorem D_Dv_ship_4 : xd m_Dv_ship 4 (.invokevirtual 140) 3 7 := ⟨by decide +kernel, rfl⟩
theorem D_Dv_ship_7 : xd m_Dv_ship 7 (.ifCond .eq 13) 3 10 := ⟨by decide +kernel, rfl⟩
theorem D_Dv_ship_10 : xd m_Dv_ship 10 (.new 84) 3 13 := ⟨by decide +kernel, rfl⟩
theorem D_Dv_ship_13 : xd m_Dv_ship 13 (.dup) 1 14 := ⟨by decide +kernel, rfl⟩
theorem D_Dv_ship_14 : xd m_Dv_ship 14 (.ldc 143) 2 16 := ⟨by decide +kernel, rfl⟩
theorem D_Dv_ship_16 : xd m_Dv_ship 16 (.invokespecial 88) 3 19 := ⟨by decide +kernel, rfl⟩
theorem D_Dv_ship_19 : xd m_Dv_ship 19 (.athrow) 1 20 := ⟨by decide +kernel, rfl⟩
theorem D_Dv_ship_20 : xd m_Dv_ship 20 (.aload_n 0) 1 21 := ⟨by decide +kernel, rfl⟩
theorem D_Dv_ship_21 : xd m_Dv_ship 21 (.getfield 39) 3 24 := ⟨by decide +kernel, rfl⟩
theorem D_Dv_ship_24 : xd m_Dv_ship 24 (.aload_n 0) 1 25 := ⟨by decide +kernel, rfl⟩
theorem D_Dv_ship_25 : xd m_Dv_ship 25 (.getfield 30) 3 28 := ⟨by decide +kernel, rfl⟩
theorem D_Dv_ship_28 : xd m_Dv_ship 28 (.invokevirtual 145) 3 31 := ⟨by decide +kernel, rfl⟩
theorem D_Dv_ship_31 : xd m_Dv_ship 31 (.ifCond .ne 13) 3 34 := ⟨by decide +kernel, rfl⟩
theorem D_Dv_ship_34 : xd m_Dv_ship 34 (.new 149) 3 37 := ⟨by decide +kernel, rfl⟩
theorem D_Dv_ship_37 : xd m_Dv_ship 37 (.dup) 1 38 := ⟨by decide +kernel, rfl⟩
theorem D_Dv_ship_38 : xd m_Dv_ship 38 (.ldc 151) 2 40 := ⟨by decide +kernel, rfl⟩
theorem D_Dv_ship_40 : xd m_Dv_ship 40 (.invokespecial 153) 3 43 := ⟨by decide +kernel, rfl⟩
theorem D_Dv_ship_43 : xd m_Dv_ship 43 (.athrow) 1 44 := ⟨by decide +kernel, rfl⟩
theorem D_Dv_ship_44 : xd m_Dv_ship 44 (.aload_n 0) 1 45 := ⟨by decide +kernel, rfl⟩
theorem D_Dv_ship_45 : xd m_Dv_ship 45 (.getfield 39) 3 48 := ⟨by decide +kernel, rfl⟩
theorem D_Dv_ship_48 : xd m_Dv_ship 48 (.aload_n 0) 1 49 := ⟨by decide +kernel, rfl⟩
theorem D_Dv_ship_49 : xd m_Dv_ship 49 (.getfield 30) 3 52 := ⟨by decide +kernel, rfl⟩
theorem D_Dv_ship_52 : xd m_Dv_ship 52 (.aload_n 0) 1 53 := ⟨by decide +kernel, rfl⟩
theorem D_Dv_ship_53 : xd m_Dv_ship 53 (.getfield 23) 3 56 := ⟨by decide +kernel, rfl⟩
theorem D_Dv_ship_56 : xd m_Dv_ship 56 (.invokevirtual 154) 3 59 := ⟨by decide +kernel, rfl⟩
theorem D_Dv_ship_59 : xd m_Dv_ship 59 (.ifCond .ne 13) 3 62 := ⟨by decide +kernel, rfl⟩
theorem D_Dv_ship_62 : xd m_Dv_ship 62 (.new 126) 3 65 := ⟨by decide +kernel, rfl⟩
theorem D_Dv_ship_65 : xd m_Dv_ship 65 (.dup) 1 66 := ⟨by decide +kernel, rfl⟩
theorem D_Dv_ship_66 : xd m_Dv_ship 66 (.ldc 158) 2 68 := ⟨by decide +kernel, rfl⟩
theorem D_Dv_ship_68 : xd m_Dv_ship 68 (.invokespecial 130) 3 71 := ⟨by decide +kernel, rfl⟩
theorem D_Dv_ship_71 : xd m_Dv_ship 71 (.athrow) 1 72 := ⟨by decide +kernel, rfl⟩
theorem D_Dv_ship_72 : xd m_Dv_ship 72 (.aload_n 0) 1 73 := ⟨by decide +kernel, rfl⟩
theorem D_Dv_ship_73 : xd m_Dv_ship 73 (.getfield 30) 3 76 := ⟨by decide +kernel, rfl⟩
theorem D_Dv_ship_76 : xd m_Dv_ship 76 (.invokevirtual 111) 3 79 := ⟨by decide +kernel, rfl⟩
theorem D_Dv_ship_79 : xd m_Dv_ship 79 (.aload_n 0) 1 80 := ⟨by decide +kernel, rfl⟩
theorem D_Dv_ship_80 : xd m_Dv_ship 80 (.getfield 39) 3 83 := ⟨by decide +kernel, rfl⟩
theorem D_Dv_ship_83 : xd m_Dv_ship 83 (.invokevirtual 160) 3 86 := ⟨by decide +kernel, rfl⟩
theorem D_Dv_ship_86 : xd m_Dv_ship 86 (.ireturn) 1 87 := ⟨by decide +kernel, rfl⟩
theorem D_Dv_close_0 : xd m_Dv_close 0 (.aload_n 0) 1 1 := ⟨by decide +kernel, rfl⟩
theorem D_Dv_close_1 : xd m_Dv_close 1 (.getfield 39) 3 4 := ⟨by decide +kernel, rfl⟩
theorem D_Dv_close_4 : xd m_Dv_close 4 (.invokevirtual 140) 3 7 := ⟨by decide +kernel, rfl⟩
theorem D_Dv_close_7 : xd m_Dv_close 7 (.ifCond .eq 13) 3 10 := ⟨by decide +kernel, rfl⟩
theorem D_Dv_close_10 : xd m_Dv_close 10 (.new 84) 3 13 := ⟨by decide +kernel, rfl⟩
theorem D_Dv_close_13 : xd m_Dv_close 13 (.dup) 1 14 := ⟨by decide +kernel, rfl⟩
theorem D_Dv_close_14 : xd m_Dv_close 14 (.ldc 143) 2 16 := ⟨by decide +kernel, rfl⟩
theorem D_Dv_close_16 : xd m_Dv_close 16 (.invokespecial 88) 3 19 := ⟨by decide +kernel, rfl⟩
theorem D_Dv_close_19 : xd m_Dv_close 19 (.athrow) 1 20 := ⟨by decide +kernel, rfl⟩
theorem D_Dv_close_20 : xd m_Dv_close 20 (.aload_n 0) 1 21 := ⟨by decide +kernel, rfl⟩
theorem D_Dv_close_21 : xd m_Dv_close 21 (.getfield 39) 3 24 := ⟨by decide +kernel, rfl⟩
theorem D_Dv_close_24 : xd m_Dv_close 24 (.invokevirtual 164) 3 27 := ⟨by decide +kernel, rfl⟩
theorem D_Dv_close_27 : xd m_Dv_close 27 (.ireturn) 1 28 := ⟨by decide +kernel, rfl⟩
theorem D_Dv_size_0 : xd m_Dv_size 0 (.aload_n 0) 1 1 := ⟨by decide +kernel, rfl⟩
theorem D_Dv_size_1 : xd m_Dv_size 1 (.getfield 39) 3 4 := ⟨by decide +kernel, rfl⟩
theorem D_Dv_size_4 : xd m_Dv_size 4 (.invokevirtual 167) 3 7 := ⟨by decide +kernel, rfl⟩
theorem D_Dv_size_7 : xd m_Dv_size 7 (.invokevirtual 171) 3 10 := ⟨by decide +kernel, rfl⟩
theorem D_Dv_size_10 : xd m_Dv_size 10 (.ireturn) 1 11 := ⟨by decide +kernel, rfl⟩
theorem D_Dv_out_0 : xd m_Dv_out 0 (.iload_n 1) 1 1 := ⟨by decide +kernel, rfl⟩
theorem D_Dv_out_1 : xd m_Dv_out 1 (.ifCond .lt 17) 3 4 := ⟨by decide +kernel, rfl⟩
theorem D_Dv_out_4 : xd m_Dv_out 4 (.iload_n 1) 1 5 := ⟨by decide +kernel, rfl⟩
theorem D_Dv_out_5 : xd m_Dv_out 5 (.aload_n 0) 1 6 := ⟨by decide +kernel, rfl⟩
theorem D_Dv_out_6 : xd m_Dv_out 6 (.getfield 39) 3 9 := ⟨by decide +kernel, rfl⟩
theorem D_Dv_out_9 : xd m_Dv_out 9 (.invokevirtual 167) 3 12 := ⟨by decide +kernel, rfl⟩
theorem D_Dv_out_12 : xd m_Dv_out 12 (.invokevirtual 171) 3 15 := ⟨by decide +kernel, rfl⟩
theorem D_Dv_out_15 : xd m_Dv_out 15 (.if_icmp .lt 13) 3 18 := ⟨by decide +kernel, rfl⟩
theorem D_Dv_out_18 : xd m_Dv_out 18 (.new 174) 3 21 := ⟨by decide +kernel, rfl⟩
theorem D_Dv_out_21 : xd m_Dv_out 21 (.dup) 1 22 := ⟨by decide +kernel, rfl⟩
theorem D_Dv_out_22 : xd m_Dv_out 22 (.ldc 176) 2 24 := ⟨by decide +kernel, rfl⟩
theorem D_Dv_out_24 : xd m_Dv_out 24 (.invokespecial 178) 3 27 := ⟨by decide +kernel, rfl⟩
theorem D_Dv_out_27 : xd m_Dv_out 27 (.athrow) 1 28 := ⟨by decide +kernel, rfl⟩
theorem D_Dv_out_28 : xd m_Dv_out 28 (.aload_n 0) 1 29 := ⟨by decide +kernel, rfl⟩
theorem D_Dv_out_29 : xd m_Dv_out 29 (.getfield 39) 3 32 := ⟨by decide +kernel, rfl⟩
theorem D_Dv_out_32 : xd m_Dv_out 32 (.invokevirtual 167) 3 35 := ⟨by decide +kernel, rfl⟩
theorem D_Dv_out_35 : xd m_Dv_out 35 (.iload_n 1) 1 36 := ⟨by decide +kernel, rfl⟩
theorem D_Dv_out_36 : xd m_Dv_out 36 (.invokevirtual 179) 3 39 := ⟨by decide +kernel, rfl⟩
theorem D_Dv_out_39 : xd m_Dv_out 39 (.ireturn) 1 40 := ⟨by decide +kernel, rfl⟩
theorem D_Dv_feed_0 : xd m_Dv_feed 0 (.iload_n 3) 1 1 := ⟨by decide +kernel, rfl⟩
theorem D_Dv_feed_1 : xd m_Dv_feed 1 (.iconst 1) 1 2 := ⟨by decide +kernel, rfl⟩
theorem D_Dv_feed_2 : xd m_Dv_feed 2 (.if_icmp .lt 23) 3 5 := ⟨by decide +kernel, rfl⟩
theorem D_Dv_feed_5 : xd m_Dv_feed 5 (.iload_n 3) 1 6 := ⟨by decide +kernel, rfl⟩
theorem D_Dv_feed_6 : xd m_Dv_feed 6 (.bipush 8) 2 8 := ⟨by decide +kernel, rfl⟩
theorem D_Dv_feed_8 : xd m_Dv_feed 8 (.if_icmp .gt 17) 3 11 := ⟨by decide +kernel, rfl⟩
theorem D_Dv_feed_11 : xd m_Dv_feed 11 (.iload_n 3) 1 12 := ⟨by decide +kernel, rfl⟩
theorem D_Dv_feed_12 : xd m_Dv_feed 12 (.ldc 183) 2 14 := ⟨by decide +kernel, rfl⟩
theorem D_Dv_feed_14 : xd m_Dv_feed 14 (.aload_n 0) 1 15 := ⟨by decide +kernel, rfl⟩
theorem D_Dv_feed_15 : xd m_Dv_feed 15 (.getfield 46) 3 18 := ⟨by decide +kernel, rfl⟩
theorem D_Dv_feed_18 : xd m_Dv_feed 18 (.invokevirtual 171) 3 21 := ⟨by decide +kernel, rfl⟩
theorem D_Dv_feed_21 : xd m_Dv_feed 21 (.isub) 1 22 := ⟨by decide +kernel, rfl⟩
theorem D_Dv_feed_22 : xd m_Dv_feed 22 (.if_icmp .le 5) 3 25 := ⟨by decide +kernel, rfl⟩
theorem D_Dv_feed_25 : xd m_Dv_feed 25 (.iconst 0) 1 26 := ⟨by decide +kernel, rfl⟩
theorem D_Dv_feed_26 : xd m_Dv_feed 26 (.ireturn) 1 27 := ⟨by decide +kernel, rfl⟩
theorem D_Dv_feed_27 : xd m_Dv_feed 27 (.iload_n 3) 1 28 := ⟨by decide +kernel, rfl⟩
theorem D_Dv_feed_28 : xd m_Dv_feed 28 (.iconst 1) 1 29 := ⟨by decide +kernel, rfl⟩
theorem D_Dv_feed_29 : xd m_Dv_feed 29 (.isub) 1 30 := ⟨by decide +kernel, rfl⟩
theorem D_Dv_feed_30 : xd m_Dv_feed 30 (.istore 4) 2 32 := ⟨by decide +kernel, rfl⟩
theorem D_Dv_feed_32 : xd m_Dv_feed 32 (.iload 4) 2 34 := ⟨by decide +kernel, rfl⟩
theorem D_Dv_feed_34 : xd m_Dv_feed 34 (.ifCond .lt 24) 3 37 := ⟨by decide +kernel, rfl⟩
theorem D_Dv_feed_37 : xd m_Dv_feed 37 (.aload_n 0) 1 38 := ⟨by decide +kernel, rfl⟩
theorem D_Dv_feed_38 : xd m_Dv_feed 38 (.getfield 46) 3 41 := ⟨by decide +kernel, rfl⟩
theorem D_Dv_feed_41 : xd m_Dv_feed 41 (.lload_n 1) 1 42 := ⟨by decide +kernel, rfl⟩
theorem D_Dv_feed_42 : xd m_Dv_feed 42 (.bipush 8) 2 44 := ⟨by decide +kernel, rfl⟩
theorem D_Dv_feed_44 : xd m_Dv_feed 44 (.iload 4) 2 46 := ⟨by decide +kernel, rfl⟩
theorem D_Dv_feed_46 : xd m_Dv_feed 46 (.imul) 1 47 := ⟨by decide +kernel, rfl⟩
theorem D_Dv_feed_47 : xd m_Dv_feed 47 (.lushr) 1 48 := ⟨by decide +kernel, rfl⟩
theorem D_Dv_feed_48 : xd m_Dv_feed 48 (.l2i) 1 49 := ⟨by decide +kernel, rfl⟩
theorem D_Dv_feed_49 : xd m_Dv_feed 49 (.invokevirtual 184) 3 52 := ⟨by decide +kernel, rfl⟩
theorem D_Dv_feed_52 : xd m_Dv_feed 52 (.iinc 4 (-1)) 3 55 := ⟨by decide +kernel, rfl⟩
theorem D_Dv_feed_55 : xd m_Dv_feed 55 (.goto (-23)) 3 58 := ⟨by decide +kernel, rfl⟩
theorem D_Dv_feed_58 : xd m_Dv_feed 58 (.iconst 1) 1 59 := ⟨by decide +kernel, rfl⟩
theorem D_Dv_feed_59 : xd m_Dv_feed 59 (.ireturn) 1 60 := ⟨by decide +kernel, rfl⟩
theorem D_Dv_keep_0 : xd m_Dv_keep 0 (.iload_n 1) 1 1 := ⟨by decide +kernel, rfl⟩
theorem D_Dv_keep_1 : xd m_Dv_keep 1 (.ifCond .lt 14) 3 4 := ⟨by decide +kernel, rfl⟩
theorem D_Dv_keep_4 : xd m_Dv_keep 4 (.iload_n 1) 1 5 := ⟨by decide +kernel, rfl⟩
theorem D_Dv_keep_5 : xd m_Dv_keep 5 (.aload_n 0) 1 6 := ⟨by decide +kernel, rfl⟩
theorem D_Dv_keep_6 : xd m_Dv_keep 6 (.getfield 46) 3 9 := ⟨by decide +kernel, rfl⟩
theorem D_Dv_keep_9 : xd m_Dv_keep 9 (.invokevirtual 171) 3 12 := ⟨by decide +kernel, rfl⟩
theorem D_Dv_keep_12 : xd m_Dv_keep 12 (.if_icmp .le 5) 3 15 := ⟨by decide +kernel, rfl⟩
theorem D_Dv_keep_15 : xd m_Dv_keep 15 (.iconst 0) 1 16 := ⟨by decide +kernel, rfl⟩
theorem D_Dv_keep_16 : xd m_Dv_keep 16 (.ireturn) 1 17 := ⟨by decide +kernel, rfl⟩
theorem D_Dv_keep_17 : xd m_Dv_keep 17 (.aload_n 0) 1 18 := ⟨by decide +kernel, rfl⟩
theorem D_Dv_keep_18 : xd m_Dv_keep 18 (.getfield 46) 3 21 := ⟨by decide +kernel, rfl⟩
theorem D_Dv_keep_21 : xd m_Dv_keep 21 (.iload_n 1) 1 22 := ⟨by decide +kernel, rfl⟩
theorem D_Dv_keep_22 : xd m_Dv_keep 22 (.invokevirtual 187) 3 25 := ⟨by decide +kernel, rfl⟩
theorem D_Dv_keep_25 : xd m_Dv_keep 25 (.iconst 1) 1 26 := ⟨by decide +kernel, rfl⟩
theorem D_Dv_keep_26 : xd m_Dv_keep 26 (.ireturn) 1 27 := ⟨by decide +kernel, rfl⟩
theorem D_Dv_copy_0 : xd m_Dv_copy 0 (.aload_n 0) 1 1 := ⟨by decide +kernel, rfl⟩
theorem D_Dv_copy_1 : xd m_Dv_copy 1 (.getfield 46) 3 4 := ⟨by decide +kernel, rfl⟩
theorem D_Dv_copy_4 : xd m_Dv_copy 4 (.aload_n 0) 1 5 := ⟨by decide +kernel, rfl⟩
theorem D_Dv_copy_5 : xd m_Dv_copy 5 (.getfield 39) 3 8 := ⟨by decide +kernel, rfl⟩
theorem D_Dv_copy_8 : xd m_Dv_copy 8 (.invokevirtual 167) 3 11 := ⟨by decide +kernel, rfl⟩
theorem D_Dv_copy_11 : xd m_Dv_copy 11 (.invokevirtual 190) 3 14 := ⟨by decide +kernel, rfl⟩
theorem D_Dv_copy_14 : xd m_Dv_copy 14 (.aload_n 0) 1 15 := ⟨by decide +kernel, rfl⟩
theorem D_Dv_copy_15 : xd m_Dv_copy 15 (.getfield 46) 3 18 := ⟨by decide +kernel, rfl⟩
theorem D_Dv_copy_18 : xd m_Dv_copy 18 (.invokevirtual 171) 3 21 := ⟨by decide +kernel, rfl⟩
theorem D_Dv_copy_21 : xd m_Dv_copy 21 (.ireturn) 1 22 := ⟨by decide +kernel, rfl⟩
theorem D_Dv_read_0 : xd m_Dv_read 0 (.aload_n 0) 1 1 := ⟨by decide +kernel, rfl⟩
theorem D_Dv_read_1 : xd m_Dv_read 1 (.getfield 62) 3 4 := ⟨by decide +kernel, rfl⟩
theorem D_Dv_read_4 : xd m_Dv_read 4 (.invokevirtual 194) 3 7 := ⟨by decide +kernel, rfl⟩
theorem D_Dv_read_7 : xd m_Dv_read 7 (.aload_n 0) 1 8 := ⟨by decide +kernel, rfl⟩
theorem D_Dv_read_8 : xd m_Dv_read 8 (.getfield 62) 3 11 := ⟨by decide +kernel, rfl⟩
theorem D_Dv_read_11 : xd m_Dv_read 11 (.invokevirtual 196) 3 14 := ⟨by decide +kernel, rfl⟩
theorem D_Dv_read_14 : xd m_Dv_read 14 (.istore_n 1) 1 15 := ⟨by decide +kernel, rfl⟩
theorem D_Dv_read_15 : xd m_Dv_read 15 (.iload_n 1) 1 16 := ⟨by decide +kernel, rfl⟩
theorem D_Dv_read_16 : xd m_Dv_read 16 (.ifCond .ne 5) 3 19 := ⟨by decide +kernel, rfl⟩
theorem D_Dv_read_19 : xd m_Dv_read 19 (.iconst 0) 1 20 := ⟨by decide +kernel, rfl⟩
theorem D_Dv_read_20 : xd m_Dv_read 20 (.ireturn) 1 21 := ⟨by decide +kernel, rfl⟩
theorem D_Dv_read_21 : xd m_Dv_read 21 (.aload_n 0) 1 22 := ⟨by decide +kernel, rfl⟩
theorem D_Dv_read_22 : xd m_Dv_read 22 (.getfield 53) 3 25 := ⟨by decide +kernel, rfl⟩
theorem D_Dv_read_25 : xd m_Dv_read 25 (.invokevirtual 199) 3 28 := ⟨by decide +kernel, rfl⟩
theorem D_Dv_read_28 : xd m_Dv_read 28 (.ldc 200) 2 30 := ⟨by decide +kernel, rfl⟩
theorem D_Dv_read_30 : xd m_Dv_read 30 (.iload_n 1) 1 31 := ⟨by decide +kernel, rfl⟩
theorem D_Dv_read_31 : xd m_Dv_read 31 (.imul) 1 32 := ⟨by decide +kernel, rfl⟩
theorem D_Dv_read_32 : xd m_Dv_read 32 (.aload_n 0) 1 33 := ⟨by decide +kernel, rfl⟩
theorem D_Dv_read_33 : xd m_Dv_read 33 (.getfield 62) 3 36 := ⟨by decide +kernel, rfl⟩
theorem D_Dv_read_36 : xd m_Dv_read 36 (.invokevirtual 201) 3 39 := ⟨by decide +kernel, rfl⟩
theorem D_Dv_read_39 : xd m_Dv_read 39 (.iadd) 1 40 := ⟨by decide +kernel, rfl⟩
theorem D_Dv_read_40 : xd m_Dv_read 40 (.ireturn) 1 41 := ⟨by decide +kernel, rfl⟩
theorem D_Dv_about_0 : xd m_Dv_about 0 (.iload_n 1) 1 1 := ⟨by decide +kernel, rfl⟩
theorem D_Dv_about_1 : xd m_Dv_about 1 (.tableswitch 99 0 6 #[43, 51, 59, 67, 75, 83, 91]) 43 44 := ⟨by decide +kernel, rfl⟩
theorem D_Dv_about_44 : xd m_Dv_about 44 (.aload_n 0) 1 45 := ⟨by decide +kernel, rfl⟩
theorem D_Dv_about_45 : xd m_Dv_about 45 (.getfield 53) 3 48 := ⟨by decide +kernel, rfl⟩
theorem D_Dv_about_48 : xd m_Dv_about 48 (.getfield 204) 3 51 := ⟨by decide +kernel, rfl⟩
theorem D_Dv_about_51 : xd m_Dv_about 51 (.ireturn) 1 52 := ⟨by decide +kernel, rfl⟩
theorem D_Dv_about_52 : xd m_Dv_about 52 (.aload_n 0) 1 53 := ⟨by decide +kernel, rfl⟩
theorem D_Dv_about_53 : xd m_Dv_about 53 (.getfield 53) 3 56 := ⟨by decide +kernel, rfl⟩
theorem D_Dv_about_56 : xd m_Dv_about 56 (.getfield 208) 3 59 := ⟨by decide +kernel, rfl⟩
theorem D_Dv_about_59 : xd m_Dv_about 59 (.ireturn) 1 60 := ⟨by decide +kernel, rfl⟩
theorem D_Dv_about_60 : xd m_Dv_about 60 (.aload_n 0) 1 61 := ⟨by decide +kernel, rfl⟩
theorem D_Dv_about_61 : xd m_Dv_about 61 (.getfield 53) 3 64 := ⟨by decide +kernel, rfl⟩
theorem D_Dv_about_64 : xd m_Dv_about 64 (.getfield 211) 3 67 := ⟨by decide +kernel, rfl⟩
theorem D_Dv_about_67 : xd m_Dv_about 67 (.ireturn) 1 68 := ⟨by decide +kernel, rfl⟩
theorem D_Dv_about_68 : xd m_Dv_about 68 (.aload_n 0) 1 69 := ⟨by decide +kernel, rfl⟩
theorem D_Dv_about_69 : xd m_Dv_about 69 (.getfield 53) 3 72 := ⟨by decide +kernel, rfl⟩
theorem D_Dv_about_72 : xd m_Dv_about 72 (.getfield 214) 3 75 := ⟨by decide +kernel, rfl⟩
theorem D_Dv_about_75 : xd m_Dv_about 75 (.ireturn) 1 76 := ⟨by decide +kernel, rfl⟩
theorem D_Dv_about_76 : xd m_Dv_about 76 (.aload_n 0) 1 77 := ⟨by decide +kernel, rfl⟩
theorem D_Dv_about_77 : xd m_Dv_about 77 (.getfield 53) 3 80 := ⟨by decide +kernel, rfl⟩
theorem D_Dv_about_80 : xd m_Dv_about 80 (.getfield 217) 3 83 := ⟨by decide +kernel, rfl⟩
theorem D_Dv_about_83 : xd m_Dv_about 83 (.ireturn) 1 84 := ⟨by decide +kernel, rfl⟩
theorem D_Dv_about_84 : xd m_Dv_about 84 (.aload_n 0) 1 85 := ⟨by decide +kernel, rfl⟩
theorem D_Dv_about_85 : xd m_Dv_about 85 (.getfield 53) 3 88 := ⟨by decide +kernel, rfl⟩
theorem D_Dv_about_88 : xd m_Dv_about 88 (.getfield 220) 3 91 := ⟨by decide +kernel, rfl⟩
theorem D_Dv_about_91 : xd m_Dv_about 91 (.ireturn) 1 92 := ⟨by decide +kernel, rfl⟩
theorem D_Dv_about_92 : xd m_Dv_about 92 (.aload_n 0) 1 93 := ⟨by decide +kernel, rfl⟩
theorem D_Dv_about_93 : xd m_Dv_about 93 (.getfield 53) 3 96 := ⟨by decide +kernel, rfl⟩
theorem D_Dv_about_96 : xd m_Dv_about 96 (.getfield 223) 3 99 := ⟨by decide +kernel, rfl⟩
theorem D_Dv_about_99 : xd m_Dv_about 99 (.ireturn) 1 100 := ⟨by decide +kernel, rfl⟩
theorem D_Dv_about_100 : xd m_Dv_about 100 (.new 174) 3 103 := ⟨by decide +kernel, rfl⟩
theorem D_Dv_about_103 : xd m_Dv_about 103 (.dup) 1 104 := ⟨by decide +kernel, rfl⟩
theorem D_Dv_about_104 : xd m_Dv_about 104 (.ldc 226) 2 106 := ⟨by decide +kernel, rfl⟩
theorem D_Dv_about_106 : xd m_Dv_about 106 (.invokespecial 178) 3 109 := ⟨by decide +kernel, rfl⟩
theorem D_Dv_about_109 : xd m_Dv_about 109 (.athrow) 1 110 := ⟨by decide +kernel, rfl⟩
theorem D_Dv_mark_0 : xd m_Dv_mark 0 (.iload_n 1) 1 1 := ⟨by decide +kernel, rfl⟩
theorem D_Dv_mark_1 : xd m_Dv_mark 1 (.ifCond .lt 24) 3 4 := ⟨by decide +kernel, rfl⟩
theorem D_Dv_mark_4 : xd m_Dv_mark 4 (.iload_n 1) 1 5 := ⟨by decide +kernel, rfl⟩
theorem D_Dv_mark_5 : xd m_Dv_mark 5 (.aload_n 0) 1 6 := ⟨by decide +kernel, rfl⟩
theorem D_Dv_mark_6 : xd m_Dv_mark 6 (.getfield 53) 3 9 := ⟨by decide +kernel, rfl⟩
theorem D_Dv_mark_9 : xd m_Dv_mark 9 (.getfield 204) 3 12 := ⟨by decide +kernel, rfl⟩
theorem D_Dv_mark_12 : xd m_Dv_mark 12 (.if_icmp .ge 13) 3 15 := ⟨by decide +kernel, rfl⟩
theorem D_Dv_mark_15 : xd m_Dv_mark 15 (.iload_n 2) 1 16 := ⟨by decide +kernel, rfl⟩
theorem D_Dv_mark_16 : xd m_Dv_mark 16 (.ifCond .lt 9) 3 19 := ⟨by decide +kernel, rfl⟩
theorem D_Dv_mark_19 : xd m_Dv_mark 19 (.iload_n 2) 1 20 := ⟨by decide +kernel, rfl⟩
theorem D_Dv_mark_20 : xd m_Dv_mark 20 (.bipush 6) 2 22 := ⟨by decide +kernel, rfl⟩
theorem D_Dv_mark_22 : xd m_Dv_mark 22 (.if_icmp .lt 13) 3 25 := ⟨by decide +kernel, rfl⟩
theorem D_Dv_mark_25 : xd m_Dv_mark 25 (.new 174) 3 28 := ⟨by decide +kernel, rfl⟩
theorem D_Dv_mark_28 : xd m_Dv_mark 28 (.dup) 1 29 := ⟨by decide +kernel, rfl⟩
theorem D_Dv_mark_29 : xd m_Dv_mark 29 (.ldc 228) 2 31 := ⟨by decide +kernel, rfl⟩
theorem D_Dv_mark_31 : xd m_Dv_mark 31 (.invokespecial 178) 3 34 := ⟨by decide +kernel, rfl⟩
theorem D_Dv_mark_34 : xd m_Dv_mark 34 (.athrow) 1 35 := ⟨by decide +kernel, rfl⟩
theorem D_Dv_mark_35 : xd m_Dv_mark 35 (.aload_n 0) 1 36 := ⟨by decide +kernel, rfl⟩
theorem D_Dv_mark_36 : xd m_Dv_mark 36 (.getfield 53) 3 39 := ⟨by decide +kernel, rfl⟩
theorem D_Dv_mark_39 : xd m_Dv_mark 39 (.iload_n 1) 1 40 := ⟨by decide +kernel, rfl⟩
theorem D_Dv_mark_40 : xd m_Dv_mark 40 (.iload_n 2) 1 41 := ⟨by decide +kernel, rfl⟩
theorem D_Dv_mark_41 : xd m_Dv_mark 41 (.invokevirtual 230) 3 44 := ⟨by decide +kernel, rfl⟩
theorem D_Dv_mark_44 : xd m_Dv_mark 44 (.ireturn) 1 45 := ⟨by decide +kernel, rfl⟩
theorem D_Dv_page_0 : xd m_Dv_page 0 (.iload_n 1) 1 1 := ⟨by decide +kernel, rfl⟩
theorem D_Dv_page_1 : xd m_Dv_page 1 (.ifCond .lt 24) 3 4 := ⟨by decide +kernel, rfl⟩
theorem D_Dv_page_4 : xd m_Dv_page 4 (.iload_n 1) 1 5 := ⟨by decide +kernel, rfl⟩
theorem D_Dv_page_5 : xd m_Dv_page 5 (.aload_n 0) 1 6 := ⟨by decide +kernel, rfl⟩
theorem D_Dv_page_6 : xd m_Dv_page 6 (.getfield 53) 3 9 := ⟨by decide +kernel, rfl⟩
theorem D_Dv_page_9 : xd m_Dv_page 9 (.getfield 208) 3 12 := ⟨by decide +kernel, rfl⟩
theorem D_Dv_page_12 : xd m_Dv_page 12 (.if_icmp .ge 13) 3 15 := ⟨by decide +kernel, rfl⟩
theorem D_Dv_page_15 : xd m_Dv_page 15 (.iload_n 2) 1 16 := ⟨by decide +kernel, rfl⟩
theorem D_Dv_page_16 : xd m_Dv_page 16 (.ifCond .lt 9) 3 19 := ⟨by decide +kernel, rfl⟩
theorem D_Dv_page_19 : xd m_Dv_page 19 (.iload_n 2) 1 20 := ⟨by decide +kernel, rfl⟩
theorem D_Dv_page_20 : xd m_Dv_page 20 (.bipush 10) 2 22 := ⟨by decide +kernel, rfl⟩
theorem D_Dv_page_22 : xd m_Dv_page 22 (.if_icmp .lt 13) 3 25 := ⟨by decide +kernel, rfl⟩
theorem D_Dv_page_25 : xd m_Dv_page 25 (.new 174) 3 28 := ⟨by decide +kernel, rfl⟩
theorem D_Dv_page_28 : xd m_Dv_page 28 (.dup) 1 29 := ⟨by decide +kernel, rfl⟩
theorem D_Dv_page_29 : xd m_Dv_page 29 (.ldc 234) 2 31 := ⟨by decide +kernel, rfl⟩
theorem D_Dv_page_31 : xd m_Dv_page 31 (.invokespecial 178) 3 34 := ⟨by decide +kernel, rfl⟩
theorem D_Dv_page_34 : xd m_Dv_page 34 (.athrow) 1 35 := ⟨by decide +kernel, rfl⟩
theorem D_Dv_page_35 : xd m_Dv_page 35 (.aload_n 0) 1 36 := ⟨by decide +kernel, rfl⟩
theorem D_Dv_page_36 : xd m_Dv_page 36 (.getfield 53) 3 39 := ⟨by decide +kernel, rfl⟩
theorem D_Dv_page_39 : xd m_Dv_page 39 (.iload_n 1) 1 40 := ⟨by decide +kernel, rfl⟩
theorem D_Dv_page_40 : xd m_Dv_page 40 (.iload_n 2) 1 41 := ⟨by decide +kernel, rfl⟩
theorem D_Dv_page_41 : xd m_Dv_page 41 (.invokevirtual 236) 3 44 := ⟨by decide +kernel, rfl⟩
theorem D_Dv_page_44 : xd m_Dv_page 44 (.ireturn) 1 45 := ⟨by decide +kernel, rfl⟩
theorem D_Dv_told_0 : xd m_Dv_told 0 (.iload_n 1) 1 1 := ⟨by decide +kernel, rfl⟩
theorem D_Dv_told_1 : xd m_Dv_told 1 (.ifCond .lt 18) 3 4 := ⟨by decide +kernel, rfl⟩
theorem D_Dv_told_4 : xd m_Dv_told 4 (.iload_n 1) 1 5 := ⟨by decide +kernel, rfl⟩
theorem D_Dv_told_5 : xd m_Dv_told 5 (.aload_n 0) 1 6 := ⟨by decide +kernel, rfl⟩
theorem D_Dv_told_6 : xd m_Dv_told 6 (.getfield 53) 3 9 := ⟨by decide +kernel, rfl⟩
theorem D_Dv_told_9 : xd m_Dv_told 9 (.getfield 211) 3 12 := ⟨by decide +kernel, rfl⟩
theorem D_Dv_told_12 : xd m_Dv_told 12 (.if_icmp .ge 7) 3 15 := ⟨by decide +kernel, rfl⟩
theorem D_Dv_told_15 : xd m_Dv_told 15 (.iload_n 2) 1 16 := ⟨by decide +kernel, rfl⟩
theorem D_Dv_told_16 : xd m_Dv_told 16 (.ifCond .ge 13) 3 19 := ⟨by decide +kernel, rfl⟩
theorem D_Dv_told_19 : xd m_Dv_told 19 (.new 174) 3 22 := ⟨by decide +kernel, rfl⟩
theorem D_Dv_told_22 : xd m_Dv_told 22 (.dup) 1 23 := ⟨by decide +kernel, rfl⟩
theorem D_Dv_told_23 : xd m_Dv_told 23 (.ldc 239) 2 25 := ⟨by decide +kernel, rfl⟩
theorem D_Dv_told_25 : xd m_Dv_told 25 (.invokespecial 178) 3 28 := ⟨by decide +kernel, rfl⟩
theorem D_Dv_told_28 : xd m_Dv_told 28 (.athrow) 1 29 := ⟨by decide +kernel, rfl⟩
theorem D_Dv_told_29 : xd m_Dv_told 29 (.aload_n 0) 1 30 := ⟨by decide +kernel, rfl⟩
theorem D_Dv_told_30 : xd m_Dv_told 30 (.getfield 53) 3 33 := ⟨by decide +kernel, rfl⟩
theorem D_Dv_told_33 : xd m_Dv_told 33 (.iload_n 1) 1 34 := ⟨by decide +kernel, rfl⟩
theorem D_Dv_told_34 : xd m_Dv_told 34 (.iload_n 2) 1 35 := ⟨by decide +kernel, rfl⟩
theorem D_Dv_told_35 : xd m_Dv_told 35 (.invokevirtual 241) 3 38 := ⟨by decide +kernel, rfl⟩
theorem D_Dv_told_38 : xd m_Dv_told 38 (.ireturn) 1 39 := ⟨by decide +kernel, rfl⟩
theorem D_Dv_isByte_0 : xd m_Dv_isByte 0 (.iload_n 0) 1 1 := ⟨by decide +kernel, rfl⟩
theorem D_Dv_isByte_1 : xd m_Dv_isByte 1 (.ifCond .lt 14) 3 4 := ⟨by decide +kernel, rfl⟩
theorem D_Dv_isByte_4 : xd m_Dv_isByte 4 (.iload_n 0) 1 5 := ⟨by decide +kernel, rfl⟩
theorem D_Dv_isByte_5 : xd m_Dv_isByte 5 (.sipush 255) 3 8 := ⟨by decide +kernel, rfl⟩
theorem D_Dv_isByte_8 : xd m_Dv_isByte 8 (.if_icmp .gt 7) 3 11 := ⟨by decide +kernel, rfl⟩
theorem D_Dv_isByte_11 : xd m_Dv_isByte 11 (.iconst 1) 1 12 := ⟨by decide +kernel, rfl⟩
theorem D_Dv_isByte_12 : xd m_Dv_isByte 12 (.goto 4) 3 15 := ⟨by decide +kernel, rfl⟩
theorem D_Dv_isByte_15 : xd m_Dv_isByte 15 (.iconst 0) 1 16 := ⟨by decide +kernel, rfl⟩
theorem D_Dv_isByte_16 : xd m_Dv_isByte 16 (.ireturn) 1 17 := ⟨by decide +kernel, rfl⟩
theorem D_Dv_isNear_0 : xd m_Dv_isNear 0 (.iload_n 0) 1 1 := ⟨by decide +kernel, rfl⟩
theorem D_Dv_isNear_1 : xd m_Dv_isNear 1 (.ldc 244) 2 3 := ⟨by decide +kernel, rfl⟩
theorem D_Dv_isNear_3 : xd m_Dv_isNear 3 (.if_icmp .lt 13) 3 6 := ⟨by decide +kernel, rfl⟩
theorem D_Dv_isNear_6 : xd m_Dv_isNear 6 (.iload_n 0) 1 7 := ⟨by decide +kernel, rfl⟩
theorem D_Dv_isNear_7 : xd m_Dv_isNear 7 (.ldc 245) 2 9 := ⟨by decide +kernel, rfl⟩
theorem D_Dv_isNear_9 : xd m_Dv_isNear 9 (.if_icmp .gt 7) 3 12 := ⟨by decide +kernel, rfl⟩
theorem D_Dv_isNear_12 : xd m_Dv_isNear 12 (.iconst 1) 1 13 := ⟨by decide +kernel, rfl⟩
theorem D_Dv_isNear_13 : xd m_Dv_isNear 13 (.goto 4) 3 16 := ⟨by decide +kernel, rfl⟩
theorem D_Dv_isNear_16 : xd m_Dv_isNear 16 (.iconst 0) 1 17 := ⟨by decide +kernel, rfl⟩
theorem D_Dv_isNear_17 : xd m_Dv_isNear 17 (.ireturn) 1 18 := ⟨by decide +kernel, rfl⟩
theorem D_Dv_isExtent_0 : xd m_Dv_isExtent 0 (.iload_n 0) 1 1 := ⟨by decide +kernel, rfl⟩
theorem D_Dv_isExtent_1 : xd m_Dv_isExtent 1 (.iconst 1) 1 2 := ⟨by decide +kernel, rfl⟩
theorem D_Dv_isExtent_2 : xd m_Dv_isExtent 2 (.if_icmp .lt 13) 3 5 := ⟨by decide +kernel, rfl⟩
theorem D_Dv_isExtent_5 : xd m_Dv_isExtent 5 (.iload_n 0) 1 6 := ⟨by decide +kernel, rfl⟩
theorem D_Dv_isExtent_6 : xd m_Dv_isExtent 6 (.ldc 245) 2 8 := ⟨by decide +kernel, rfl⟩
theorem D_Dv_isExtent_8 : xd m_Dv_isExtent 8 (.if_icmp .gt 7) 3 11 := ⟨by decide +kernel, rfl⟩
theorem D_Dv_isExtent_11 : xd m_Dv_isExtent 11 (.iconst 1) 1 12 := ⟨by decide +kernel, rfl⟩
theorem D_Dv_isExtent_12 : xd m_Dv_isExtent 12 (.goto 4) 3 15 := ⟨by decide +kernel, rfl⟩
theorem D_Dv_isExtent_15 : xd m_Dv_isExtent 15 (.iconst 0) 1 16 := ⟨by decide +kernel, rfl⟩
theorem D_Dv_isExtent_16 : xd m_Dv_isExtent 16 (.ireturn) 1 17 := ⟨by decide +kernel, rfl⟩
theorem D_Dv_isInt_0 : xd m_Dv_isInt 0 (.lload_n 0) 1 1 := ⟨by decide +kernel, rfl⟩
theorem D_Dv_isInt_1 : xd m_Dv_isInt 1 (.lload_n 0) 1 2 := ⟨by decide +kernel, rfl⟩
theorem D_Dv_isInt_2 : xd m_Dv_isInt 2 (.l2i) 1 3 := ⟨by decide +kernel, rfl⟩
theorem D_Dv_isInt_3 : xd m_Dv_isInt 3 (.i2l) 1 4 := ⟨by decide +kernel, rfl⟩
theorem D_Dv_isInt_4 : xd m_Dv_isInt 4 (.lcmp) 1 5 := ⟨by decide +kernel, rfl⟩
theorem D_Dv_isInt_5 : xd m_Dv_isInt 5 (.ifCond .ne 7) 3 8 := ⟨by decide +kernel, rfl⟩
theorem D_Dv_isInt_8 : xd m_Dv_isInt 8 (.iconst 1) 1 9 := ⟨by decide +kernel, rfl⟩
theorem D_Dv_isInt_9 : xd m_Dv_isInt 9 (.goto 4) 3 12 := ⟨by decide +kernel, rfl⟩
theorem D_Dv_isInt_12 : xd m_Dv_isInt 12 (.iconst 0) 1 13 := ⟨by decide +kernel, rfl⟩
theorem D_Dv_isInt_13 : xd m_Dv_isInt 13 (.ireturn) 1 14 := ⟨by decide +kernel, rfl⟩
theorem D_Dv_isName_0 : xd m_Dv_isName 0 (.iload 4) 2 2 := ⟨by decide +kernel, rfl⟩
theorem D_Dv_isName_2 : xd m_Dv_isName 2 (.iconst 1) 1 3 := ⟨by decide +kernel, rfl⟩
theorem D_Dv_isName_3 : xd m_Dv_isName 3 (.if_icmp .lt 10) 3 6 := ⟨by decide +kernel, rfl⟩
theorem D_Dv_isName_6 : xd m_Dv_isName 6 (.iload 4) 2 8 := ⟨by decide +kernel, rfl⟩
theorem D_Dv_isName_8 : xd m_Dv_isName 8 (.bipush 16) 2 10 := ⟨by decide +kernel, rfl⟩
theorem D_Dv_isName_10 : xd m_Dv_isName 10 (.if_icmp .le 5) 3 13 := ⟨by decide +kernel, rfl⟩
theorem D_Dv_isName_13 : xd m_Dv_isName 13 (.iconst 0) 1 14 := ⟨by decide +kernel, rfl⟩
theorem D_Dv_isName_14 : xd m_Dv_isName 14 (.ireturn) 1 15 := ⟨by decide +kernel, rfl⟩
theorem D_Dv_isName_15 : xd m_Dv_isName 15 (.iconst 0) 1 16 := ⟨by decide +kernel, rfl⟩
theorem D_Dv_isName_16 : xd m_Dv_isName 16 (.istore 5) 2 18 := ⟨by decide +kernel, rfl⟩
theorem D_Dv_isName_18 : xd m_Dv_isName 18 (.iload 5) 2 20 := ⟨by decide +kernel, rfl⟩
theorem D_Dv_isName_20 : xd m_Dv_isName 20 (.iload 4) 2 22 := ⟨by decide +kernel, rfl⟩
theorem D_Dv_isName_22 : xd m_Dv_isName 22 (.if_icmp .ge 34) 3 25 := ⟨by decide +kernel, rfl⟩
theorem D_Dv_isName_25 : xd m_Dv_isName 25 (.lload_n 0) 1 26 := ⟨by decide +kernel, rfl⟩
theorem D_Dv_isName_26 : xd m_Dv_isName 26 (.lload_n 2) 1 27 := ⟨by decide +kernel, rfl⟩
theorem D_Dv_isName_27 : xd m_Dv_isName 27 (.iload 5) 2 29 := ⟨by decide +kernel, rfl⟩
theorem D_Dv_isName_29 : xd m_Dv_isName 29 (.invokestatic 246) 3 32 := ⟨by decide +kernel, rfl⟩
theorem D_Dv_isName_32 : xd m_Dv_isName 32 (.istore 6) 2 34 := ⟨by decide +kernel, rfl⟩
theorem D_Dv_isName_34 : xd m_Dv_isName 34 (.iload 6) 2 36 := ⟨by decide +kernel, rfl⟩
theorem D_Dv_isName_36 : xd m_Dv_isName 36 (.bipush 33) 2 38 := ⟨by decide +kernel, rfl⟩
theorem D_Dv_isName_38 : xd m_Dv_isName 38 (.if_icmp .lt 10) 3 41 := ⟨by decide +kernel, rfl⟩
theorem D_Dv_isName_41 : xd m_Dv_isName 41 (.iload 6) 2 43 := ⟨by decide +kernel, rfl⟩
theorem D_Dv_isName_43 : xd m_Dv_isName 43 (.bipush 126) 2 45 := ⟨by decide +kernel, rfl⟩
theorem D_Dv_isName_45 : xd m_Dv_isName 45 (.if_icmp .le 5) 3 48 := ⟨by decide +kernel, rfl⟩
theorem D_Dv_isName_48 : xd m_Dv_isName 48 (.iconst 0) 1 49 := ⟨by decide +kernel, rfl⟩
theorem D_Dv_isName_49 : xd m_Dv_isName 49 (.ireturn) 1 50 := ⟨by decide +kernel, rfl⟩
theorem D_Dv_isName_50 : xd m_Dv_isName 50 (.iinc 5 1) 3 53 := ⟨by decide +kernel, rfl⟩
theorem D_Dv_isName_53 : xd m_Dv_isName 53 (.goto (-35)) 3 56 := ⟨by decide +kernel, rfl⟩
theorem D_Dv_isName_56 : xd m_Dv_isName 56 (.iconst 1) 1 57 := ⟨by decide +kernel, rfl⟩
theorem D_Dv_isName_57 : xd m_Dv_isName 57 (.ireturn) 1 58 := ⟨by decide +kernel, rfl⟩
theorem D_Dv_letterOf_0 : xd m_Dv_letterOf 0 (.iload 4) 2 2 := ⟨by decide +kernel, rfl⟩
theorem D_Dv_letterOf_2 : xd m_Dv_letterOf 2 (.bipush 8) 2 4 := ⟨by decide +kernel, rfl⟩
theorem D_Dv_letterOf_4 : xd m_Dv_letterOf 4 (.if_icmp .ge 7) 3 7 := ⟨by decide +kernel, rfl⟩
theorem D_Dv_letterOf_7 : xd m_Dv_letterOf 7 (.lload_n 0) 1 8 := ⟨by decide +kernel, rfl⟩
theorem D_Dv_letterOf_8 : xd m_Dv_letterOf 8 (.goto 4) 3 11 := ⟨by decide +kernel, rfl⟩
theorem D_Dv_letterOf_11 : xd m_Dv_letterOf 11 (.lload_n 2) 1 12 := ⟨by decide +kernel, rfl⟩
theorem D_Dv_letterOf_12 : xd m_Dv_letterOf 12 (.lstore 5) 2 14 := ⟨by decide +kernel, rfl⟩
theorem D_Dv_letterOf_14 : xd m_Dv_letterOf 14 (.lload 5) 2 16 := ⟨by decide +kernel, rfl⟩
theorem D_Dv_letterOf_16 : xd m_Dv_letterOf 16 (.bipush 8) 2 18 := ⟨by decide +kernel, rfl⟩
theorem D_Dv_letterOf_18 : xd m_Dv_letterOf 18 (.iload 4) 2 20 := ⟨by decide +kernel, rfl⟩
theorem D_Dv_letterOf_20 : xd m_Dv_letterOf 20 (.bipush 7) 2 22 := ⟨by decide +kernel, rfl⟩
theorem D_Dv_letterOf_22 : xd m_Dv_letterOf 22 (.iand) 1 23 := ⟨by decide +kernel, rfl⟩
theorem D_Dv_letterOf_23 : xd m_Dv_letterOf 23 (.imul) 1 24 := ⟨by decide +kernel, rfl⟩
theorem D_Dv_letterOf_24 : xd m_Dv_letterOf 24 (.lushr) 1 25 := ⟨by decide +kernel, rfl⟩
theorem D_Dv_letterOf_25 : xd m_Dv_letterOf 25 (.l2i) 1 26 := ⟨by decide +kernel, rfl⟩
theorem D_Dv_letterOf_26 : xd m_Dv_letterOf 26 (.sipush 255) 3 29 := ⟨by decide +kernel, rfl⟩
theorem D_Dv_letterOf_29 : xd m_Dv_letterOf 29 (.iand) 1 30 := ⟨by decide +kernel, rfl⟩
theorem D_Dv_letterOf_30 : xd m_Dv_letterOf 30 (.ireturn) 1 31 := ⟨by decide +kernel, rfl⟩
theorem D_By_init_0 : xd m_By_init 0 (.aload_n 0) 1 1 := ⟨by decide +kernel, rfl⟩
theorem D_By_init_1 : xd m_By_init 1 (.invokespecial 3) 3 4 := ⟨by decide +kernel, rfl⟩
theorem D_By_init_4 : xd m_By_init 4 (.aload_n 0) 1 5 := ⟨by decide +kernel, rfl⟩
theorem D_By_init_5 : xd m_By_init 5 (.ldc 9) 2 7 := ⟨by decide +kernel, rfl⟩
theorem D_By_init_7 : xd m_By_init 7 (.newarray .byte) 2 9 := ⟨by decide +kernel, rfl⟩
theorem D_By_init_9 : xd m_By_init 9 (.putfield 10) 3 12 := ⟨by decide +kernel, rfl⟩
theorem D_By_init_12 : xd m_By_init 12 (.return_) 1 13 := ⟨by decide +kernel, rfl⟩
theorem D_By_length_0 : xd m_By_length 0 (.aload_n 0) 1 1 := ⟨by decide +kernel, rfl⟩
theorem D_By_length_1 : xd m_By_length 1 (.getfield 16) 3 4 := ⟨by decide +kernel, rfl⟩
theorem D_By_length_4 : xd m_By_length 4 (.ireturn) 1 5 := ⟨by decide +kernel, rfl⟩
theorem D_By_at_0 : xd m_By_at 0 (.iload_n 1) 1 1 := ⟨by decide +kernel, rfl⟩
theorem D_By_at_1 : xd m_By_at 1 (.ifCond .lt 33) 3 4 := ⟨by decide +kernel, rfl⟩
theorem D_By_at_4 : xd m_By_at 4 (.iload_n 1) 1 5 := ⟨by decide +kernel, rfl⟩
theorem D_By_at_5 : xd m_By_at 5 (.aload_n 0) 1 6 := ⟨by decide +kernel, rfl⟩
theorem D_By_at_6 : xd m_By_at 6 (.getfield 16) 3 9 := ⟨by decide +kernel, rfl⟩
theorem D_By_at_9 : xd m_By_at 9 (.if_icmp .ge 25) 3 12 := ⟨by decide +kernel, rfl⟩
theorem D_By_at_12 : xd m_By_at 12 (.iload_n 1) 1 13 := ⟨by decide +kernel, rfl⟩
theorem D_By_at_13 : xd m_By_at 13 (.aload_n 0) 1 14 := ⟨by decide +kernel, rfl⟩
theorem D_By_at_14 : xd m_By_at 14 (.getfield 10) 3 17 := ⟨by decide +kernel, rfl⟩
theorem D_By_at_17 : xd m_By_at 17 (.arraylength) 1 18 := ⟨by decide +kernel, rfl⟩
theorem D_By_at_18 : xd m_By_at 18 (.if_icmp .ge 16) 3 21 := ⟨by decide +kernel, rfl⟩
theorem D_By_at_21 : xd m_By_at 21 (.aload_n 0) 1 22 := ⟨by decide +kernel, rfl⟩
theorem D_By_at_22 : xd m_By_at 22 (.getfield 10) 3 25 := ⟨by decide +kernel, rfl⟩
theorem D_By_at_25 : xd m_By_at 25 (.iload_n 1) 1 26 := ⟨by decide +kernel, rfl⟩
theorem D_By_at_26 : xd m_By_at 26 (.baload) 1 27 := ⟨by decide +kernel, rfl⟩
theorem D_By_at_27 : xd m_By_at 27 (.sipush 255) 3 30 := ⟨by decide +kernel, rfl⟩
theorem D_By_at_30 : xd m_By_at 30 (.iand) 1 31 := ⟨by decide +kernel, rfl⟩
theorem D_By_at_31 : xd m_By_at 31 (.goto 4) 3 34 := ⟨by decide +kernel, rfl⟩
theorem D_By_at_34 : xd m_By_at 34 (.iconst 0) 1 35 := ⟨by decide +kernel, rfl⟩
theorem D_By_at_35 : xd m_By_at 35 (.ireturn) 1 36 := ⟨by decide +kernel, rfl⟩
theorem D_By_add_0 : xd m_By_add 0 (.aload_n 0) 1 1 := ⟨by decide +kernel, rfl⟩
theorem D_By_add_1 : xd m_By_add 1 (.getfield 16) 3 4 := ⟨by decide +kernel, rfl⟩
theorem D_By_add_4 : xd m_By_add 4 (.ifCond .lt 36) 3 7 := ⟨by decide +kernel, rfl⟩
theorem D_By_add_7 : xd m_By_add 7 (.aload_n 0) 1 8 := ⟨by decide +kernel, rfl⟩
theorem D_By_add_8 : xd m_By_add 8 (.getfield 16) 3 11 := ⟨by decide +kernel, rfl⟩
theorem D_By_add_11 : xd m_By_add 11 (.aload_n 0) 1 12 := ⟨by decide +kernel, rfl⟩
theorem D_By_add_12 : xd m_By_add 12 (.getfield 10) 3 15 := ⟨by decide +kernel, rfl⟩
theorem D_By_add_15 : xd m_By_add 15 (.arraylength) 1 16 := ⟨by decide +kernel, rfl⟩
theorem D_By_add_16 : xd m_By_add 16 (.if_icmp .ge 24) 3 19 := ⟨by decide +kernel, rfl⟩
theorem D_By_add_19 : xd m_By_add 19 (.aload_n 0) 1 20 := ⟨by decide +kernel, rfl⟩
theorem D_By_add_20 : xd m_By_add 20 (.getfield 10) 3 23 := ⟨by decide +kernel, rfl⟩
theorem D_By_add_23 : xd m_By_add 23 (.aload_n 0) 1 24 := ⟨by decide +kernel, rfl⟩
theorem D_By_add_24 : xd m_By_add 24 (.getfield 16) 3 27 := ⟨by decide +kernel, rfl⟩
theorem D_By_add_27 : xd m_By_add 27 (.iload_n 1) 1 28 := ⟨by decide +kernel, rfl⟩
theorem D_By_add_28 : xd m_By_add 28 (.i2b) 1 29 := ⟨by decide +kernel, rfl⟩
theorem D_By_add_29 : xd m_By_add 29 (.bastore) 1 30 := ⟨by decide +kernel, rfl⟩
theorem D_By_add_30 : xd m_By_add 30 (.aload_n 0) 1 31 := ⟨by decide +kernel, rfl⟩
theorem D_By_add_31 : xd m_By_add 31 (.dup) 1 32 := ⟨by decide +kernel, rfl⟩
theorem D_By_add_32 : xd m_By_add 32 (.getfield 16) 3 35 := ⟨by decide +kernel, rfl⟩
theorem D_By_add_35 : xd m_By_add 35 (.iconst 1) 1 36 := ⟨by decide +kernel, rfl⟩
theorem D_By_add_36 : xd m_By_add 36 (.iadd) 1 37 := ⟨by decide +kernel, rfl⟩
theorem D_By_add_37 : xd m_By_add 37 (.putfield 16) 3 40 := ⟨by decide +kernel, rfl⟩
theorem D_By_add_40 : xd m_By_add 40 (.return_) 1 41 := ⟨by decide +kernel, rfl⟩
theorem D_By_addNumber_0 : xd m_By_addNumber 0 (.iload_n 2) 1 1 := ⟨by decide +kernel, rfl⟩
theorem D_By_addNumber_1 : xd m_By_addNumber 1 (.iconst 1) 1 2 := ⟨by decide +kernel, rfl⟩
theorem D_By_addNumber_2 : xd m_By_addNumber 2 (.isub) 1 3 := ⟨by decide +kernel, rfl⟩
theorem D_By_addNumber_3 : xd m_By_addNumber 3 (.istore_n 3) 1 4 := ⟨by decide +kernel, rfl⟩
theorem D_By_addNumber_4 : xd m_By_addNumber 4 (.iload_n 3) 1 5 := ⟨by decide +kernel, rfl⟩
theorem D_By_addNumber_5 : xd m_By_addNumber 5 (.ifCond .lt 19) 3 8 := ⟨by decide +kernel, rfl⟩
theorem D_By_addNumber_8 : xd m_By_addNumber 8 (.aload_n 0) 1 9 := ⟨by decide +kernel, rfl⟩
theorem D_By_addNumber_9 : xd m_By_addNumber 9 (.iload_n 1) 1 10 := ⟨by decide +kernel, rfl⟩
theorem D_By_addNumber_10 : xd m_By_addNumber 10 (.bipush 8) 2 12 := ⟨by decide +kernel, rfl⟩
theorem D_By_addNumber_12 : xd m_By_addNumber 12 (.iload_n 3) 1 13 := ⟨by decide +kernel, rfl⟩
theorem D_By_addNumber_13 : xd m_By_addNumber 13 (.imul) 1 14 := ⟨by decide +kernel, rfl⟩
theorem D_By_addNumber_14 : xd m_By_addNumber 14 (.ishr) 1 15 := ⟨by decide +kernel, rfl⟩
theorem D_By_addNumber_15 : xd m_By_addNumber 15 (.invokevirtual 20) 3 18 := ⟨by decide +kernel, rfl⟩
theorem D_By_addNumber_18 : xd m_By_addNumber 18 (.iinc 3 (-1)) 3 21 := ⟨by decide +kernel, rfl⟩
theorem D_By_addNumber_21 : xd m_By_addNumber 21 (.goto (-17)) 3 24 := ⟨by decide +kernel, rfl⟩
theorem D_By_addNumber_24 : xd m_By_addNumber 24 (.return_) 1 25 := ⟨by decide +kernel, rfl⟩
theorem D_By_addShortest_0 : xd m_By_addShortest 0 (.iload_n 2) 1 1 := ⟨by decide +kernel, rfl⟩
theorem D_By_addShortest_1 : xd m_By_addShortest 1 (.invokestatic 24) 3 4 := ⟨by decide +kernel, rfl⟩
theorem D_By_addShortest_4 : xd m_By_addShortest 4 (.istore_n 3) 1 5 := ⟨by decide +kernel, rfl⟩
theorem D_By_addShortest_5 : xd m_By_addShortest 5 (.aload_n 0) 1 6 := ⟨by decide +kernel, rfl⟩
theorem D_By_addShortest_6 : xd m_By_addShortest 6 (.iload_n 1) 1 7 := ⟨by decide +kernel, rfl⟩
theorem D_By_addShortest_7 : xd m_By_addShortest 7 (.iload_n 3) 1 8 := ⟨by decide +kernel, rfl⟩
theorem D_By_addShortest_8 : xd m_By_addShortest 8 (.iadd) 1 9 := ⟨by decide +kernel, rfl⟩
theorem D_By_addShortest_9 : xd m_By_addShortest 9 (.iconst 1) 1 10 := ⟨by decide +kernel, rfl⟩
theorem D_By_addShortest_10 : xd m_By_addShortest 10 (.isub) 1 11 := ⟨by decide +kernel, rfl⟩
theorem D_By_addShortest_11 : xd m_By_addShortest 11 (.invokevirtual 20) 3 14 := ⟨by decide +kernel, rfl⟩
theorem D_By_addShortest_14 : xd m_By_addShortest 14 (.aload_n 0) 1 15 := ⟨by decide +kernel, rfl⟩
theorem D_By_addShortest_15 : xd m_By_addShortest 15 (.iload_n 2) 1 16 := ⟨by decide +kernel, rfl⟩
theorem D_By_addShortest_16 : xd m_By_addShortest 16 (.iload_n 3) 1 17 := ⟨by decide +kernel, rfl⟩
theorem D_By_addShortest_17 : xd m_By_addShortest 17 (.invokevirtual 28) 3 20 := ⟨by decide +kernel, rfl⟩
theorem D_By_addShortest_20 : xd m_By_addShortest 20 (.return_) 1 21 := ⟨by decide +kernel, rfl⟩
theorem D_By_bytesFor_0 : xd m_By_bytesFor 0 (.iload_n 0) 1 1 := ⟨by decide +kernel, rfl⟩
theorem D_By_bytesFor_1 : xd m_By_bytesFor 1 (.bipush (-128)) 2 3 := ⟨by decide +kernel, rfl⟩
theorem D_By_bytesFor_3 : xd m_By_bytesFor 3 (.if_icmp .lt 12) 3 6 := ⟨by decide +kernel, rfl⟩
theorem D_By_bytesFor_6 : xd m_By_bytesFor 6 (.iload_n 0) 1 7 := ⟨by decide +kernel, rfl⟩
theorem D_By_bytesFor_7 : xd m_By_bytesFor 7 (.sipush 128) 3 10 := ⟨by decide +kernel, rfl⟩
theorem D_By_bytesFor_10 : xd m_By_bytesFor 10 (.if_icmp .ge 5) 3 13 := ⟨by decide +kernel, rfl⟩
theorem D_By_bytesFor_13 : xd m_By_bytesFor 13 (.iconst 1) 1 14 := ⟨by decide +kernel, rfl⟩
theorem D_By_bytesFor_14 : xd m_By_bytesFor 14 (.ireturn) 1 15 := ⟨by decide +kernel, rfl⟩
theorem D_By_bytesFor_15 : xd m_By_bytesFor 15 (.iload_n 0) 1 16 := ⟨by decide +kernel, rfl⟩
theorem D_By_bytesFor_16 : xd m_By_bytesFor 16 (.sipush (-32768)) 3 19 := ⟨by decide +kernel, rfl⟩
theorem D_By_bytesFor_19 : xd m_By_bytesFor 19 (.if_icmp .lt 11) 3 22 := ⟨by decide +kernel, rfl⟩
theorem D_By_bytesFor_22 : xd m_By_bytesFor 22 (.iload_n 0) 1 23 := ⟨by decide +kernel, rfl⟩
theorem D_By_bytesFor_23 : xd m_By_bytesFor 23 (.ldc 32) 2 25 := ⟨by decide +kernel, rfl⟩
theorem D_By_bytesFor_25 : xd m_By_bytesFor 25 (.if_icmp .ge 5) 3 28 := ⟨by decide +kernel, rfl⟩
theorem D_By_bytesFor_28 : xd m_By_bytesFor 28 (.iconst 2) 1 29 := ⟨by decide +kernel, rfl⟩
theorem D_By_bytesFor_29 : xd m_By_bytesFor 29 (.ireturn) 1 30 := ⟨by decide +kernel, rfl⟩
theorem D_By_bytesFor_30 : xd m_By_bytesFor 30 (.iload_n 0) 1 31 := ⟨by decide +kernel, rfl⟩
theorem D_By_bytesFor_31 : xd m_By_bytesFor 31 (.ldc 33) 2 33 := ⟨by decide +kernel, rfl⟩
theorem D_By_bytesFor_33 : xd m_By_bytesFor 33 (.if_icmp .lt 13) 3 36 := ⟨by decide +kernel, rfl⟩
theorem D_By_bytesFor_36 : xd m_By_bytesFor 36 (.iload_n 0) 1 37 := ⟨by decide +kernel, rfl⟩
theorem D_By_bytesFor_37 : xd m_By_bytesFor 37 (.ldc 34) 2 39 := ⟨by decide +kernel, rfl⟩
theorem D_By_bytesFor_39 : xd m_By_bytesFor 39 (.if_icmp .ge 7) 3 42 := ⟨by decide +kernel, rfl⟩
theorem D_By_bytesFor_42 : xd m_By_bytesFor 42 (.iconst 3) 1 43 := ⟨by decide +kernel, rfl⟩
theorem D_By_bytesFor_43 : xd m_By_bytesFor 43 (.goto 4) 3 46 := ⟨by decide +kernel, rfl⟩
theorem D_By_bytesFor_46 : xd m_By_bytesFor 46 (.iconst 4) 1 47 := ⟨by decide +kernel, rfl⟩
theorem D_By_bytesFor_47 : xd m_By_bytesFor 47 (.ireturn) 1 48 := ⟨by decide +kernel, rfl⟩
theorem D_By_number_0 : xd m_By_number 0 (.iconst 0) 1 1 := ⟨by decide +kernel, rfl⟩
theorem D_By_number_1 : xd m_By_number 1 (.istore_n 3) 1 2 := ⟨by decide +kernel, rfl⟩
theorem D_By_number_2 : xd m_By_number 2 (.iconst 0) 1 3 := ⟨by decide +kernel, rfl⟩
theorem D_By_number_3 : xd m_By_number 3 (.istore 4) 2 5 := ⟨by decide +kernel, rfl⟩
theorem D_By_number_5 : xd m_By_number 5 (.iload 4) 2 7 := ⟨by decide +kernel, rfl⟩
theorem D_By_number_7 : xd m_By_number 7 (.iload_n 2) 1 8 := ⟨by decide +kernel, rfl⟩
theorem D_By_number_8 : xd m_By_number 8 (.if_icmp .ge 23) 3 11 := ⟨by decide +kernel, rfl⟩
theorem D_By_number_11 : xd m_By_number 11 (.iload_n 3) 1 12 := ⟨by decide +kernel, rfl⟩
theorem D_By_number_12 : xd m_By_number 12 (.bipush 8) 2 14 := ⟨by decide +kernel, rfl⟩
theorem D_By_number_14 : xd m_By_number 14 (.ishl) 1 15 := ⟨by decide +kernel, rfl⟩
theorem D_By_number_15 : xd m_By_number 15 (.aload_n 0) 1 16 := ⟨by decide +kernel, rfl⟩
theorem D_By_number_16 : xd m_By_number 16 (.iload_n 1) 1 17 := ⟨by decide +kernel, rfl⟩
theorem D_By_number_17 : xd m_By_number 17 (.iload 4) 2 19 := ⟨by decide +kernel, rfl⟩
theorem D_By_number_19 : xd m_By_number 19 (.iadd) 1 20 := ⟨by decide +kernel, rfl⟩
theorem D_By_number_20 : xd m_By_number 20 (.invokevirtual 35) 3 23 := ⟨by decide +kernel, rfl⟩
theorem D_By_number_23 : xd m_By_number 23 (.ior) 1 24 := ⟨by decide +kernel, rfl⟩
theorem D_By_number_24 : xd m_By_number 24 (.istore_n 3) 1 25 := ⟨by decide +kernel, rfl⟩
theorem D_By_number_25 : xd m_By_number 25 (.iinc 4 1) 3 28 := ⟨by decide +kernel, rfl⟩
theorem D_By_number_28 : xd m_By_number 28 (.goto (-23)) 3 31 := ⟨by decide +kernel, rfl⟩
theorem D_By_number_31 : xd m_By_number 31 (.iload_n 3) 1 32 := ⟨by decide +kernel, rfl⟩
theorem D_By_number_32 : xd m_By_number 32 (.ireturn) 1 33 := ⟨by decide +kernel, rfl⟩
theorem D_By_signedNumber_0 : xd m_By_signedNumber 0 (.bipush 32) 2 2 := ⟨by decide +kernel, rfl⟩
theorem D_By_signedNumber_2 : xd m_By_signedNumber 2 (.bipush 8) 2 4 := ⟨by decide +kernel, rfl⟩
theorem D_By_signedNumber_4 : xd m_By_signedNumber 4 (.iload_n 2) 1 5 := ⟨by decide +kernel, rfl⟩
theorem D_By_signedNumber_5 : xd m_By_signedNumber 5 (.imul) 1 6 := ⟨by decide +kernel, rfl⟩
theorem D_By_signedNumber_6 : xd m_By_signedNumber 6 (.isub) 1 7 := ⟨by decide +kernel, rfl⟩
theorem D_By_signedNumber_7 : xd m_By_signedNumber 7 (.istore_n 3) 1 8 := ⟨by decide +kernel, rfl⟩
theorem D_By_signedNumber_8 : xd m_By_signedNumber 8 (.aload_n 0) 1 9 := ⟨by decide +kernel, rfl⟩
theorem D_By_signedNumber_9 : xd m_By_signedNumber 9 (.iload_n 1) 1 10 := ⟨by decide +kernel, rfl⟩
theorem D_By_signedNumber_10 : xd m_By_signedNumber 10 (.iload_n 2) 1 11 := ⟨by decide +kernel, rfl⟩
theorem D_By_signedNumber_11 : xd m_By_signedNumber 11 (.invokevirtual 38) 3 14 := ⟨by decide +kernel, rfl⟩
theorem D_By_signedNumber_14 : xd m_By_signedNumber 14 (.iload_n 3) 1 15 := ⟨by decide +kernel, rfl⟩
theorem D_By_signedNumber_15 : xd m_By_signedNumber 15 (.ishl) 1 16 := ⟨by decide +kernel, rfl⟩
theorem D_By_signedNumber_16 : xd m_By_signedNumber 16 (.iload_n 3) 1 17 := ⟨by decide +kernel, rfl⟩
theorem D_By_signedNumber_17 : xd m_By_signedNumber 17 (.ishr) 1 18 := ⟨by decide +kernel, rfl⟩
theorem D_By_signedNumber_18 : xd m_By_signedNumber 18 (.ireturn) 1 19 := ⟨by decide +kernel, rfl⟩
theorem D_By_cut_0 : xd m_By_cut 0 (.iload_n 1) 1 1 := ⟨by decide +kernel, rfl⟩
theorem D_By_cut_1 : xd m_By_cut 1 (.ifCond .lt 16) 3 4 := ⟨by decide +kernel, rfl⟩
theorem D_By_cut_4 : xd m_By_cut 4 (.iload_n 1) 1 5 := ⟨by decide +kernel, rfl⟩
theorem D_By_cut_5 : xd m_By_cut 5 (.aload_n 0) 1 6 := ⟨by decide +kernel, rfl⟩
theorem D_By_cut_6 : xd m_By_cut 6 (.getfield 16) 3 9 := ⟨by decide +kernel, rfl⟩
theorem D_By_cut_9 : xd m_By_cut 9 (.if_icmp .gt 8) 3 12 := ⟨by decide +kernel, rfl⟩
theorem D_By_cut_12 : xd m_By_cut 12 (.aload_n 0) 1 13 := ⟨by decide +kernel, rfl⟩
theorem D_By_cut_13 : xd m_By_cut 13 (.iload_n 1) 1 14 := ⟨by decide +kernel, rfl⟩
theorem D_By_cut_14 : xd m_By_cut 14 (.putfield 16) 3 17 := ⟨by decide +kernel, rfl⟩
theorem D_By_cut_17 : xd m_By_cut 17 (.return_) 1 18 := ⟨by decide +kernel, rfl⟩
theorem D_By_become_0 : xd m_By_become 0 (.aload_n 1) 1 1 := ⟨by decide +kernel, rfl⟩
theorem D_By_become_1 : xd m_By_become 1 (.getfield 16) 3 4 := ⟨by decide +kernel, rfl⟩
theorem D_By_become_4 : xd m_By_become 4 (.aload_n 0) 1 5 := ⟨by decide +kernel, rfl⟩
theorem D_By_become_5 : xd m_By_become 5 (.getfield 10) 3 8 := ⟨by decide +kernel, rfl⟩
theorem D_By_become_8 : xd m_By_become 8 (.arraylength) 1 9 := ⟨by decide +kernel, rfl⟩
theorem D_By_become_9 : xd m_By_become 9 (.invokestatic 42) 3 12 := ⟨by decide +kernel, rfl⟩
theorem D_By_become_12 : xd m_By_become 12 (.istore_n 2) 1 13 := ⟨by decide +kernel, rfl⟩
theorem D_By_become_13 : xd m_By_become 13 (.iload_n 2) 1 14 := ⟨by decide +kernel, rfl⟩
theorem D_By_become_14 : xd m_By_become 14 (.ifCond .lt 31) 3 17 := ⟨by decide +kernel, rfl⟩
theorem D_By_become_17 : xd m_By_become 17 (.iload_n 2) 1 18 := ⟨by decide +kernel, rfl⟩
theorem D_By_become_18 : xd m_By_become 18 (.aload_n 1) 1 19 := ⟨by decide +kernel, rfl⟩
theorem D_By_become_19 : xd m_By_become 19 (.getfield 10) 3 22 := ⟨by decide +kernel, rfl⟩
theorem D_By_become_22 : xd m_By_become 22 (.arraylength) 1 23 := ⟨by decide +kernel, rfl⟩
theorem D_By_become_23 : xd m_By_become 23 (.if_icmp .gt 22) 3 26 := ⟨by decide +kernel, rfl⟩
theorem D_By_become_26 : xd m_By_become 26 (.aload_n 1) 1 27 := ⟨by decide +kernel, rfl⟩
theorem D_By_become_27 : xd m_By_become 27 (.getfield 10) 3 30 := ⟨by decide +kernel, rfl⟩
theorem D_By_become_30 : xd m_By_become 30 (.iconst 0) 1 31 := ⟨by decide +kernel, rfl⟩
theorem D_By_become_31 : xd m_By_become 31 (.aload_n 0) 1 32 := ⟨by decide +kernel, rfl⟩
theorem D_By_become_32 : xd m_By_become 32 (.getfield 10) 3 35 := ⟨by decide +kernel, rfl⟩
theorem D_By_become_35 : xd m_By_become 35 (.iconst 0) 1 36 := ⟨by decide +kernel, rfl⟩
theorem D_By_become_36 : xd m_By_become 36 (.iload_n 2) 1 37 := ⟨by decide +kernel, rfl⟩
theorem D_By_become_37 : xd m_By_become 37 (.invokestatic 47) 3 40 := ⟨by decide +kernel, rfl⟩
theorem D_By_become_40 : xd m_By_become 40 (.aload_n 0) 1 41 := ⟨by decide +kernel, rfl⟩
theorem D_By_become_41 : xd m_By_become 41 (.iload_n 2) 1 42 := ⟨by decide +kernel, rfl⟩
theorem D_By_become_42 : xd m_By_become 42 (.putfield 16) 3 45 := ⟨by decide +kernel, rfl⟩
theorem D_By_become_45 : xd m_By_become 45 (.return_) 1 46 := ⟨by decide +kernel, rfl⟩
theorem D_Fo_init_0 : xd m_Fo_init 0 (.aload_n 0) 1 1 := ⟨by decide +kernel, rfl⟩
theorem D_Fo_init_1 : xd m_Fo_init 1 (.invokespecial 3) 3 4 := ⟨by decide +kernel, rfl⟩
theorem D_Fo_init_4 : xd m_Fo_init 4 (.aload_n 0) 1 5 := ⟨by decide +kernel, rfl⟩
theorem D_Fo_init_5 : xd m_Fo_init 5 (.sipush 256) 3 8 := ⟨by decide +kernel, rfl⟩
theorem D_Fo_init_8 : xd m_Fo_init 8 (.newarray .int) 2 10 := ⟨by decide +kernel, rfl⟩
theorem D_Fo_init_10 : xd m_Fo_init 10 (.putfield 9) 3 13 := ⟨by decide +kernel, rfl⟩
theorem D_Fo_init_13 : xd m_Fo_init 13 (.aload_n 0) 1 14 := ⟨by decide +kernel, rfl⟩
theorem D_Fo_init_14 : xd m_Fo_init 14 (.sipush 256) 3 17 := ⟨by decide +kernel, rfl⟩
theorem D_Fo_init_17 : xd m_Fo_init 17 (.newarray .int) 2 19 := ⟨by decide +kernel, rfl⟩
theorem D_Fo_init_19 : xd m_Fo_init 19 (.putfield 15) 3 22 := ⟨by decide +kernel, rfl⟩
theorem D_Fo_init_22 : xd m_Fo_init 22 (.aload_n 0) 1 23 := ⟨by decide +kernel, rfl⟩
theorem D_Fo_init_23 : xd m_Fo_init 23 (.sipush 256) 3 26 := ⟨by decide +kernel, rfl⟩
theorem D_Fo_init_26 : xd m_Fo_init 26 (.newarray .int) 2 28 := ⟨by decide +kernel, rfl⟩
theorem D_Fo_init_28 : xd m_Fo_init 28 (.putfield 18) 3 31 := ⟨by decide +kernel, rfl⟩
theorem D_Fo_init_31 : xd m_Fo_init 31 (.aload_n 0) 1 32 := ⟨by decide +kernel, rfl⟩
theorem D_Fo_init_32 : xd m_Fo_init 32 (.sipush 256) 3 35 := ⟨by decide +kernel, rfl⟩
theorem D_Fo_init_35 : xd m_Fo_init 35 (.newarray .long) 2 37 := ⟨by decide +kernel, rfl⟩
theorem D_Fo_init_37 : xd m_Fo_init 37 (.putfield 21) 3 40 := ⟨by decide +kernel, rfl⟩
theorem D_Fo_init_40 : xd m_Fo_init 40 (.aload_n 0) 1 41 := ⟨by decide +kernel, rfl⟩
theorem D_Fo_init_41 : xd m_Fo_init 41 (.sipush 256) 3 44 := ⟨by decide +kernel, rfl⟩
theorem D_Fo_init_44 : xd m_Fo_init 44 (.newarray .long) 2 46 := ⟨by decide +kernel, rfl⟩
theorem D_Fo_init_46 : xd m_Fo_init 46 (.putfield 25) 3 49 := ⟨by decide +kernel, rfl⟩
theorem D_Fo_init_49 : xd m_Fo_init 49 (.aload_n 0) 1 50 := ⟨by decide +kernel, rfl⟩
theorem D_Fo_init_50 : xd m_Fo_init 50 (.sipush 256) 3 53 := ⟨by decide +kernel, rfl⟩
theorem D_Fo_init_53 : xd m_Fo_init 53 (.newarray .int) 2 55 := ⟨by decide +kernel, rfl⟩
theorem D_Fo_init_55 : xd m_Fo_init 55 (.putfield 28) 3 58 := ⟨by decide +kernel, rfl⟩
theorem D_Fo_init_58 : xd m_Fo_init 58 (.return_) 1 59 := ⟨by decide +kernel, rfl⟩
theorem D_Fo_isDefined_0 : xd m_Fo_isDefined 0 (.iload_n 1) 1 1 := ⟨by decide +kernel, rfl⟩
theorem D_Fo_isDefined_1 : xd m_Fo_isDefined 1 (.invokestatic 31) 3 4 := ⟨by decide +kernel, rfl⟩
theorem D_Fo_isDefined_4 : xd m_Fo_isDefined 4 (.ifCond .eq 16) 3 7 := ⟨by decide +kernel, rfl⟩
theorem D_Fo_isDefined_7 : xd m_Fo_isDefined 7 (.aload_n 0) 1 8 := ⟨by decide +kernel, rfl⟩
theorem D_Fo_isDefined_8 : xd m_Fo_isDefined 8 (.getfield 28) 3 11 := ⟨by decide +kernel, rfl⟩
theorem D_Fo_isDefined_11 : xd m_Fo_isDefined 11 (.iload_n 1) 1 12 := ⟨by decide +kernel, rfl⟩
theorem D_Fo_isDefined_12 : xd m_Fo_isDefined 12 (.iaload) 1 13 := ⟨by decide +kernel, rfl⟩
theorem D_Fo_isDefined_13 : xd m_Fo_isDefined 13 (.ifCond .le 7) 3 16 := ⟨by decide +kernel, rfl⟩
theorem D_Fo_isDefined_16 : xd m_Fo_isDefined 16 (.iconst 1) 1 17 := ⟨by decide +kernel, rfl⟩
theorem D_Fo_isDefined_17 : xd m_Fo_isDefined 17 (.goto 4) 3 20 := ⟨by decide +kernel, rfl⟩
theorem D_Fo_isDefined_20 : xd m_Fo_isDefined 20 (.iconst 0) 1 21 := ⟨by decide +kernel, rfl⟩
theorem D_Fo_isDefined_21 : xd m_Fo_isDefined 21 (.ireturn) 1 22 := ⟨by decide +kernel, rfl⟩
theorem D_Fo_define_0 : xd m_Fo_define 0 (.iload_n 1) 1 1 := ⟨by decide +kernel, rfl⟩
theorem D_Fo_define_1 : xd m_Fo_define 1 (.invokestatic 31) 3 4 := ⟨by decide +kernel, rfl⟩
theorem D_Fo_define_4 : xd m_Fo_define 4 (.ifCond .eq 25) 3 7 := ⟨by decide +kernel, rfl⟩
theorem D_Fo_define_7 : xd m_Fo_define 7 (.aload_n 0) 1 8 := ⟨by decide +kernel, rfl⟩
theorem D_Fo_define_8 : xd m_Fo_define 8 (.getfield 9) 3 11 := ⟨by decide +kernel, rfl⟩
theorem D_Fo_define_11 : xd m_Fo_define 11 (.iload_n 1) 1 12 := ⟨by decide +kernel, rfl⟩
theorem D_Fo_define_12 : xd m_Fo_define 12 (.iload_n 2) 1 13 := ⟨by decide +kernel, rfl⟩
theorem D_Fo_define_13 : xd m_Fo_define 13 (.iastore) 1 14 := ⟨by decide +kernel, rfl⟩
theorem D_Fo_define_14 : xd m_Fo_define 14 (.aload_n 0) 1 15 := ⟨by decide +kernel, rfl⟩
theorem D_Fo_define_15 : xd m_Fo_define 15 (.getfield 15) 3 18 := ⟨by decide +kernel, rfl⟩
theorem D_Fo_define_18 : xd m_Fo_define 18 (.iload_n 1) 1 19 := ⟨by decide +kernel, rfl⟩
theorem D_Fo_define_19 : xd m_Fo_define 19 (.iload_n 3) 1 20 := ⟨by decide +kernel, rfl⟩
theorem D_Fo_define_20 : xd m_Fo_define 20 (.iastore) 1 21 := ⟨by decide +kernel, rfl⟩
theorem D_Fo_define_21 : xd m_Fo_define 21 (.aload_n 0) 1 22 := ⟨by decide +kernel, rfl⟩
theorem D_Fo_define_22 : xd m_Fo_define 22 (.getfield 18) 3 25 := ⟨by decide +kernel, rfl⟩
theorem D_Fo_define_25 : xd m_Fo_define 25 (.iload_n 1) 1 26 := ⟨by decide +kernel, rfl⟩
theorem D_Fo_define_26 : xd m_Fo_define 26 (.iload 4) 2 28 := ⟨by decide +kernel, rfl⟩
theorem D_Fo_define_28 : xd m_Fo_define 28 (.iastore) 1 29 := ⟨by decide +kernel, rfl⟩
theorem D_Fo_define_29 : xd m_Fo_define 29 (.return_) 1 30 := ⟨by decide +kernel, rfl⟩
theorem D_Fo_call_0 : xd m_Fo_call 0 (.iload_n 1) 1 1 := ⟨by decide +kernel, rfl⟩
theorem D_Fo_call_1 : xd m_Fo_call 1 (.invokestatic 31) 3 4 := ⟨by decide +kernel, rfl⟩
theorem D_Fo_call_4 : xd m_Fo_call 4 (.ifCond .eq 26) 3 7 := ⟨by decide +kernel, rfl⟩
theorem D_Fo_call_7 : xd m_Fo_call 7 (.aload_n 0) 1 8 := ⟨by decide +kernel, rfl⟩
theorem D_Fo_call_8 : xd m_Fo_call 8 (.getfield 21) 3 11 := ⟨by decide +kernel, rfl⟩
theorem D_Fo_call_11 : xd m_Fo_call 11 (.iload_n 1) 1 12 := ⟨by decide +kernel, rfl⟩
theorem D_Fo_call_12 : xd m_Fo_call 12 (.lload_n 2) 1 13 := ⟨by decide +kernel, rfl⟩
theorem D_Fo_call_13 : xd m_Fo_call 13 (.lastore) 1 14 := ⟨by decide +kernel, rfl⟩
theorem D_Fo_call_14 : xd m_Fo_call 14 (.aload_n 0) 1 15 := ⟨by decide +kernel, rfl⟩
theorem D_Fo_call_15 : xd m_Fo_call 15 (.getfield 25) 3 18 := ⟨by decide +kernel, rfl⟩
theorem D_Fo_call_18 : xd m_Fo_call 18 (.iload_n 1) 1 19 := ⟨by decide +kernel, rfl⟩
theorem D_Fo_call_19 : xd m_Fo_call 19 (.lload 4) 2 21 := ⟨by decide +kernel, rfl⟩
theorem D_Fo_call_21 : xd m_Fo_call 21 (.lastore) 1 22 := ⟨by decide +kernel, rfl⟩
theorem D_Fo_call_22 : xd m_Fo_call 22 (.aload_n 0) 1 23 := ⟨by decide +kernel, rfl⟩
theorem D_Fo_call_23 : xd m_Fo_call 23 (.getfield 28) 3 26 := ⟨by decide +kernel, rfl⟩
theorem D_Fo_call_26 : xd m_Fo_call 26 (.iload_n 1) 1 27 := ⟨by decide +kernel, rfl⟩
theorem D_Fo_call_27 : xd m_Fo_call 27 (.iload 6) 2 29 := ⟨by decide +kernel, rfl⟩
theorem D_Fo_call_29 : xd m_Fo_call 29 (.iastore) 1 30 := ⟨by decide +kernel, rfl⟩
theorem D_Fo_call_30 : xd m_Fo_call 30 (.return_) 1 31 := ⟨by decide +kernel, rfl⟩
theorem D_Fo_writeDefinition_0 : xd m_Fo_writeDefinition 0 (.iload_n 1) 1 1 := ⟨by decide +kernel, rfl⟩
theorem D_Fo_writeDefinition_1 : xd m_Fo_writeDefinition 1 (.invokestatic 31) 3 4 := ⟨by decide +kernel, rfl⟩
theorem D_Fo_writeDefinition_4 : xd m_Fo_writeDefinition 4 (.ifCond .ne 4) 3 7 := ⟨by decide +kernel, rfl⟩
theorem D_Fo_writeDefinition_7 : xd m_Fo_writeDefinition 7 (.return_) 1 8 := ⟨by decide +kernel, rfl⟩
theorem D_Fo_writeDefinition_8 : xd m_Fo_writeDefinition 8 (.aload_n 2) 1 9 := ⟨by decide +kernel, rfl⟩
theorem D_Fo_writeDefinition_9 : xd m_Fo_writeDefinition 9 (.sipush 243) 3 12 := ⟨by decide +kernel, rfl⟩
theorem D_Fo_writeDefinition_12 : xd m_Fo_writeDefinition 12 (.invokevirtual 35) 3 15 := ⟨by decide +kernel, rfl⟩
theorem D_Fo_writeDefinition_15 : xd m_Fo_writeDefinition 15 (.aload_n 2) 1 16 := ⟨by decide +kernel, rfl⟩
theorem D_Fo_writeDefinition_16 : xd m_Fo_writeDefinition 16 (.iload_n 1) 1 17 := ⟨by decide +kernel, rfl⟩
theorem D_Fo_writeDefinition_17 : xd m_Fo_writeDefinition 17 (.invokevirtual 35) 3 20 := ⟨by decide +kernel, rfl⟩
theorem D_Fo_writeDefinition_20 : xd m_Fo_writeDefinition 20 (.aload_n 2) 1 21 := ⟨by decide +kernel, rfl⟩
theorem D_Fo_writeDefinition_21 : xd m_Fo_writeDefinition 21 (.aload_n 0) 1 22 := ⟨by decide +kernel, rfl⟩
theorem D_Fo_writeDefinition_22 : xd m_Fo_writeDefinition 22 (.getfield 9) 3 25 := ⟨by decide +kernel, rfl⟩
theorem D_Fo_writeDefinition_25 : xd m_Fo_writeDefinition 25 (.iload_n 1) 1 26 := ⟨by decide +kernel, rfl⟩
theorem D_Fo_writeDefinition_26 : xd m_Fo_writeDefinition 26 (.iaload) 1 27 := ⟨by decide +kernel, rfl⟩
theorem D_Fo_writeDefinition_27 : xd m_Fo_writeDefinition 27 (.iconst 4) 1 28 := ⟨by decide +kernel, rfl⟩
theorem D_Fo_writeDefinition_28 : xd m_Fo_writeDefinition 28 (.invokevirtual 41) 3 31 := ⟨by decide +kernel, rfl⟩
theorem D_Fo_writeDefinition_31 : xd m_Fo_writeDefinition 31 (.aload_n 2) 1 32 := ⟨by decide +kernel, rfl⟩
theorem D_Fo_writeDefinition_32 : xd m_Fo_writeDefinition 32 (.aload_n 0) 1 33 := ⟨by decide +kernel, rfl⟩
theorem D_Fo_writeDefinition_33 : xd m_Fo_writeDefinition 33 (.getfield 15) 3 36 := ⟨by decide +kernel, rfl⟩
theorem D_Fo_writeDefinition_36 : xd m_Fo_writeDefinition 36 (.iload_n 1) 1 37 := ⟨by decide +kernel, rfl⟩
theorem D_Fo_writeDefinition_37 : xd m_Fo_writeDefinition 37 (.iaload) 1 38 := ⟨by decide +kernel, rfl⟩
theorem D_Fo_writeDefinition_38 : xd m_Fo_writeDefinition 38 (.iconst 4) 1 39 := ⟨by decide +kernel, rfl⟩
theorem D_Fo_writeDefinition_39 : xd m_Fo_writeDefinition 39 (.invokevirtual 41) 3 42 := ⟨by decide +kernel, rfl⟩
theorem D_Fo_writeDefinition_42 : xd m_Fo_writeDefinition 42 (.aload_n 2) 1 43 := ⟨by decide +kernel, rfl⟩
theorem D_Fo_writeDefinition_43 : xd m_Fo_writeDefinition 43 (.aload_n 0) 1 44 := ⟨by decide +kernel, rfl⟩
theorem D_Fo_writeDefinition_44 : xd m_Fo_writeDefinition 44 (.getfield 18) 3 47 := ⟨by decide +kernel, rfl⟩
theorem D_Fo_writeDefinition_47 : xd m_Fo_writeDefinition 47 (.iload_n 1) 1 48 := ⟨by decide +kernel, rfl⟩
theorem D_Fo_writeDefinition_48 : xd m_Fo_writeDefinition 48 (.iaload) 1 49 := ⟨by decide +kernel, rfl⟩
theorem D_Fo_writeDefinition_49 : xd m_Fo_writeDefinition 49 (.iconst 4) 1 50 := ⟨by decide +kernel, rfl⟩
theorem D_Fo_writeDefinition_50 : xd m_Fo_writeDefinition 50 (.invokevirtual 41) 3 53 := ⟨by decide +kernel, rfl⟩
theorem D_Fo_writeDefinition_53 : xd m_Fo_writeDefinition 53 (.aload_n 2) 1 54 := ⟨by decide +kernel, rfl⟩
theorem D_Fo_writeDefinition_54 : xd m_Fo_writeDefinition 54 (.iconst 0) 1 55 := ⟨by decide +kernel, rfl⟩
theorem D_Fo_writeDefinition_55 : xd m_Fo_writeDefinition 55 (.invokevirtual 35) 3 58 := ⟨by decide +kernel, rfl⟩
theorem D_Fo_writeDefinition_58 : xd m_Fo_writeDefinition 58 (.aload_n 2) 1 59 := ⟨by decide +kernel, rfl⟩
theorem D_Fo_writeDefinition_59 : xd m_Fo_writeDefinition 59 (.aload_n 0) 1 60 := ⟨by decide +kernel, rfl⟩
theorem D_Fo_writeDefinition_60 : xd m_Fo_writeDefinition 60 (.getfield 28) 3 63 := ⟨by decide +kernel, rfl⟩
theorem D_Fo_writeDefinition_63 : xd m_Fo_writeDefinition 63 (.iload_n 1) 1 64 := ⟨by decide +kernel, rfl⟩
theorem D_Fo_writeDefinition_64 : xd m_Fo_writeDefinition 64 (.iaload) 1 65 := ⟨by decide +kernel, rfl⟩
theorem D_Fo_writeDefinition_65 : xd m_Fo_writeDefinition 65 (.invokevirtual 35) 3 68 := ⟨by decide +kernel, rfl⟩
theorem D_Fo_writeDefinition_68 : xd m_Fo_writeDefinition 68 (.iconst 0) 1 69 := ⟨by decide +kernel, rfl⟩
theorem D_Fo_writeDefinition_69 : xd m_Fo_writeDefinition 69 (.istore_n 3) 1 70 := ⟨by decide +kernel, rfl⟩
theorem D_Fo_writeDefinition_70 : xd m_Fo_writeDefinition 70 (.iload_n 3) 1 71 := ⟨by decide +kernel, rfl⟩
theorem D_Fo_writeDefinition_71 : xd m_Fo_writeDefinition 71 (.aload_n 0) 1 72 := ⟨by decide +kernel, rfl⟩
theorem D_Fo_writeDefinition_72 : xd m_Fo_writeDefinition 72 (.getfield 28) 3 75 := ⟨by decide +kernel, rfl⟩
theorem D_Fo_writeDefinition_75 : xd m_Fo_writeDefinition 75 (.iload_n 1) 1 76 := ⟨by decide +kernel, rfl⟩
theorem D_Fo_writeDefinition_76 : xd m_Fo_writeDefinition 76 (.iaload) 1 77 := ⟨by decide +kernel, rfl⟩
theorem D_Fo_writeDefinition_77 : xd m_Fo_writeDefinition 77 (.if_icmp .ge 35) 3 80 := ⟨by decide +kernel, rfl⟩
theorem D_Fo_writeDefinition_80 : xd m_Fo_writeDefinition 80 (.iload_n 3) 1 81 := ⟨by decide +kernel, rfl⟩
theorem D_Fo_writeDefinition_81 : xd m_Fo_writeDefinition 81 (.bipush 16) 2 83 := ⟨by decide +kernel, rfl⟩
theorem D_Fo_writeDefinition_83 : xd m_Fo_writeDefinition 83 (.if_icmp .ge 29) 3 86 := ⟨by decide +kernel, rfl⟩
theorem D_Fo_writeDefinition_86 : xd m_Fo_writeDefinition 86 (.aload_n 2) 1 87 := ⟨by decide +kernel, rfl⟩
theorem D_Fo_writeDefinition_87 : xd m_Fo_writeDefinition 87 (.aload_n 0) 1 88 := ⟨by decide +kernel, rfl⟩
theorem D_Fo_writeDefinition_88 : xd m_Fo_writeDefinition 88 (.getfield 21) 3 91 := ⟨by decide +kernel, rfl⟩
theorem D_Fo_writeDefinition_91 : xd m_Fo_writeDefinition 91 (.iload_n 1) 1 92 := ⟨by decide +kernel, rfl⟩
theorem D_Fo_writeDefinition_92 : xd m_Fo_writeDefinition 92 (.laload) 1 93 := ⟨by decide +kernel, rfl⟩
theorem D_Fo_writeDefinition_93 : xd m_Fo_writeDefinition 93 (.aload_n 0) 1 94 := ⟨by decide +kernel, rfl⟩
theorem D_Fo_writeDefinition_94 : xd m_Fo_writeDefinition 94 (.getfield 25) 3 97 := ⟨by decide +kernel, rfl⟩
theorem D_Fo_writeDefinition_97 : xd m_Fo_writeDefinition 97 (.iload_n 1) 1 98 := ⟨by decide +kernel, rfl⟩
theorem D_Fo_writeDefinition_98 : xd m_Fo_writeDefinition 98 (.laload) 1 99 := ⟨by decide +kernel, rfl⟩
theorem D_Fo_writeDefinition_99 : xd m_Fo_writeDefinition 99 (.iload_n 3) 1 100 := ⟨by decide +kernel, rfl⟩
theorem D_Fo_writeDefinition_100 : xd m_Fo_writeDefinition 100 (.invokestatic 45) 3 103 := ⟨by decide +kernel, rfl⟩
theorem D_Fo_writeDefinition_103 : xd m_Fo_writeDefinition 103 (.invokevirtual 35) 3 106 := ⟨by decide +kernel, rfl⟩
theorem D_Fo_writeDefinition_106 : xd m_Fo_writeDefinition 106 (.iinc 3 1) 3 109 := ⟨by decide +kernel, rfl⟩
theorem D_Fo_writeDefinition_109 : xd m_Fo_writeDefinition 109 (.goto (-39)) 3 112 := ⟨by decide +kernel, rfl⟩
theorem D_Fo_writeDefinition_112 : xd m_Fo_writeDefinition 112 (.return_) 1 113 := ⟨by decide +kernel, rfl⟩
theorem D_Rd_init_0 : xd m_Rd_init 0 (.aload_n 0) 1 1 := ⟨by decide +kernel, rfl⟩
theorem D_Rd_init_1 : xd m_Rd_init 1 (.invokespecial 3) 3 4 := ⟨by decide +kernel, rfl⟩
theorem D_Rd_init_4 : xd m_Rd_init 4 (.aload_n 0) 1 5 := ⟨by decide +kernel, rfl⟩
theorem D_Rd_init_5 : xd m_Rd_init 5 (.bipush 6) 2 7 := ⟨by decide +kernel, rfl⟩
theorem D_Rd_init_7 : xd m_Rd_init 7 (.newarray .int) 2 9 := ⟨by decide +kernel, rfl⟩
theorem D_Rd_init_9 : xd m_Rd_init 9 (.putfield 11) 3 12 := ⟨by decide +kernel, rfl⟩
theorem D_Rd_init_12 : xd m_Rd_init 12 (.aload_n 0) 1 13 := ⟨by decide +kernel, rfl⟩
theorem D_Rd_init_13 : xd m_Rd_init 13 (.sipush 600) 3 16 := ⟨by decide +kernel, rfl⟩
theorem D_Rd_init_16 : xd m_Rd_init 16 (.newarray .int) 2 18 := ⟨by decide +kernel, rfl⟩
theorem D_Rd_init_18 : xd m_Rd_init 18 (.putfield 15) 3 21 := ⟨by decide +kernel, rfl⟩
theorem D_Rd_init_21 : xd m_Rd_init 21 (.aload_n 0) 1 22 := ⟨by decide +kernel, rfl⟩
theorem D_Rd_init_22 : xd m_Rd_init 22 (.aload_n 1) 1 23 := ⟨by decide +kernel, rfl⟩
theorem D_Rd_init_23 : xd m_Rd_init 23 (.putfield 18) 3 26 := ⟨by decide +kernel, rfl⟩
theorem D_Rd_init_26 : xd m_Rd_init 26 (.aload_n 0) 1 27 := ⟨by decide +kernel, rfl⟩
theorem D_Rd_init_27 : xd m_Rd_init 27 (.aload_n 2) 1 28 := ⟨by decide +kernel, rfl⟩
theorem D_Rd_init_28 : xd m_Rd_init 28 (.putfield 22) 3 31 := ⟨by decide +kernel, rfl⟩
theorem D_Rd_init_31 : xd m_Rd_init 31 (.aload_n 0) 1 32 := ⟨by decide +kernel, rfl⟩
theorem D_Rd_init_32 : xd m_Rd_init 32 (.aload_n 3) 1 33 := ⟨by decide +kernel, rfl⟩
theorem D_Rd_init_33 : xd m_Rd_init 33 (.putfield 26) 3 36 := ⟨by decide +kernel, rfl⟩
theorem D_Rd_init_36 : xd m_Rd_init 36 (.return_) 1 37 := ⟨by decide +kernel, rfl⟩
theorem D_Rd_restart_0 : xd m_Rd_restart 0 (.aload_n 0) 1 1 := ⟨by decide +kernel, rfl⟩
theorem D_Rd_restart_1 : xd m_Rd_restart 1 (.getfield 26) 3 4 := ⟨by decide +kernel, rfl⟩
theorem D_Rd_restart_4 : xd m_Rd_restart 4 (.invokevirtual 30) 3 7 := ⟨by decide +kernel, rfl⟩
theorem D_Rd_restart_7 : xd m_Rd_restart 7 (.aload_n 0) 1 8 := ⟨by decide +kernel, rfl⟩
theorem D_Rd_restart_8 : xd m_Rd_restart 8 (.iconst 0) 1 9 := ⟨by decide +kernel, rfl⟩
theorem D_Rd_restart_9 : xd m_Rd_restart 9 (.putfield 35) 3 12 := ⟨by decide +kernel, rfl⟩
theorem D_Rd_restart_12 : xd m_Rd_restart 12 (.aload_n 0) 1 13 := ⟨by decide +kernel, rfl⟩
theorem D_Rd_restart_13 : xd m_Rd_restart 13 (.iconst 0) 1 14 := ⟨by decide +kernel, rfl⟩
theorem D_Rd_restart_14 : xd m_Rd_restart 14 (.putfield 39) 3 17 := ⟨by decide +kernel, rfl⟩
theorem D_Rd_restart_17 : xd m_Rd_restart 17 (.aload_n 0) 1 18 := ⟨by decide +kernel, rfl⟩
theorem D_Rd_restart_18 : xd m_Rd_restart 18 (.iconst (-1)) 1 19 := ⟨by decide +kernel, rfl⟩
theorem D_Rd_restart_19 : xd m_Rd_restart 19 (.putfield 42) 3 22 := ⟨by decide +kernel, rfl⟩
theorem D_Rd_restart_22 : xd m_Rd_restart 22 (.aload_n 0) 1 23 := ⟨by decide +kernel, rfl⟩
theorem D_Rd_restart_23 : xd m_Rd_restart 23 (.iconst 0) 1 24 := ⟨by decide +kernel, rfl⟩
theorem D_Rd_restart_24 : xd m_Rd_restart 24 (.putfield 45) 3 27 := ⟨by decide +kernel, rfl⟩
theorem D_Rd_restart_27 : xd m_Rd_restart 27 (.return_) 1 28 := ⟨by decide +kernel, rfl⟩
theorem D_Rd_place_0 : xd m_Rd_place 0 (.aload_n 0) 1 1 := ⟨by decide +kernel, rfl⟩
theorem D_Rd_place_1 : xd m_Rd_place 1 (.getfield 39) 3 4 := ⟨by decide +kernel, rfl⟩
theorem D_Rd_place_4 : xd m_Rd_place 4 (.ireturn) 1 5 := ⟨by decide +kernel, rfl⟩
theorem D_Rd_readCommands_0 : xd m_Rd_readCommands 0 (.aload_n 0) 1 1 := ⟨by decide +kernel, rfl⟩
theorem D_Rd_readCommands_1 : xd m_Rd_readCommands 1 (.getfield 18) 3 4 := ⟨by decide +kernel, rfl⟩
theorem D_Rd_readCommands_4 : xd m_Rd_readCommands 4 (.invokevirtual 48) 3 7 := ⟨by decide +kernel, rfl⟩
theorem D_Rd_readCommands_7 : xd m_Rd_readCommands 7 (.istore_n 1) 1 8 := ⟨by decide +kernel, rfl⟩
theorem D_Rd_readCommands_8 : xd m_Rd_readCommands 8 (.iconst 0) 1 9 := ⟨by decide +kernel, rfl⟩
theorem D_Rd_readCommands_9 : xd m_Rd_readCommands 9 (.istore_n 2) 1 10 := ⟨by decide +kernel, rfl⟩
theorem D_Rd_readCommands_10 : xd m_Rd_readCommands 10 (.iload_n 2) 1 11 := ⟨by decide +kernel, rfl⟩
theorem D_Rd_readCommands_11 : xd m_Rd_readCommands 11 (.iload_n 1) 1 12 := ⟨by decide +kernel, rfl⟩
theorem D_Rd_readCommands_12 : xd m_Rd_readCommands 12 (.if_icmp .ge 91) 3 15 := ⟨by decide +kernel, rfl⟩
theorem D_Rd_readCommands_15 : xd m_Rd_readCommands 15 (.aload_n 0) 1 16 := ⟨by decide +kernel, rfl⟩
theorem D_Rd_readCommands_16 : xd m_Rd_readCommands 16 (.getfield 39) 3 19 := ⟨by decide +kernel, rfl⟩
theorem D_Rd_readCommands_19 : xd m_Rd_readCommands 19 (.iload_n 1) 1 20 := ⟨by decide +kernel, rfl⟩
theorem D_Rd_readCommands_20 : xd m_Rd_readCommands 20 (.if_icmp .ge 83) 3 23 := ⟨by decide +kernel, rfl⟩
theorem D_Rd_readCommands_23 : xd m_Rd_readCommands 23 (.aload_n 0) 1 24 := ⟨by decide +kernel, rfl⟩
theorem D_Rd_readCommands_24 : xd m_Rd_readCommands 24 (.aload_n 0) 1 25 := ⟨by decide +kernel, rfl⟩
theorem D_Rd_readCommands_25 : xd m_Rd_readCommands 25 (.getfield 18) 3 28 := ⟨by decide +kernel, rfl⟩
theorem D_Rd_readCommands_28 : xd m_Rd_readCommands 28 (.aload_n 0) 1 29 := ⟨by decide +kernel, rfl⟩
theorem D_Rd_readCommands_29 : xd m_Rd_readCommands 29 (.getfield 39) 3 32 := ⟨by decide +kernel, rfl⟩
theorem D_Rd_readCommands_32 : xd m_Rd_readCommands 32 (.invokevirtual 54) 3 35 := ⟨by decide +kernel, rfl⟩
theorem D_Rd_readCommands_35 : xd m_Rd_readCommands 35 (.putfield 57) 3 38 := ⟨by decide +kernel, rfl⟩
theorem D_Rd_readCommands_38 : xd m_Rd_readCommands 38 (.aload_n 0) 1 39 := ⟨by decide +kernel, rfl⟩
theorem D_Rd_readCommands_39 : xd m_Rd_readCommands 39 (.aload_n 0) 1 40 := ⟨by decide +kernel, rfl⟩
theorem D_Rd_readCommands_40 : xd m_Rd_readCommands 40 (.getfield 57) 3 43 := ⟨by decide +kernel, rfl⟩
theorem D_Rd_readCommands_43 : xd m_Rd_readCommands 43 (.invokestatic 60) 3 46 := ⟨by decide +kernel, rfl⟩
theorem D_Rd_readCommands_46 : xd m_Rd_readCommands 46 (.putfield 63) 3 49 := ⟨by decide +kernel, rfl⟩
theorem D_Rd_readCommands_49 : xd m_Rd_readCommands 49 (.aload_n 0) 1 50 := ⟨by decide +kernel, rfl⟩
theorem D_Rd_readCommands_50 : xd m_Rd_readCommands 50 (.invokevirtual 66) 3 53 := ⟨by decide +kernel, rfl⟩
theorem D_Rd_readCommands_53 : xd m_Rd_readCommands 53 (.istore_n 3) 1 54 := ⟨by decide +kernel, rfl⟩
theorem D_Rd_readCommands_54 : xd m_Rd_readCommands 54 (.iload_n 3) 1 55 := ⟨by decide +kernel, rfl⟩
theorem D_Rd_readCommands_55 : xd m_Rd_readCommands 55 (.ifCond .ge 5) 3 58 := ⟨by decide +kernel, rfl⟩
theorem D_Rd_readCommands_58 : xd m_Rd_readCommands 58 (.iconst 1) 1 59 := ⟨by decide +kernel, rfl⟩
theorem D_Rd_readCommands_59 : xd m_Rd_readCommands 59 (.ireturn) 1 60 := ⟨by decide +kernel, rfl⟩
theorem D_Rd_readCommands_60 : xd m_Rd_readCommands 60 (.aload_n 0) 1 61 := ⟨by decide +kernel, rfl⟩
theorem D_Rd_readCommands_61 : xd m_Rd_readCommands 61 (.invokevirtual 69) 3 64 := ⟨by decide +kernel, rfl⟩
theorem D_Rd_readCommands_64 : xd m_Rd_readCommands 64 (.ifCond .eq 10) 3 67 := ⟨by decide +kernel, rfl⟩
theorem D_Rd_readCommands_67 : xd m_Rd_readCommands 67 (.aload_n 0) 1 68 := ⟨by decide +kernel, rfl⟩
theorem D_Rd_readCommands_68 : xd m_Rd_readCommands 68 (.invokevirtual 73) 3 71 := ⟨by decide +kernel, rfl⟩
theorem D_Rd_readCommands_71 : xd m_Rd_readCommands 71 (.goto 4) 3 74 := ⟨by decide +kernel, rfl⟩
theorem D_Rd_readCommands_74 : xd m_Rd_readCommands 74 (.iconst 2) 1 75 := ⟨by decide +kernel, rfl⟩
theorem D_Rd_readCommands_75 : xd m_Rd_readCommands 75 (.istore 4) 2 77 := ⟨by decide +kernel, rfl⟩
theorem D_Rd_readCommands_77 : xd m_Rd_readCommands 77 (.iload 4) 2 79 := ⟨by decide +kernel, rfl⟩
theorem D_Rd_readCommands_79 : xd m_Rd_readCommands 79 (.ifCond .eq 6) 3 82 := ⟨by decide +kernel, rfl⟩
theorem D_Rd_readCommands_82 : xd m_Rd_readCommands 82 (.iload 4) 2 84 := ⟨by decide +kernel, rfl⟩
theorem D_Rd_readCommands_84 : xd m_Rd_readCommands 84 (.ireturn) 1 85 := ⟨by decide +kernel, rfl⟩
theorem D_Rd_readCommands_85 : xd m_Rd_readCommands 85 (.aload_n 0) 1 86 := ⟨by decide +kernel, rfl⟩
theorem D_Rd_readCommands_86 : xd m_Rd_readCommands 86 (.dup) 1 87 := ⟨by decide +kernel, rfl⟩
theorem D_Rd_readCommands_87 : xd m_Rd_readCommands 87 (.getfield 39) 3 90 := ⟨by decide +kernel, rfl⟩
theorem D_Rd_readCommands_90 : xd m_Rd_readCommands 90 (.iconst 1) 1 91 := ⟨by decide +kernel, rfl⟩
theorem D_Rd_readCommands_91 : xd m_Rd_readCommands 91 (.iload_n 3) 1 92 := ⟨by decide +kernel, rfl⟩
theorem D_Rd_readCommands_92 : xd m_Rd_readCommands 92 (.iadd) 1 93 := ⟨by decide +kernel, rfl⟩
theorem D_Rd_readCommands_93 : xd m_Rd_readCommands 93 (.iadd) 1 94 := ⟨by decide +kernel, rfl⟩
theorem D_Rd_readCommands_94 : xd m_Rd_readCommands 94 (.putfield 39) 3 97 := ⟨by decide +kernel, rfl⟩
theorem D_Rd_readCommands_97 : xd m_Rd_readCommands 97 (.iinc 2 1) 3 100 := ⟨by decide +kernel, rfl⟩
theorem D_Rd_readCommands_100 : xd m_Rd_readCommands 100 (.goto (-90)) 3 103 := ⟨by decide +kernel, rfl⟩
theorem D_Rd_readCommands_103 : xd m_Rd_readCommands 103 (.aload_n 0) 1 104 := ⟨by decide +kernel, rfl⟩
theorem D_Rd_readCommands_104 : xd m_Rd_readCommands 104 (.getfield 45) 3 107 := ⟨by decide +kernel, rfl⟩
theorem D_Rd_readCommands_107 : xd m_Rd_readCommands 107 (.iconst 4) 1 108 := ⟨by decide +kernel, rfl⟩
theorem D_Rd_readCommands_108 : xd m_Rd_readCommands 108 (.if_icmp .ge 7) 3 111 := ⟨by decide +kernel, rfl⟩
theorem D_Rd_readCommands_111 : xd m_Rd_readCommands 111 (.iconst 2) 1 112 := ⟨by decide +kernel, rfl⟩
theorem D_Rd_readCommands_112 : xd m_Rd_readCommands 112 (.goto 4) 3 115 := ⟨by decide +kernel, rfl⟩
theorem D_Rd_readCommands_115 : xd m_Rd_readCommands 115 (.iconst 0) 1 116 := ⟨by decide +kernel, rfl⟩
theorem D_Rd_readCommands_116 : xd m_Rd_readCommands 116 (.ireturn) 1 117 := ⟨by decide +kernel, rfl⟩
theorem D_Rd_bytesOfNumber_0 : xd m_Rd_bytesOfNumber 0 (.iconst 0) 1 1 := ⟨by decide +kernel, rfl⟩
theorem D_Rd_bytesOfNumber_1 : xd m_Rd_bytesOfNumber 1 (.istore_n 1) 1 2 := ⟨by decide +kernel, rfl⟩
theorem D_Rd_bytesOfNumber_2 : xd m_Rd_bytesOfNumber 2 (.iload_n 1) 1 3 := ⟨by decide +kernel, rfl⟩
theorem D_Rd_bytesOfNumber_3 : xd m_Rd_bytesOfNumber 3 (.getstatic 76) 3 6 := ⟨by decide +kernel, rfl⟩
theorem D_Rd_bytesOfNumber_6 : xd m_Rd_bytesOfNumber 6 (.arraylength) 1 7 := ⟨by decide +kernel, rfl⟩
theorem D_Rd_bytesOfNumber_7 : xd m_Rd_bytesOfNumber 7 (.if_icmp .ge 33) 3 10 := ⟨by decide +kernel, rfl⟩
theorem D_Rd_bytesOfNumber_10 : xd m_Rd_bytesOfNumber 10 (.getstatic 76) 3 13 := ⟨by decide +kernel, rfl⟩
theorem D_Rd_bytesOfNumber_13 : xd m_Rd_bytesOfNumber 13 (.iload_n 1) 1 14 := ⟨by decide +kernel, rfl⟩
theorem D_Rd_bytesOfNumber_14 : xd m_Rd_bytesOfNumber 14 (.iaload) 1 15 := ⟨by decide +kernel, rfl⟩
theorem D_Rd_bytesOfNumber_15 : xd m_Rd_bytesOfNumber 15 (.istore_n 2) 1 16 := ⟨by decide +kernel, rfl⟩
theorem D_Rd_bytesOfNumber_16 : xd m_Rd_bytesOfNumber 16 (.iload_n 0) 1 17 := ⟨by decide +kernel, rfl⟩
theorem D_Rd_bytesOfNumber_17 : xd m_Rd_bytesOfNumber 17 (.iload_n 2) 1 18 := ⟨by decide +kernel, rfl⟩
theorem D_Rd_bytesOfNumber_18 : xd m_Rd_bytesOfNumber 18 (.if_icmp .lt 16) 3 21 := ⟨by decide +kernel, rfl⟩
theorem D_Rd_bytesOfNumber_21 : xd m_Rd_bytesOfNumber 21 (.iload_n 0) 1 22 := ⟨by decide +kernel, rfl⟩
theorem D_Rd_bytesOfNumber_22 : xd m_Rd_bytesOfNumber 22 (.iload_n 2) 1 23 := ⟨by decide +kernel, rfl⟩
theorem D_Rd_bytesOfNumber_23 : xd m_Rd_bytesOfNumber 23 (.iconst 4) 1 24 := ⟨by decide +kernel, rfl⟩
theorem D_Rd_bytesOfNumber_24 : xd m_Rd_bytesOfNumber 24 (.iadd) 1 25 := ⟨by decide +kernel, rfl⟩
theorem D_Rd_bytesOfNumber_25 : xd m_Rd_bytesOfNumber 25 (.if_icmp .ge 9) 3 28 := ⟨by decide +kernel, rfl⟩
theorem D_Rd_bytesOfNumber_28 : xd m_Rd_bytesOfNumber 28 (.iload_n 0) 1 29 := ⟨by decide +kernel, rfl⟩
theorem D_Rd_bytesOfNumber_29 : xd m_Rd_bytesOfNumber 29 (.iload_n 2) 1 30 := ⟨by decide +kernel, rfl⟩
theorem D_Rd_bytesOfNumber_30 : xd m_Rd_bytesOfNumber 30 (.isub) 1 31 := ⟨by decide +kernel, rfl⟩
theorem D_Rd_bytesOfNumber_31 : xd m_Rd_bytesOfNumber 31 (.iconst 1) 1 32 := ⟨by decide +kernel, rfl⟩
theorem D_Rd_bytesOfNumber_32 : xd m_Rd_bytesOfNumber 32 (.iadd) 1 33 := ⟨by decide +kernel, rfl⟩
theorem D_Rd_bytesOfNumber_33 : xd m_Rd_bytesOfNumber 33 (.ireturn) 1 34 := ⟨by decide +kernel, rfl⟩
theorem D_Rd_bytesOfNumber_34 : xd m_Rd_bytesOfNumber 34 (.iinc 1 1) 3 37 := ⟨by decide +kernel, rfl⟩
theorem D_Rd_bytesOfNumber_37 : xd m_Rd_bytesOfNumber 37 (.goto (-35)) 3 40 := ⟨by decide +kernel, rfl⟩
theorem D_Rd_bytesOfNumber_40 : xd m_Rd_bytesOfNumber 40 (.iconst 0) 1 41 := ⟨by decide +kernel, rfl⟩
theorem D_Rd_bytesOfNumber_41 : xd m_Rd_bytesOfNumber 41 (.ireturn) 1 42 := ⟨by decide +kernel, rfl⟩
theorem D_Rd_bytesBehind_0 : xd m_Rd_bytesBehind 0 (.aload_n 0) 1 1 := ⟨by decide +kernel, rfl⟩
theorem D_Rd_bytesBehind_1 : xd m_Rd_bytesBehind 1 (.getfield 63) 3 4 := ⟨by decide +kernel, rfl⟩
theorem D_Rd_bytesBehind_4 : xd m_Rd_bytesBehind 4 (.aload_n 0) 1 5 := ⟨by decide +kernel, rfl⟩
theorem D_Rd_bytesBehind_5 : xd m_Rd_bytesBehind 5 (.invokevirtual 79) 3 8 := ⟨by decide +kernel, rfl⟩
theorem D_Rd_bytesBehind_8 : xd m_Rd_bytesBehind 8 (.iadd) 1 9 := ⟨by decide +kernel, rfl⟩
theorem D_Rd_bytesBehind_9 : xd m_Rd_bytesBehind 9 (.istore_n 1) 1 10 := ⟨by decide +kernel, rfl⟩
theorem D_Rd_bytesBehind_10 : xd m_Rd_bytesBehind 10 (.aload_n 0) 1 11 := ⟨by decide +kernel, rfl⟩
theorem D_Rd_bytesBehind_11 : xd m_Rd_bytesBehind 11 (.getfield 18) 3 14 := ⟨by decide +kernel, rfl⟩
theorem D_Rd_bytesBehind_14 : xd m_Rd_bytesBehind 14 (.invokevirtual 48) 3 17 := ⟨by decide +kernel, rfl⟩
theorem D_Rd_bytesBehind_17 : xd m_Rd_bytesBehind 17 (.aload_n 0) 1 18 := ⟨by decide +kernel, rfl⟩
theorem D_Rd_bytesBehind_18 : xd m_Rd_bytesBehind 18 (.getfield 39) 3 21 := ⟨by decide +kernel, rfl⟩
theorem D_Rd_bytesBehind_21 : xd m_Rd_bytesBehind 21 (.isub) 1 22 := ⟨by decide +kernel, rfl⟩
theorem D_Rd_bytesBehind_22 : xd m_Rd_bytesBehind 22 (.iconst 1) 1 23 := ⟨by decide +kernel, rfl⟩
theorem D_Rd_bytesBehind_23 : xd m_Rd_bytesBehind 23 (.isub) 1 24 := ⟨by decide +kernel, rfl⟩
theorem D_Rd_bytesBehind_24 : xd m_Rd_bytesBehind 24 (.istore_n 2) 1 25 := ⟨by decide +kernel, rfl⟩
theorem D_Rd_bytesBehind_25 : xd m_Rd_bytesBehind 25 (.iload_n 1) 1 26 := ⟨by decide +kernel, rfl⟩
theorem D_Rd_bytesBehind_26 : xd m_Rd_bytesBehind 26 (.iload_n 2) 1 27 := ⟨by decide +kernel, rfl⟩
theorem D_Rd_bytesBehind_27 : xd m_Rd_bytesBehind 27 (.if_icmp .le 5) 3 30 := ⟨by decide +kernel, rfl⟩
theorem D_Rd_bytesBehind_30 : xd m_Rd_bytesBehind 30 (.iconst (-1)) 1 31 := ⟨by decide +kernel, rfl⟩
theorem D_Rd_bytesBehind_31 : xd m_Rd_bytesBehind 31 (.ireturn) 1 32 := ⟨by decide +kernel, rfl⟩
theorem D_Rd_bytesBehind_32 : xd m_Rd_bytesBehind 32 (.aload_n 0) 1 33 := ⟨by decide +kernel, rfl⟩
theorem D_Rd_bytesBehind_33 : xd m_Rd_bytesBehind 33 (.aload_n 0) 1 34 := ⟨by decide +kernel, rfl⟩
theorem D_Rd_bytesBehind_34 : xd m_Rd_bytesBehind 34 (.getfield 39) 3 37 := ⟨by decide +kernel, rfl⟩
theorem D_Rd_bytesBehind_37 : xd m_Rd_bytesBehind 37 (.iconst 1) 1 38 := ⟨by decide +kernel, rfl⟩
theorem D_Rd_bytesBehind_38 : xd m_Rd_bytesBehind 38 (.iadd) 1 39 := ⟨by decide +kernel, rfl⟩
theorem D_Rd_bytesBehind_39 : xd m_Rd_bytesBehind 39 (.iload_n 1) 1 40 := ⟨by decide +kernel, rfl⟩
theorem D_Rd_bytesBehind_40 : xd m_Rd_bytesBehind 40 (.iadd) 1 41 := ⟨by decide +kernel, rfl⟩
theorem D_Rd_bytesBehind_41 : xd m_Rd_bytesBehind 41 (.invokevirtual 82) 3 44 := ⟨by decide +kernel, rfl⟩
theorem D_Rd_bytesBehind_44 : xd m_Rd_bytesBehind 44 (.istore_n 3) 1 45 := ⟨by decide +kernel, rfl⟩
theorem D_Rd_bytesBehind_45 : xd m_Rd_bytesBehind 45 (.iload_n 3) 1 46 := ⟨by decide +kernel, rfl⟩
theorem D_Rd_bytesBehind_46 : xd m_Rd_bytesBehind 46 (.ifCond .lt 10) 3 49 := ⟨by decide +kernel, rfl⟩
theorem D_Rd_bytesBehind_49 : xd m_Rd_bytesBehind 49 (.iload_n 3) 1 50 := ⟨by decide +kernel, rfl⟩
theorem D_Rd_bytesBehind_50 : xd m_Rd_bytesBehind 50 (.iload_n 2) 1 51 := ⟨by decide +kernel, rfl⟩
theorem D_Rd_bytesBehind_51 : xd m_Rd_bytesBehind 51 (.iload_n 1) 1 52 := ⟨by decide +kernel, rfl⟩
theorem D_Rd_bytesBehind_52 : xd m_Rd_bytesBehind 52 (.isub) 1 53 := ⟨by decide +kernel, rfl⟩
theorem D_Rd_bytesBehind_53 : xd m_Rd_bytesBehind 53 (.if_icmp .le 7) 3 56 := ⟨by decide +kernel, rfl⟩
theorem D_Rd_bytesBehind_56 : xd m_Rd_bytesBehind 56 (.iconst (-1)) 1 57 := ⟨by decide +kernel, rfl⟩
theorem D_Rd_bytesBehind_57 : xd m_Rd_bytesBehind 57 (.goto 6) 3 60 := ⟨by decide +kernel, rfl⟩
theorem D_Rd_bytesBehind_60 : xd m_Rd_bytesBehind 60 (.iload_n 1) 1 61 := ⟨by decide +kernel, rfl⟩
theorem D_Rd_bytesBehind_61 : xd m_Rd_bytesBehind 61 (.iload_n 3) 1 62 := ⟨by decide +kernel, rfl⟩
theorem D_Rd_bytesBehind_62 : xd m_Rd_bytesBehind 62 (.iadd) 1 63 := ⟨by decide +kernel, rfl⟩
theorem D_Rd_bytesBehind_63 : xd m_Rd_bytesBehind 63 (.ireturn) 1 64 := ⟨by decide +kernel, rfl⟩
theorem D_Rd_fixedBytes_0 : xd m_Rd_fixedBytes 0 (.aload_n 0) 1 1 := ⟨by decide +kernel, rfl⟩
theorem D_Rd_fixedBytes_1 : xd m_Rd_fixedBytes 1 (.getfield 57) 3 4 := ⟨by decide +kernel, rfl⟩
theorem D_Rd_fixedBytes_4 : xd m_Rd_fixedBytes 4 (.lookupswitch 74 #[(132, 60), (137, 60), (139, 63), (247, 66), (248, 69), (249, 72)]) 60 64 := ⟨by decide +kernel, rfl⟩
theorem D_Rd_fixedBytes_64 : xd m_Rd_fixedBytes 64 (.bipush 8) 2 66 := ⟨by decide +kernel, rfl⟩
theorem D_Rd_fixedBytes_66 : xd m_Rd_fixedBytes 66 (.ireturn) 1 67 := ⟨by decide +kernel, rfl⟩
theorem D_Rd_fixedBytes_67 : xd m_Rd_fixedBytes 67 (.bipush 44) 2 69 := ⟨by decide +kernel, rfl⟩
theorem D_Rd_fixedBytes_69 : xd m_Rd_fixedBytes 69 (.ireturn) 1 70 := ⟨by decide +kernel, rfl⟩
theorem D_Rd_fixedBytes_70 : xd m_Rd_fixedBytes 70 (.bipush 14) 2 72 := ⟨by decide +kernel, rfl⟩
theorem D_Rd_fixedBytes_72 : xd m_Rd_fixedBytes 72 (.ireturn) 1 73 := ⟨by decide +kernel, rfl⟩
theorem D_Rd_fixedBytes_73 : xd m_Rd_fixedBytes 73 (.bipush 28) 2 75 := ⟨by decide +kernel, rfl⟩
theorem D_Rd_fixedBytes_75 : xd m_Rd_fixedBytes 75 (.ireturn) 1 76 := ⟨by decide +kernel, rfl⟩
theorem D_Rd_fixedBytes_76 : xd m_Rd_fixedBytes 76 (.iconst 5) 1 77 := ⟨by decide +kernel, rfl⟩
theorem D_Rd_fixedBytes_77 : xd m_Rd_fixedBytes 77 (.ireturn) 1 78 := ⟨by decide +kernel, rfl⟩
theorem D_Rd_fixedBytes_78 : xd m_Rd_fixedBytes 78 (.aload_n 0) 1 79 := ⟨by decide +kernel, rfl⟩
theorem D_Rd_fixedBytes_79 : xd m_Rd_fixedBytes 79 (.invokevirtual 85) 3 82 := ⟨by decide +kernel, rfl⟩
theorem D_Rd_fixedBytes_82 : xd m_Rd_fixedBytes 82 (.ifCond .eq 8) 3 85 := ⟨by decide +kernel, rfl⟩
theorem D_Rd_fixedBytes_85 : xd m_Rd_fixedBytes 85 (.bipush 14) 2 87 := ⟨by decide +kernel, rfl⟩
theorem D_Rd_fixedBytes_87 : xd m_Rd_fixedBytes 87 (.goto 4) 3 90 := ⟨by decide +kernel, rfl⟩
theorem D_Rd_fixedBytes_90 : xd m_Rd_fixedBytes 90 (.iconst 0) 1 91 := ⟨by decide +kernel, rfl⟩
theorem D_Rd_fixedBytes_91 : xd m_Rd_fixedBytes 91 (.ireturn) 1 92 := ⟨by decide +kernel, rfl⟩
theorem D_Rd_bytesOfText_0 : xd m_Rd_bytesOfText 0 (.aload_n 0) 1 1 := ⟨by decide +kernel, rfl⟩
theorem D_Rd_bytesOfText_1 : xd m_Rd_bytesOfText 1 (.getfield 57) 3 4 := ⟨by decide +kernel, rfl⟩
theorem D_Rd_bytesOfText_4 : xd m_Rd_bytesOfText 4 (.sipush 239) 3 7 := ⟨by decide +kernel, rfl⟩
theorem D_Rd_bytesOfText_7 : xd m_Rd_bytesOfText 7 (.if_icmp .lt 31) 3 10 := ⟨by decide +kernel, rfl⟩
theorem D_Rd_bytesOfText_10 : xd m_Rd_bytesOfText 10 (.aload_n 0) 1 11 := ⟨by decide +kernel, rfl⟩
theorem D_Rd_bytesOfText_11 : xd m_Rd_bytesOfText 11 (.getfield 57) 3 14 := ⟨by decide +kernel, rfl⟩
theorem D_Rd_bytesOfText_14 : xd m_Rd_bytesOfText 14 (.sipush 242) 3 17 := ⟨by decide +kernel, rfl⟩
theorem D_Rd_bytesOfText_17 : xd m_Rd_bytesOfText 17 (.if_icmp .gt 21) 3 20 := ⟨by decide +kernel, rfl⟩
theorem D_Rd_bytesOfText_20 : xd m_Rd_bytesOfText 20 (.aload_n 0) 1 21 := ⟨by decide +kernel, rfl⟩
theorem D_Rd_bytesOfText_21 : xd m_Rd_bytesOfText 21 (.getfield 18) 3 24 := ⟨by decide +kernel, rfl⟩
theorem D_Rd_bytesOfText_24 : xd m_Rd_bytesOfText 24 (.iload_n 1) 1 25 := ⟨by decide +kernel, rfl⟩
theorem D_Rd_bytesOfText_25 : xd m_Rd_bytesOfText 25 (.aload_n 0) 1 26 := ⟨by decide +kernel, rfl⟩
theorem D_Rd_bytesOfText_26 : xd m_Rd_bytesOfText 26 (.getfield 63) 3 29 := ⟨by decide +kernel, rfl⟩
theorem D_Rd_bytesOfText_29 : xd m_Rd_bytesOfText 29 (.isub) 1 30 := ⟨by decide +kernel, rfl⟩
theorem D_Rd_bytesOfText_30 : xd m_Rd_bytesOfText 30 (.aload_n 0) 1 31 := ⟨by decide +kernel, rfl⟩
theorem D_Rd_bytesOfText_31 : xd m_Rd_bytesOfText 31 (.getfield 63) 3 34 := ⟨by decide +kernel, rfl⟩
theorem D_Rd_bytesOfText_34 : xd m_Rd_bytesOfText 34 (.invokevirtual 88) 3 37 := ⟨by decide +kernel, rfl⟩
theorem D_Rd_bytesOfText_37 : xd m_Rd_bytesOfText 37 (.ireturn) 1 38 := ⟨by decide +kernel, rfl⟩
theorem D_Rd_bytesOfText_38 : xd m_Rd_bytesOfText 38 (.aload_n 0) 1 39 := ⟨by decide +kernel, rfl⟩
theorem D_Rd_bytesOfText_39 : xd m_Rd_bytesOfText 39 (.invokevirtual 85) 3 42 := ⟨by decide +kernel, rfl⟩
theorem D_Rd_bytesOfText_42 : xd m_Rd_bytesOfText 42 (.ifCond .eq 25) 3 45 := ⟨by decide +kernel, rfl⟩
theorem D_Rd_bytesOfText_45 : xd m_Rd_bytesOfText 45 (.aload_n 0) 1 46 := ⟨by decide +kernel, rfl⟩
theorem D_Rd_bytesOfText_46 : xd m_Rd_bytesOfText 46 (.getfield 18) 3 49 := ⟨by decide +kernel, rfl⟩
theorem D_Rd_bytesOfText_49 : xd m_Rd_bytesOfText 49 (.iload_n 1) 1 50 := ⟨by decide +kernel, rfl⟩
theorem D_Rd_bytesOfText_50 : xd m_Rd_bytesOfText 50 (.iconst 2) 1 51 := ⟨by decide +kernel, rfl⟩
theorem D_Rd_bytesOfText_51 : xd m_Rd_bytesOfText 51 (.isub) 1 52 := ⟨by decide +kernel, rfl⟩
theorem D_Rd_bytesOfText_52 : xd m_Rd_bytesOfText 52 (.invokevirtual 54) 3 55 := ⟨by decide +kernel, rfl⟩
theorem D_Rd_bytesOfText_55 : xd m_Rd_bytesOfText 55 (.aload_n 0) 1 56 := ⟨by decide +kernel, rfl⟩
theorem D_Rd_bytesOfText_56 : xd m_Rd_bytesOfText 56 (.getfield 18) 3 59 := ⟨by decide +kernel, rfl⟩
theorem D_Rd_bytesOfText_59 : xd m_Rd_bytesOfText 59 (.iload_n 1) 1 60 := ⟨by decide +kernel, rfl⟩
theorem D_Rd_bytesOfText_60 : xd m_Rd_bytesOfText 60 (.iconst 1) 1 61 := ⟨by decide +kernel, rfl⟩
theorem D_Rd_bytesOfText_61 : xd m_Rd_bytesOfText 61 (.isub) 1 62 := ⟨by decide +kernel, rfl⟩
theorem D_Rd_bytesOfText_62 : xd m_Rd_bytesOfText 62 (.invokevirtual 54) 3 65 := ⟨by decide +kernel, rfl⟩
theorem D_Rd_bytesOfText_65 : xd m_Rd_bytesOfText 65 (.iadd) 1 66 := ⟨by decide +kernel, rfl⟩
theorem D_Rd_bytesOfText_66 : xd m_Rd_bytesOfText 66 (.ireturn) 1 67 := ⟨by decide +kernel, rfl⟩
theorem D_Rd_bytesOfText_67 : xd m_Rd_bytesOfText 67 (.aload_n 0) 1 68 := ⟨by decide +kernel, rfl⟩
theorem D_Rd_bytesOfText_68 : xd m_Rd_bytesOfText 68 (.getfield 57) 3 71 := ⟨by decide +kernel, rfl⟩
theorem D_Rd_bytesOfText_71 : xd m_Rd_bytesOfText 71 (.sipush 247) 3 74 := ⟨by decide +kernel, rfl⟩
theorem D_Rd_bytesOfText_74 : xd m_Rd_bytesOfText 74 (.if_icmp .ne 16) 3 77 := ⟨by decide +kernel, rfl⟩
theorem D_Rd_bytesOfText_77 : xd m_Rd_bytesOfText 77 (.aload_n 0) 1 78 := ⟨by decide +kernel, rfl⟩
theorem D_Rd_bytesOfText_78 : xd m_Rd_bytesOfText 78 (.getfield 18) 3 81 := ⟨by decide +kernel, rfl⟩
theorem D_Rd_bytesOfText_81 : xd m_Rd_bytesOfText 81 (.iload_n 1) 1 82 := ⟨by decide +kernel, rfl⟩
theorem D_Rd_bytesOfText_82 : xd m_Rd_bytesOfText 82 (.iconst 1) 1 83 := ⟨by decide +kernel, rfl⟩
theorem D_Rd_bytesOfText_83 : xd m_Rd_bytesOfText 83 (.isub) 1 84 := ⟨by decide +kernel, rfl⟩
theorem D_Rd_bytesOfText_84 : xd m_Rd_bytesOfText 84 (.invokevirtual 54) 3 87 := ⟨by decide +kernel, rfl⟩
theorem D_Rd_bytesOfText_87 : xd m_Rd_bytesOfText 87 (.goto 4) 3 90 := ⟨by decide +kernel, rfl⟩
theorem D_Rd_bytesOfText_90 : xd m_Rd_bytesOfText 90 (.iconst 0) 1 91 := ⟨by decide +kernel, rfl⟩
theorem D_Rd_bytesOfText_91 : xd m_Rd_bytesOfText 91 (.ireturn) 1 92 := ⟨by decide +kernel, rfl⟩
theorem D_Rd_isDefinition_0 : xd m_Rd_isDefinition 0 (.aload_n 0) 1 1 := ⟨by decide +kernel, rfl⟩
theorem D_Rd_isDefinition_1 : xd m_Rd_isDefinition 1 (.getfield 57) 3 4 := ⟨by decide +kernel, rfl⟩
theorem D_Rd_isDefinition_4 : xd m_Rd_isDefinition 4 (.sipush 243) 3 7 := ⟨by decide +kernel, rfl⟩
theorem D_Rd_isDefinition_7 : xd m_Rd_isDefinition 7 (.if_icmp .lt 17) 3 10 := ⟨by decide +kernel, rfl⟩
theorem D_Rd_isDefinition_10 : xd m_Rd_isDefinition 10 (.aload_n 0) 1 11 := ⟨by decide +kernel, rfl⟩
theorem D_Rd_isDefinition_11 : xd m_Rd_isDefinition 11 (.getfield 57) 3 14 := ⟨by decide +kernel, rfl⟩
theorem D_Rd_isDefinition_14 : xd m_Rd_isDefinition 14 (.sipush 246) 3 17 := ⟨by decide +kernel, rfl⟩
theorem D_Rd_isDefinition_17 : xd m_Rd_isDefinition 17 (.if_icmp .gt 7) 3 20 := ⟨by decide +kernel, rfl⟩
theorem D_Rd_isDefinition_20 : xd m_Rd_isDefinition 20 (.iconst 1) 1 21 := ⟨by decide +kernel, rfl⟩
theorem D_Rd_isDefinition_21 : xd m_Rd_isDefinition 21 (.goto 4) 3 24 := ⟨by decide +kernel, rfl⟩
theorem D_Rd_isDefinition_24 : xd m_Rd_isDefinition 24 (.iconst 0) 1 25 := ⟨by decide +kernel, rfl⟩
theorem D_Rd_isDefinition_25 : xd m_Rd_isDefinition 25 (.ireturn) 1 26 := ⟨by decide +kernel, rfl⟩
theorem D_Rd_canStand_0 : xd m_Rd_canStand 0 (.aload_n 0) 1 1 := ⟨by decide +kernel, rfl⟩
theorem D_Rd_canStand_1 : xd m_Rd_canStand 1 (.getfield 57) 3 4 := ⟨by decide +kernel, rfl⟩
theorem D_Rd_canStand_4 : xd m_Rd_canStand 4 (.sipush 138) 3 7 := ⟨by decide +kernel, rfl⟩
theorem D_Rd_canStand_7 : xd m_Rd_canStand 7 (.if_icmp .eq 10) 3 10 := ⟨by decide +kernel, rfl⟩
theorem D_Rd_canStand_10 : xd m_Rd_canStand 10 (.aload_n 0) 1 11 := ⟨by decide +kernel, rfl⟩
theorem D_Rd_canStand_11 : xd m_Rd_canStand 11 (.invokevirtual 85) 3 14 := ⟨by decide +kernel, rfl⟩
theorem D_Rd_canStand_14 : xd m_Rd_canStand 14 (.ifCond .eq 7) 3 17 := ⟨by decide +kernel, rfl⟩
theorem D_Rd_canStand_17 : xd m_Rd_canStand 17 (.iconst 1) 1 18 := ⟨by decide +kernel, rfl⟩
theorem D_Rd_canStand_18 : xd m_Rd_canStand 18 (.goto 4) 3 21 := ⟨by decide +kernel, rfl⟩
theorem D_Rd_canStand_21 : xd m_Rd_canStand 21 (.iconst 0) 1 22 := ⟨by decide +kernel, rfl⟩
theorem D_Rd_canStand_22 : xd m_Rd_canStand 22 (.istore_n 1) 1 23 := ⟨by decide +kernel, rfl⟩
theorem D_Rd_canStand_23 : xd m_Rd_canStand 23 (.aload_n 0) 1 24 := ⟨by decide +kernel, rfl⟩
theorem D_Rd_canStand_24 : xd m_Rd_canStand 24 (.getfield 35) 3 27 := ⟨by decide +kernel, rfl⟩
theorem D_Rd_canStand_27 : xd m_Rd_canStand 27 (.tableswitch 175 0 4 #[33, 66, 96, 122, 159]) 33 60 := ⟨by decide +kernel, rfl⟩
theorem D_Rd_canStand_60 : xd m_Rd_canStand 60 (.aload_n 0) 1 61 := ⟨by decide +kernel, rfl⟩
theorem D_Rd_canStand_61 : xd m_Rd_canStand 61 (.getfield 57) 3 64 := ⟨by decide +kernel, rfl⟩
theorem D_Rd_canStand_64 : xd m_Rd_canStand 64 (.sipush 247) 3 67 := ⟨by decide +kernel, rfl⟩
theorem D_Rd_canStand_67 : xd m_Rd_canStand 67 (.if_icmp .ne 24) 3 70 := ⟨by decide +kernel, rfl⟩
theorem D_Rd_canStand_70 : xd m_Rd_canStand 70 (.aload_n 0) 1 71 := ⟨by decide +kernel, rfl⟩
theorem D_Rd_canStand_71 : xd m_Rd_canStand 71 (.getfield 18) 3 74 := ⟨by decide +kernel, rfl⟩
theorem D_Rd_canStand_74 : xd m_Rd_canStand 74 (.aload_n 0) 1 75 := ⟨by decide +kernel, rfl⟩
theorem D_Rd_canStand_75 : xd m_Rd_canStand 75 (.getfield 39) 3 78 := ⟨by decide +kernel, rfl⟩
theorem D_Rd_canStand_78 : xd m_Rd_canStand 78 (.iconst 1) 1 79 := ⟨by decide +kernel, rfl⟩
theorem D_Rd_canStand_79 : xd m_Rd_canStand 79 (.iadd) 1 80 := ⟨by decide +kernel, rfl⟩
theorem D_Rd_canStand_80 : xd m_Rd_canStand 80 (.invokevirtual 54) 3 83 := ⟨by decide +kernel, rfl⟩
theorem D_Rd_canStand_83 : xd m_Rd_canStand 83 (.iconst 2) 1 84 := ⟨by decide +kernel, rfl⟩
theorem D_Rd_canStand_84 : xd m_Rd_canStand 84 (.if_icmp .ne 7) 3 87 := ⟨by decide +kernel, rfl⟩
theorem D_Rd_canStand_87 : xd m_Rd_canStand 87 (.iconst 1) 1 88 := ⟨by decide +kernel, rfl⟩
theorem D_Rd_canStand_88 : xd m_Rd_canStand 88 (.goto 4) 3 91 := ⟨by decide +kernel, rfl⟩
theorem D_Rd_canStand_91 : xd m_Rd_canStand 91 (.iconst 0) 1 92 := ⟨by decide +kernel, rfl⟩
theorem D_Rd_canStand_92 : xd m_Rd_canStand 92 (.ireturn) 1 93 := ⟨by decide +kernel, rfl⟩
theorem D_Rd_canStand_93 : xd m_Rd_canStand 93 (.iload_n 1) 1 94 := ⟨by decide +kernel, rfl⟩
theorem D_Rd_canStand_94 : xd m_Rd_canStand 94 (.ifCond .ne 23) 3 97 := ⟨by decide +kernel, rfl⟩
theorem D_Rd_canStand_97 : xd m_Rd_canStand 97 (.aload_n 0) 1 98 := ⟨by decide +kernel, rfl⟩
theorem D_Rd_canStand_98 : xd m_Rd_canStand 98 (.getfield 57) 3 101 := ⟨by decide +kernel, rfl⟩
theorem D_Rd_canStand_101 : xd m_Rd_canStand 101 (.sipush 139) 3 104 := ⟨by decide +kernel, rfl⟩
theorem D_Rd_canStand_104 : xd m_Rd_canStand 104 (.if_icmp .eq 13) 3 107 := ⟨by decide +kernel, rfl⟩
theorem D_Rd_canStand_107 : xd m_Rd_canStand 107 (.aload_n 0) 1 108 := ⟨by decide +kernel, rfl⟩
theorem D_Rd_canStand_108 : xd m_Rd_canStand 108 (.getfield 57) 3 111 := ⟨by decide +kernel, rfl⟩
theorem D_Rd_canStand_111 : xd m_Rd_canStand 111 (.sipush 248) 3 114 := ⟨by decide +kernel, rfl⟩
theorem D_Rd_canStand_114 : xd m_Rd_canStand 114 (.if_icmp .ne 7) 3 117 := ⟨by decide +kernel, rfl⟩
theorem D_Rd_canStand_117 : xd m_Rd_canStand 117 (.iconst 1) 1 118 := ⟨by decide +kernel, rfl⟩
theorem D_Rd_canStand_118 : xd m_Rd_canStand 118 (.goto 4) 3 121 := ⟨by decide +kernel, rfl⟩
theorem D_Rd_canStand_121 : xd m_Rd_canStand 121 (.iconst 0) 1 122 := ⟨by decide +kernel, rfl⟩
theorem D_Rd_canStand_122 : xd m_Rd_canStand 122 (.ireturn) 1 123 := ⟨by decide +kernel, rfl⟩
theorem D_Rd_canStand_123 : xd m_Rd_canStand 123 (.aload_n 0) 1 124 := ⟨by decide +kernel, rfl⟩
theorem D_Rd_canStand_124 : xd m_Rd_canStand 124 (.getfield 57) 3 127 := ⟨by decide +kernel, rfl⟩
theorem D_Rd_canStand_127 : xd m_Rd_canStand 127 (.sipush 247) 3 130 := ⟨by decide +kernel, rfl⟩
theorem D_Rd_canStand_130 : xd m_Rd_canStand 130 (.if_icmp .ge 17) 3 133 := ⟨by decide +kernel, rfl⟩
theorem D_Rd_canStand_133 : xd m_Rd_canStand 133 (.aload_n 0) 1 134 := ⟨by decide +kernel, rfl⟩
theorem D_Rd_canStand_134 : xd m_Rd_canStand 134 (.getfield 57) 3 137 := ⟨by decide +kernel, rfl⟩
theorem D_Rd_canStand_137 : xd m_Rd_canStand 137 (.sipush 139) 3 140 := ⟨by decide +kernel, rfl⟩
theorem D_Rd_canStand_140 : xd m_Rd_canStand 140 (.if_icmp .eq 7) 3 143 := ⟨by decide +kernel, rfl⟩
theorem D_Rd_canStand_143 : xd m_Rd_canStand 143 (.iconst 1) 1 144 := ⟨by decide +kernel, rfl⟩
theorem D_Rd_canStand_144 : xd m_Rd_canStand 144 (.goto 4) 3 147 := ⟨by decide +kernel, rfl⟩
theorem D_Rd_canStand_147 : xd m_Rd_canStand 147 (.iconst 0) 1 148 := ⟨by decide +kernel, rfl⟩
theorem D_Rd_canStand_148 : xd m_Rd_canStand 148 (.ireturn) 1 149 := ⟨by decide +kernel, rfl⟩
theorem D_Rd_canStand_149 : xd m_Rd_canStand 149 (.iload_n 1) 1 150 := ⟨by decide +kernel, rfl⟩
theorem D_Rd_canStand_150 : xd m_Rd_canStand 150 (.ifCond .ne 30) 3 153 := ⟨by decide +kernel, rfl⟩
theorem D_Rd_canStand_153 : xd m_Rd_canStand 153 (.aload_n 0) 1 154 := ⟨by decide +kernel, rfl⟩
theorem D_Rd_canStand_154 : xd m_Rd_canStand 154 (.getfield 57) 3 157 := ⟨by decide +kernel, rfl⟩
theorem D_Rd_canStand_157 : xd m_Rd_canStand 157 (.sipush 249) 3 160 := ⟨by decide +kernel, rfl⟩
theorem D_Rd_canStand_160 : xd m_Rd_canStand 160 (.if_icmp .ne 24) 3 163 := ⟨by decide +kernel, rfl⟩
theorem D_Rd_canStand_163 : xd m_Rd_canStand 163 (.aload_n 0) 1 164 := ⟨by decide +kernel, rfl⟩
theorem D_Rd_canStand_164 : xd m_Rd_canStand 164 (.getfield 18) 3 167 := ⟨by decide +kernel, rfl⟩
theorem D_Rd_canStand_167 : xd m_Rd_canStand 167 (.aload_n 0) 1 168 := ⟨by decide +kernel, rfl⟩
theorem D_Rd_canStand_168 : xd m_Rd_canStand 168 (.getfield 39) 3 171 := ⟨by decide +kernel, rfl⟩
theorem D_Rd_canStand_171 : xd m_Rd_canStand 171 (.iconst 5) 1 172 := ⟨by decide +kernel, rfl⟩
theorem D_Rd_canStand_172 : xd m_Rd_canStand 172 (.iadd) 1 173 := ⟨by decide +kernel, rfl⟩
theorem D_Rd_canStand_173 : xd m_Rd_canStand 173 (.invokevirtual 54) 3 176 := ⟨by decide +kernel, rfl⟩
theorem D_Rd_canStand_176 : xd m_Rd_canStand 176 (.iconst 2) 1 177 := ⟨by decide +kernel, rfl⟩
theorem D_Rd_canStand_177 : xd m_Rd_canStand 177 (.if_icmp .ne 7) 3 180 := ⟨by decide +kernel, rfl⟩
theorem D_Rd_canStand_180 : xd m_Rd_canStand 180 (.iconst 1) 1 181 := ⟨by decide +kernel, rfl⟩
theorem D_Rd_canStand_181 : xd m_Rd_canStand 181 (.goto 4) 3 184 := ⟨by decide +kernel, rfl⟩
theorem D_Rd_canStand_184 : xd m_Rd_canStand 184 (.iconst 0) 1 185 := ⟨by decide +kernel, rfl⟩
theorem D_Rd_canStand_185 : xd m_Rd_canStand 185 (.ireturn) 1 186 := ⟨by decide +kernel, rfl⟩
theorem D_Rd_canStand_186 : xd m_Rd_canStand 186 (.aload_n 0) 1 187 := ⟨by decide +kernel, rfl⟩
theorem D_Rd_canStand_187 : xd m_Rd_canStand 187 (.getfield 57) 3 190 := ⟨by decide +kernel, rfl⟩
theorem D_Rd_canStand_190 : xd m_Rd_canStand 190 (.sipush 223) 3 193 := ⟨by decide +kernel, rfl⟩
theorem D_Rd_canStand_193 : xd m_Rd_canStand 193 (.if_icmp .ne 7) 3 196 := ⟨by decide +kernel, rfl⟩
theorem D_Rd_canStand_196 : xd m_Rd_canStand 196 (.iconst 1) 1 197 := ⟨by decide +kernel, rfl⟩
theorem D_Rd_canStand_197 : xd m_Rd_canStand 197 (.goto 4) 3 200 := ⟨by decide +kernel, rfl⟩
theorem D_Rd_canStand_200 : xd m_Rd_canStand 200 (.iconst 0) 1 201 := ⟨by decide +kernel, rfl⟩
theorem D_Rd_canStand_201 : xd m_Rd_canStand 201 (.ireturn) 1 202 := ⟨by decide +kernel, rfl⟩
theorem D_Rd_canStand_202 : xd m_Rd_canStand 202 (.iconst 0) 1 203 := ⟨by decide +kernel, rfl⟩
theorem D_Rd_canStand_203 : xd m_Rd_canStand 203 (.ireturn) 1 204 := ⟨by decide +kernel, rfl⟩
theorem D_Rd_obey_0 : xd m_Rd_obey 0 (.aload_n 0) 1 1 := ⟨by decide +kernel, rfl⟩
theorem D_Rd_obey_1 : xd m_Rd_obey 1 (.getfield 35) 3 4 := ⟨by decide +kernel, rfl⟩
theorem D_Rd_obey_4 : xd m_Rd_obey 4 (.iconst 4) 1 5 := ⟨by decide +kernel, rfl⟩
theorem D_Rd_obey_5 : xd m_Rd_obey 5 (.if_icmp .ne 15) 3 8 := ⟨by decide +kernel, rfl⟩
theorem D_Rd_obey_8 : xd m_Rd_obey 8 (.aload_n 0) 1 9 := ⟨by decide +kernel, rfl⟩
theorem D_Rd_obey_9 : xd m_Rd_obey 9 (.dup) 1 10 := ⟨by decide +kernel, rfl⟩
theorem D_Rd_obey_10 : xd m_Rd_obey 10 (.getfield 45) 3 13 := ⟨by decide +kernel, rfl⟩
theorem D_Rd_obey_13 : xd m_Rd_obey 13 (.iconst 1) 1 14 := ⟨by decide +kernel, rfl⟩
theorem D_Rd_obey_14 : xd m_Rd_obey 14 (.iadd) 1 15 := ⟨by decide +kernel, rfl⟩
theorem D_Rd_obey_15 : xd m_Rd_obey 15 (.putfield 45) 3 18 := ⟨by decide +kernel, rfl⟩
theorem D_Rd_obey_18 : xd m_Rd_obey 18 (.iconst 0) 1 19 := ⟨by decide +kernel, rfl⟩
theorem D_Rd_obey_19 : xd m_Rd_obey 19 (.ireturn) 1 20 := ⟨by decide +kernel, rfl⟩
theorem D_Rd_obey_20 : xd m_Rd_obey 20 (.aload_n 0) 1 21 := ⟨by decide +kernel, rfl⟩
theorem D_Rd_obey_21 : xd m_Rd_obey 21 (.getfield 57) 3 24 := ⟨by decide +kernel, rfl⟩
theorem D_Rd_obey_24 : xd m_Rd_obey 24 (.sipush 143) 3 27 := ⟨by decide +kernel, rfl⟩
theorem D_Rd_obey_27 : xd m_Rd_obey 27 (.if_icmp .lt 18) 3 30 := ⟨by decide +kernel, rfl⟩
theorem D_Rd_obey_30 : xd m_Rd_obey 30 (.aload_n 0) 1 31 := ⟨by decide +kernel, rfl⟩
theorem D_Rd_obey_31 : xd m_Rd_obey 31 (.getfield 57) 3 34 := ⟨by decide +kernel, rfl⟩
theorem D_Rd_obey_34 : xd m_Rd_obey 34 (.sipush 171) 3 37 := ⟨by decide +kernel, rfl⟩
theorem D_Rd_obey_37 : xd m_Rd_obey 37 (.if_icmp .ge 8) 3 40 := ⟨by decide +kernel, rfl⟩
theorem D_Rd_obey_40 : xd m_Rd_obey 40 (.aload_n 0) 1 41 := ⟨by decide +kernel, rfl⟩
theorem D_Rd_obey_41 : xd m_Rd_obey 41 (.invokevirtual 92) 3 44 := ⟨by decide +kernel, rfl⟩
theorem D_Rd_obey_44 : xd m_Rd_obey 44 (.ireturn) 1 45 := ⟨by decide +kernel, rfl⟩
theorem D_Rd_obey_45 : xd m_Rd_obey 45 (.aload_n 0) 1 46 := ⟨by decide +kernel, rfl⟩
theorem D_Rd_obey_46 : xd m_Rd_obey 46 (.getfield 57) 3 49 := ⟨by decide +kernel, rfl⟩
theorem D_Rd_obey_49 : xd m_Rd_obey 49 (.sipush 171) 3 52 := ⟨by decide +kernel, rfl⟩
theorem D_Rd_obey_52 : xd m_Rd_obey 52 (.if_icmp .lt 18) 3 55 := ⟨by decide +kernel, rfl⟩
theorem D_Rd_obey_55 : xd m_Rd_obey 55 (.aload_n 0) 1 56 := ⟨by decide +kernel, rfl⟩
theorem D_Rd_obey_56 : xd m_Rd_obey 56 (.getfield 57) 3 59 := ⟨by decide +kernel, rfl⟩
theorem D_Rd_obey_59 : xd m_Rd_obey 59 (.sipush 238) 3 62 := ⟨by decide +kernel, rfl⟩
theorem D_Rd_obey_62 : xd m_Rd_obey 62 (.if_icmp .gt 8) 3 65 := ⟨by decide +kernel, rfl⟩
theorem D_Rd_obey_65 : xd m_Rd_obey 65 (.aload_n 0) 1 66 := ⟨by decide +kernel, rfl⟩
theorem D_Rd_obey_66 : xd m_Rd_obey 66 (.invokevirtual 95) 3 69 := ⟨by decide +kernel, rfl⟩
theorem D_Rd_obey_69 : xd m_Rd_obey 69 (.ireturn) 1 70 := ⟨by decide +kernel, rfl⟩
theorem D_Rd_obey_70 : xd m_Rd_obey 70 (.aload_n 0) 1 71 := ⟨by decide +kernel, rfl⟩
theorem D_Rd_obey_71 : xd m_Rd_obey 71 (.invokevirtual 85) 3 74 := ⟨by decide +kernel, rfl⟩
theorem D_Rd_obey_74 : xd m_Rd_obey 74 (.ifCond .eq 8) 3 77 := ⟨by decide +kernel, rfl⟩
theorem D_Rd_obey_77 : xd m_Rd_obey 77 (.aload_n 0) 1 78 := ⟨by decide +kernel, rfl⟩
theorem D_Rd_obey_78 : xd m_Rd_obey 78 (.invokevirtual 98) 3 81 := ⟨by decide +kernel, rfl⟩
theorem D_Rd_obey_81 : xd m_Rd_obey 81 (.ireturn) 1 82 := ⟨by decide +kernel, rfl⟩
theorem D_Rd_obey_82 : xd m_Rd_obey 82 (.aload_n 0) 1 83 := ⟨by decide +kernel, rfl⟩
theorem D_Rd_obey_83 : xd m_Rd_obey 83 (.getfield 57) 3 86 := ⟨by decide +kernel, rfl⟩
theorem D_Rd_obey_86 : xd m_Rd_obey 86 (.lookupswitch 186 #[(132, 82), (137, 82), (139, 87), (140, 92), (141, 110), (142, 115), (247, 120), (248, 149), (249, 154)]) 82 168 := ⟨by decide +kernel, rfl⟩
theorem D_Rd_obey_168 : xd m_Rd_obey 168 (.aload_n 0) 1 169 := ⟨by decide +kernel, rfl⟩
theorem D_Rd_obey_169 : xd m_Rd_obey 169 (.invokevirtual 101) 3 172 := ⟨by decide +kernel, rfl⟩
theorem D_Rd_obey_172 : xd m_Rd_obey 172 (.ireturn) 1 173 := ⟨by decide +kernel, rfl⟩
theorem D_Rd_obey_173 : xd m_Rd_obey 173 (.aload_n 0) 1 174 := ⟨by decide +kernel, rfl⟩
theorem D_Rd_obey_174 : xd m_Rd_obey 174 (.invokevirtual 104) 3 177 := ⟨by decide +kernel, rfl⟩
theorem D_Rd_obey_177 : xd m_Rd_obey 177 (.ireturn) 1 178 := ⟨by decide +kernel, rfl⟩
theorem D_Rd_obey_178 : xd m_Rd_obey 178 (.aload_n 0) 1 179 := ⟨by decide +kernel, rfl⟩
theorem D_Rd_obey_179 : xd m_Rd_obey 179 (.iconst 1) 1 180 := ⟨by decide +kernel, rfl⟩
theorem D_Rd_obey_180 : xd m_Rd_obey 180 (.putfield 35) 3 183 := ⟨by decide +kernel, rfl⟩
theorem D_Rd_obey_183 : xd m_Rd_obey 183 (.aload_n 0) 1 184 := ⟨by decide +kernel, rfl⟩
theorem D_Rd_obey_184 : xd m_Rd_obey 184 (.getfield 107) 3 187 := ⟨by decide +kernel, rfl⟩
theorem D_Rd_obey_187 : xd m_Rd_obey 187 (.ifCond .le 7) 3 190 := ⟨by decide +kernel, rfl⟩
theorem D_Rd_obey_190 : xd m_Rd_obey 190 (.iconst 4) 1 191 := ⟨by decide +kernel, rfl⟩
theorem D_Rd_obey_191 : xd m_Rd_obey 191 (.goto 4) 3 194 := ⟨by decide +kernel, rfl⟩
theorem D_Rd_obey_194 : xd m_Rd_obey 194 (.iconst 0) 1 195 := ⟨by decide +kernel, rfl⟩
theorem D_Rd_obey_195 : xd m_Rd_obey 195 (.ireturn) 1 196 := ⟨by decide +kernel, rfl⟩
theorem D_Rd_obey_196 : xd m_Rd_obey 196 (.aload_n 0) 1 197 := ⟨by decide +kernel, rfl⟩
theorem D_Rd_obey_197 : xd m_Rd_obey 197 (.invokevirtual 110) 3 200 := ⟨by decide +kernel, rfl⟩
theorem D_Rd_obey_200 : xd m_Rd_obey 200 (.ireturn) 1 201 := ⟨by decide +kernel, rfl⟩
theorem D_Rd_obey_201 : xd m_Rd_obey 201 (.aload_n 0) 1 202 := ⟨by decide +kernel, rfl⟩
theorem D_Rd_obey_202 : xd m_Rd_obey 202 (.invokevirtual 113) 3 205 := ⟨by decide +kernel, rfl⟩
theorem D_Rd_obey_205 : xd m_Rd_obey 205 (.ireturn) 1 206 := ⟨by decide +kernel, rfl⟩
theorem D_Rd_obey_206 : xd m_Rd_obey 206 (.aload_n 0) 1 207 := ⟨by decide +kernel, rfl⟩
theorem D_Rd_obey_207 : xd m_Rd_obey 207 (.iconst 1) 1 208 := ⟨by decide +kernel, rfl⟩
theorem D_Rd_obey_208 : xd m_Rd_obey 208 (.putfield 35) 3 211 := ⟨by decide +kernel, rfl⟩
theorem D_Rd_obey_211 : xd m_Rd_obey 211 (.aload_n 0) 1 212 := ⟨by decide +kernel, rfl⟩
theorem D_Rd_obey_212 : xd m_Rd_obey 212 (.getfield 26) 3 215 := ⟨by decide +kernel, rfl⟩
theorem D_Rd_obey_215 : xd m_Rd_obey 215 (.aload_n 0) 1 216 := ⟨by decide +kernel, rfl⟩
theorem D_Rd_obey_216 : xd m_Rd_obey 216 (.getfield 18) 3 219 := ⟨by decide +kernel, rfl⟩
theorem D_Rd_obey_219 : xd m_Rd_obey 219 (.aload_n 0) 1 220 := ⟨by decide +kernel, rfl⟩
theorem D_Rd_obey_220 : xd m_Rd_obey 220 (.getfield 39) 3 223 := ⟨by decide +kernel, rfl⟩
theorem D_Rd_obey_223 : xd m_Rd_obey 223 (.bipush 10) 2 225 := ⟨by decide +kernel, rfl⟩
theorem D_Rd_obey_225 : xd m_Rd_obey 225 (.iadd) 1 226 := ⟨by decide +kernel, rfl⟩
theorem D_Rd_obey_226 : xd m_Rd_obey 226 (.iconst 4) 1 227 := ⟨by decide +kernel, rfl⟩
theorem D_Rd_obey_227 : xd m_Rd_obey 227 (.invokevirtual 88) 3 230 := ⟨by decide +kernel, rfl⟩
theorem D_Rd_obey_230 : xd m_Rd_obey 230 (.putfield 116) 3 233 := ⟨by decide +kernel, rfl⟩
theorem D_Rd_obey_233 : xd m_Rd_obey 233 (.iconst 0) 1 234 := ⟨by decide +kernel, rfl⟩
theorem D_Rd_obey_234 : xd m_Rd_obey 234 (.ireturn) 1 235 := ⟨by decide +kernel, rfl⟩
theorem D_Rd_obey_235 : xd m_Rd_obey 235 (.aload_n 0) 1 236 := ⟨by decide +kernel, rfl⟩
theorem D_Rd_obey_236 : xd m_Rd_obey 236 (.invokevirtual 119) 3 239 := ⟨by decide +kernel, rfl⟩
theorem D_Rd_obey_239 : xd m_Rd_obey 239 (.ireturn) 1 240 := ⟨by decide +kernel, rfl⟩
theorem D_Rd_obey_240 : xd m_Rd_obey 240 (.aload_n 0) 1 241 := ⟨by decide +kernel, rfl⟩
theorem D_Rd_obey_241 : xd m_Rd_obey 241 (.iconst 4) 1 242 := ⟨by decide +kernel, rfl⟩
theorem D_Rd_obey_242 : xd m_Rd_obey 242 (.putfield 35) 3 245 := ⟨by decide +kernel, rfl⟩
theorem D_Rd_obey_245 : xd m_Rd_obey 245 (.aload_n 0) 1 246 := ⟨by decide +kernel, rfl⟩
theorem D_Rd_obey_246 : xd m_Rd_obey 246 (.getfield 18) 3 249 := ⟨by decide +kernel, rfl⟩
theorem D_Rd_obey_249 : xd m_Rd_obey 249 (.aload_n 0) 1 250 := ⟨by decide +kernel, rfl⟩
theorem D_Rd_obey_250 : xd m_Rd_obey 250 (.getfield 39) 3 253 := ⟨by decide +kernel, rfl⟩
theorem D_Rd_obey_253 : xd m_Rd_obey 253 (.iconst 1) 1 254 := ⟨by decide +kernel, rfl⟩
theorem D_Rd_obey_254 : xd m_Rd_obey 254 (.iadd) 1 255 := ⟨by decide +kernel, rfl⟩
theorem D_Rd_obey_255 : xd m_Rd_obey 255 (.iconst 4) 1 256 := ⟨by decide +kernel, rfl⟩
theorem D_Rd_obey_256 : xd m_Rd_obey 256 (.invokevirtual 88) 3 259 := ⟨by decide +kernel, rfl⟩
theorem D_Rd_obey_259 : xd m_Rd_obey 259 (.aload_n 0) 1 260 := ⟨by decide +kernel, rfl⟩
theorem D_Rd_obey_260 : xd m_Rd_obey 260 (.getfield 122) 3 263 := ⟨by decide +kernel, rfl⟩
theorem D_Rd_obey_263 : xd m_Rd_obey 263 (.if_icmp .ne 7) 3 266 := ⟨by decide +kernel, rfl⟩
theorem D_Rd_obey_266 : xd m_Rd_obey 266 (.iconst 0) 1 267 := ⟨by decide +kernel, rfl⟩
theorem D_Rd_obey_267 : xd m_Rd_obey 267 (.goto 4) 3 270 := ⟨by decide +kernel, rfl⟩
theorem D_Rd_obey_270 : xd m_Rd_obey 270 (.iconst 5) 1 271 := ⟨by decide +kernel, rfl⟩
theorem D_Rd_obey_271 : xd m_Rd_obey 271 (.ireturn) 1 272 := ⟨by decide +kernel, rfl⟩
theorem D_Rd_obey_272 : xd m_Rd_obey 272 (.aload_n 0) 1 273 := ⟨by decide +kernel, rfl⟩
theorem D_Rd_obey_273 : xd m_Rd_obey 273 (.getfield 57) 3 276 := ⟨by decide +kernel, rfl⟩
theorem D_Rd_obey_276 : xd m_Rd_obey 276 (.sipush 136) 3 279 := ⟨by decide +kernel, rfl⟩
theorem D_Rd_obey_279 : xd m_Rd_obey 279 (.if_icmp .gt 10) 3 282 := ⟨by decide +kernel, rfl⟩
theorem D_Rd_obey_282 : xd m_Rd_obey 282 (.aload_n 0) 1 283 := ⟨by decide +kernel, rfl⟩
theorem D_Rd_obey_283 : xd m_Rd_obey 283 (.invokevirtual 125) 3 286 := ⟨by decide +kernel, rfl⟩
theorem D_Rd_obey_286 : xd m_Rd_obey 286 (.goto 4) 3 289 := ⟨by decide +kernel, rfl⟩
theorem D_Rd_obey_289 : xd m_Rd_obey 289 (.iconst 0) 1 290 := ⟨by decide +kernel, rfl⟩
theorem D_Rd_obey_290 : xd m_Rd_obey 290 (.ireturn) 1 291 := ⟨by decide +kernel, rfl⟩
theorem D_Rd_obeyCharacter_0 : xd m_Rd_obeyCharacter 0 (.aload_n 0) 1 1 := ⟨by decide +kernel, rfl⟩
theorem D_Rd_obeyCharacter_1 : xd m_Rd_obeyCharacter 1 (.getfield 128) 3 4 := ⟨by decide +kernel, rfl⟩
theorem D_Rd_obeyCharacter_4 : xd m_Rd_obeyCharacter 4 (.iconst (-1)) 1 5 := ⟨by decide +kernel, rfl⟩
theorem D_Rd_obeyCharacter_5 : xd m_Rd_obeyCharacter 5 (.if_icmp .ne 6) 3 8 := ⟨by decide +kernel, rfl⟩
theorem D_Rd_obeyCharacter_8 : xd m_Rd_obeyCharacter 8 (.bipush 7) 2 10 := ⟨by decide +kernel, rfl⟩
theorem D_Rd_obeyCharacter_10 : xd m_Rd_obeyCharacter 10 (.ireturn) 1 11 := ⟨by decide +kernel, rfl⟩
theorem D_Rd_obeyCharacter_11 : xd m_Rd_obeyCharacter 11 (.aload_n 0) 1 12 := ⟨by decide +kernel, rfl⟩
theorem D_Rd_obeyCharacter_12 : xd m_Rd_obeyCharacter 12 (.getfield 26) 3 15 := ⟨by decide +kernel, rfl⟩
theorem D_Rd_obeyCharacter_15 : xd m_Rd_obeyCharacter 15 (.aload_n 0) 1 16 := ⟨by decide +kernel, rfl⟩
theorem D_Rd_obeyCharacter_16 : xd m_Rd_obeyCharacter 16 (.getfield 128) 3 19 := ⟨by decide +kernel, rfl⟩
theorem D_Rd_obeyCharacter_19 : xd m_Rd_obeyCharacter 19 (.iconst 0) 1 20 := ⟨by decide +kernel, rfl⟩
theorem D_Rd_obeyCharacter_20 : xd m_Rd_obeyCharacter 20 (.invokevirtual 131) 3 23 := ⟨by decide +kernel, rfl⟩
theorem D_Rd_obeyCharacter_23 : xd m_Rd_obeyCharacter 23 (.istore_n 1) 1 24 := ⟨by decide +kernel, rfl⟩
theorem D_Rd_obeyCharacter_24 : xd m_Rd_obeyCharacter 24 (.aload_n 0) 1 25 := ⟨by decide +kernel, rfl⟩
theorem D_Rd_obeyCharacter_25 : xd m_Rd_obeyCharacter 25 (.getfield 63) 3 28 := ⟨by decide +kernel, rfl⟩
theorem D_Rd_obeyCharacter_28 : xd m_Rd_obeyCharacter 28 (.ifCond .le 23) 3 31 := ⟨by decide +kernel, rfl⟩
theorem D_Rd_obeyCharacter_31 : xd m_Rd_obeyCharacter 31 (.aload_n 0) 1 32 := ⟨by decide +kernel, rfl⟩
theorem D_Rd_obeyCharacter_32 : xd m_Rd_obeyCharacter 32 (.getfield 18) 3 35 := ⟨by decide +kernel, rfl⟩
theorem D_Rd_obeyCharacter_35 : xd m_Rd_obeyCharacter 35 (.aload_n 0) 1 36 := ⟨by decide +kernel, rfl⟩
theorem D_Rd_obeyCharacter_36 : xd m_Rd_obeyCharacter 36 (.getfield 39) 3 39 := ⟨by decide +kernel, rfl⟩
theorem D_Rd_obeyCharacter_39 : xd m_Rd_obeyCharacter 39 (.iconst 1) 1 40 := ⟨by decide +kernel, rfl⟩
theorem D_Rd_obeyCharacter_40 : xd m_Rd_obeyCharacter 40 (.iadd) 1 41 := ⟨by decide +kernel, rfl⟩
theorem D_Rd_obeyCharacter_41 : xd m_Rd_obeyCharacter 41 (.aload_n 0) 1 42 := ⟨by decide +kernel, rfl⟩
theorem D_Rd_obeyCharacter_42 : xd m_Rd_obeyCharacter 42 (.getfield 63) 3 45 := ⟨by decide +kernel, rfl⟩
theorem D_Rd_obeyCharacter_45 : xd m_Rd_obeyCharacter 45 (.invokevirtual 88) 3 48 := ⟨by decide +kernel, rfl⟩
theorem D_Rd_obeyCharacter_48 : xd m_Rd_obeyCharacter 48 (.goto 7) 3 51 := ⟨by decide +kernel, rfl⟩
theorem D_Rd_obeyCharacter_51 : xd m_Rd_obeyCharacter 51 (.aload_n 0) 1 52 := ⟨by decide +kernel, rfl⟩
theorem D_Rd_obeyCharacter_52 : xd m_Rd_obeyCharacter 52 (.getfield 57) 3 55 := ⟨by decide +kernel, rfl⟩
theorem D_Rd_obeyCharacter_55 : xd m_Rd_obeyCharacter 55 (.istore_n 2) 1 56 := ⟨by decide +kernel, rfl⟩
theorem D_Rd_obeyCharacter_56 : xd m_Rd_obeyCharacter 56 (.aload_n 0) 1 57 := ⟨by decide +kernel, rfl⟩
theorem D_Rd_obeyCharacter_57 : xd m_Rd_obeyCharacter 57 (.getfield 11) 3 60 := ⟨by decide +kernel, rfl⟩
theorem D_Rd_obeyCharacter_60 : xd m_Rd_obeyCharacter 60 (.iconst 0) 1 61 := ⟨by decide +kernel, rfl⟩
theorem D_Rd_obeyCharacter_61 : xd m_Rd_obeyCharacter 61 (.iaload) 1 62 := ⟨by decide +kernel, rfl⟩
theorem D_Rd_obeyCharacter_62 : xd m_Rd_obeyCharacter 62 (.istore_n 3) 1 63 := ⟨by decide +kernel, rfl⟩
theorem D_Rd_obeyCharacter_63 : xd m_Rd_obeyCharacter 63 (.aload_n 0) 1 64 := ⟨by decide +kernel, rfl⟩
theorem D_Rd_obeyCharacter_64 : xd m_Rd_obeyCharacter 64 (.getfield 57) 3 67 := ⟨by decide +kernel, rfl⟩
theorem D_Rd_obeyCharacter_67 : xd m_Rd_obeyCharacter 67 (.sipush 131) 3 70 := ⟨by decide +kernel, rfl⟩
theorem D_Rd_obeyCharacter_70 : xd m_Rd_obeyCharacter 70 (.if_icmp .gt 23) 3 73 := ⟨by decide +kernel, rfl⟩
theorem D_Rd_obeyCharacter_73 : xd m_Rd_obeyCharacter 73 (.aload_n 0) 1 74 := ⟨by decide +kernel, rfl⟩
theorem D_Rd_obeyCharacter_74 : xd m_Rd_obeyCharacter 74 (.iconst 0) 1 75 := ⟨by decide +kernel, rfl⟩
theorem D_Rd_obeyCharacter_75 : xd m_Rd_obeyCharacter 75 (.aload_n 0) 1 76 := ⟨by decide +kernel, rfl⟩
theorem D_Rd_obeyCharacter_76 : xd m_Rd_obeyCharacter 76 (.getfield 22) 3 79 := ⟨by decide +kernel, rfl⟩
theorem D_Rd_obeyCharacter_79 : xd m_Rd_obeyCharacter 79 (.iload_n 1) 1 80 := ⟨by decide +kernel, rfl⟩
theorem D_Rd_obeyCharacter_80 : xd m_Rd_obeyCharacter 80 (.iload_n 2) 1 81 := ⟨by decide +kernel, rfl⟩
theorem D_Rd_obeyCharacter_81 : xd m_Rd_obeyCharacter 81 (.invokevirtual 134) 3 84 := ⟨by decide +kernel, rfl⟩
theorem D_Rd_obeyCharacter_84 : xd m_Rd_obeyCharacter 84 (.invokevirtual 139) 3 87 := ⟨by decide +kernel, rfl⟩
theorem D_Rd_obeyCharacter_87 : xd m_Rd_obeyCharacter 87 (.ifCond .ne 6) 3 90 := ⟨by decide +kernel, rfl⟩
theorem D_Rd_obeyCharacter_90 : xd m_Rd_obeyCharacter 90 (.bipush 8) 2 92 := ⟨by decide +kernel, rfl⟩
theorem D_Rd_obeyCharacter_92 : xd m_Rd_obeyCharacter 92 (.ireturn) 1 93 := ⟨by decide +kernel, rfl⟩
theorem D_Rd_obeyCharacter_93 : xd m_Rd_obeyCharacter 93 (.aload_n 0) 1 94 := ⟨by decide +kernel, rfl⟩
theorem D_Rd_obeyCharacter_94 : xd m_Rd_obeyCharacter 94 (.getfield 26) 3 97 := ⟨by decide +kernel, rfl⟩
theorem D_Rd_obeyCharacter_97 : xd m_Rd_obeyCharacter 97 (.iload_n 1) 1 98 := ⟨by decide +kernel, rfl⟩
theorem D_Rd_obeyCharacter_98 : xd m_Rd_obeyCharacter 98 (.iload_n 2) 1 99 := ⟨by decide +kernel, rfl⟩
theorem D_Rd_obeyCharacter_99 : xd m_Rd_obeyCharacter 99 (.iload_n 3) 1 100 := ⟨by decide +kernel, rfl⟩
theorem D_Rd_obeyCharacter_100 : xd m_Rd_obeyCharacter 100 (.aload_n 0) 1 101 := ⟨by decide +kernel, rfl⟩
theorem D_Rd_obeyCharacter_101 : xd m_Rd_obeyCharacter 101 (.getfield 11) 3 104 := ⟨by decide +kernel, rfl⟩
theorem D_Rd_obeyCharacter_104 : xd m_Rd_obeyCharacter 104 (.iconst 1) 1 105 := ⟨by decide +kernel, rfl⟩
theorem D_Rd_obeyCharacter_105 : xd m_Rd_obeyCharacter 105 (.iaload) 1 106 := ⟨by decide +kernel, rfl⟩
theorem D_Rd_obeyCharacter_106 : xd m_Rd_obeyCharacter 106 (.iconst 0) 1 107 := ⟨by decide +kernel, rfl⟩
theorem D_Rd_obeyCharacter_107 : xd m_Rd_obeyCharacter 107 (.invokevirtual 143) 3 110 := ⟨by decide +kernel, rfl⟩
theorem D_Rd_obeyCharacter_110 : xd m_Rd_obeyCharacter 110 (.ifCond .eq 7) 3 113 := ⟨by decide +kernel, rfl⟩
theorem D_Rd_obeyCharacter_113 : xd m_Rd_obeyCharacter 113 (.iconst 0) 1 114 := ⟨by decide +kernel, rfl⟩
theorem D_Rd_obeyCharacter_114 : xd m_Rd_obeyCharacter 114 (.goto 5) 3 117 := ⟨by decide +kernel, rfl⟩
theorem D_Rd_obeyCharacter_117 : xd m_Rd_obeyCharacter 117 (.bipush 9) 2 119 := ⟨by decide +kernel, rfl⟩
theorem D_Rd_obeyCharacter_119 : xd m_Rd_obeyCharacter 119 (.ireturn) 1 120 := ⟨by decide +kernel, rfl⟩
theorem D_Rd_obeyRule_0 : xd m_Rd_obeyRule 0 (.aload_n 0) 1 1 := ⟨by decide +kernel, rfl⟩
theorem D_Rd_obeyRule_1 : xd m_Rd_obeyRule 1 (.getfield 18) 3 4 := ⟨by decide +kernel, rfl⟩
theorem D_Rd_obeyRule_4 : xd m_Rd_obeyRule 4 (.aload_n 0) 1 5 := ⟨by decide +kernel, rfl⟩
theorem D_Rd_obeyRule_5 : xd m_Rd_obeyRule 5 (.getfield 39) 3 8 := ⟨by decide +kernel, rfl⟩
theorem D_Rd_obeyRule_8 : xd m_Rd_obeyRule 8 (.iconst 1) 1 9 := ⟨by decide +kernel, rfl⟩
theorem D_Rd_obeyRule_9 : xd m_Rd_obeyRule 9 (.iadd) 1 10 := ⟨by decide +kernel, rfl⟩
theorem D_Rd_obeyRule_10 : xd m_Rd_obeyRule 10 (.iconst 4) 1 11 := ⟨by decide +kernel, rfl⟩
theorem D_Rd_obeyRule_11 : xd m_Rd_obeyRule 11 (.invokevirtual 88) 3 14 := ⟨by decide +kernel, rfl⟩
theorem D_Rd_obeyRule_14 : xd m_Rd_obeyRule 14 (.istore_n 1) 1 15 := ⟨by decide +kernel, rfl⟩
theorem D_Rd_obeyRule_15 : xd m_Rd_obeyRule 15 (.aload_n 0) 1 16 := ⟨by decide +kernel, rfl⟩
theorem D_Rd_obeyRule_16 : xd m_Rd_obeyRule 16 (.getfield 18) 3 19 := ⟨by decide +kernel, rfl⟩
theorem D_Rd_obeyRule_19 : xd m_Rd_obeyRule 19 (.aload_n 0) 1 20 := ⟨by decide +kernel, rfl⟩
theorem D_Rd_obeyRule_20 : xd m_Rd_obeyRule 20 (.getfield 39) 3 23 := ⟨by decide +kernel, rfl⟩
theorem D_Rd_obeyRule_23 : xd m_Rd_obeyRule 23 (.iconst 5) 1 24 := ⟨by decide +kernel, rfl⟩
theorem D_Rd_obeyRule_24 : xd m_Rd_obeyRule 24 (.iadd) 1 25 := ⟨by decide +kernel, rfl⟩
theorem D_Rd_obeyRule_25 : xd m_Rd_obeyRule 25 (.iconst 4) 1 26 := ⟨by decide +kernel, rfl⟩
theorem D_Rd_obeyRule_26 : xd m_Rd_obeyRule 26 (.invokevirtual 88) 3 29 := ⟨by decide +kernel, rfl⟩
theorem D_Rd_obeyRule_29 : xd m_Rd_obeyRule 29 (.istore_n 2) 1 30 := ⟨by decide +kernel, rfl⟩
theorem D_Rd_obeyRule_30 : xd m_Rd_obeyRule 30 (.aload_n 0) 1 31 := ⟨by decide +kernel, rfl⟩
theorem D_Rd_obeyRule_31 : xd m_Rd_obeyRule 31 (.getfield 11) 3 34 := ⟨by decide +kernel, rfl⟩
theorem D_Rd_obeyRule_34 : xd m_Rd_obeyRule 34 (.iconst 0) 1 35 := ⟨by decide +kernel, rfl⟩
theorem D_Rd_obeyRule_35 : xd m_Rd_obeyRule 35 (.iaload) 1 36 := ⟨by decide +kernel, rfl⟩
theorem D_Rd_obeyRule_36 : xd m_Rd_obeyRule 36 (.istore_n 3) 1 37 := ⟨by decide +kernel, rfl⟩
theorem D_Rd_obeyRule_37 : xd m_Rd_obeyRule 37 (.aload_n 0) 1 38 := ⟨by decide +kernel, rfl⟩
theorem D_Rd_obeyRule_38 : xd m_Rd_obeyRule 38 (.getfield 57) 3 41 := ⟨by decide +kernel, rfl⟩
theorem D_Rd_obeyRule_41 : xd m_Rd_obeyRule 41 (.sipush 132) 3 44 := ⟨by decide +kernel, rfl⟩
theorem D_Rd_obeyRule_44 : xd m_Rd_obeyRule 44 (.if_icmp .ne 15) 3 47 := ⟨by decide +kernel, rfl⟩
theorem D_Rd_obeyRule_47 : xd m_Rd_obeyRule 47 (.aload_n 0) 1 48 := ⟨by decide +kernel, rfl⟩
theorem D_Rd_obeyRule_48 : xd m_Rd_obeyRule 48 (.iconst 0) 1 49 := ⟨by decide +kernel, rfl⟩
theorem D_Rd_obeyRule_49 : xd m_Rd_obeyRule 49 (.iload_n 2) 1 50 := ⟨by decide +kernel, rfl⟩
theorem D_Rd_obeyRule_50 : xd m_Rd_obeyRule 50 (.invokevirtual 139) 3 53 := ⟨by decide +kernel, rfl⟩
theorem D_Rd_obeyRule_53 : xd m_Rd_obeyRule 53 (.ifCond .ne 6) 3 56 := ⟨by decide +kernel, rfl⟩
theorem D_Rd_obeyRule_56 : xd m_Rd_obeyRule 56 (.bipush 8) 2 58 := ⟨by decide +kernel, rfl⟩
theorem D_Rd_obeyRule_58 : xd m_Rd_obeyRule 58 (.ireturn) 1 59 := ⟨by decide +kernel, rfl⟩
theorem D_Rd_obeyRule_59 : xd m_Rd_obeyRule 59 (.iload_n 1) 1 60 := ⟨by decide +kernel, rfl⟩
theorem D_Rd_obeyRule_60 : xd m_Rd_obeyRule 60 (.ifCond .le 7) 3 63 := ⟨by decide +kernel, rfl⟩
theorem D_Rd_obeyRule_63 : xd m_Rd_obeyRule 63 (.iload_n 2) 1 64 := ⟨by decide +kernel, rfl⟩
theorem D_Rd_obeyRule_64 : xd m_Rd_obeyRule 64 (.ifCond .gt 5) 3 67 := ⟨by decide +kernel, rfl⟩
theorem D_Rd_obeyRule_67 : xd m_Rd_obeyRule 67 (.iconst 0) 1 68 := ⟨by decide +kernel, rfl⟩
theorem D_Rd_obeyRule_68 : xd m_Rd_obeyRule 68 (.ireturn) 1 69 := ⟨by decide +kernel, rfl⟩
theorem D_Rd_obeyRule_69 : xd m_Rd_obeyRule 69 (.aload_n 0) 1 70 := ⟨by decide +kernel, rfl⟩
theorem D_Rd_obeyRule_70 : xd m_Rd_obeyRule 70 (.getfield 26) 3 73 := ⟨by decide +kernel, rfl⟩
theorem D_Rd_obeyRule_73 : xd m_Rd_obeyRule 73 (.iconst (-1)) 1 74 := ⟨by decide +kernel, rfl⟩
theorem D_Rd_obeyRule_74 : xd m_Rd_obeyRule 74 (.iload_n 2) 1 75 := ⟨by decide +kernel, rfl⟩
theorem D_Rd_obeyRule_75 : xd m_Rd_obeyRule 75 (.iload_n 3) 1 76 := ⟨by decide +kernel, rfl⟩
theorem D_Rd_obeyRule_76 : xd m_Rd_obeyRule 76 (.aload_n 0) 1 77 := ⟨by decide +kernel, rfl⟩
theorem D_Rd_obeyRule_77 : xd m_Rd_obeyRule 77 (.getfield 11) 3 80 := ⟨by decide +kernel, rfl⟩
theorem D_Rd_obeyRule_80 : xd m_Rd_obeyRule 80 (.iconst 1) 1 81 := ⟨by decide +kernel, rfl⟩
theorem D_Rd_obeyRule_81 : xd m_Rd_obeyRule 81 (.iaload) 1 82 := ⟨by decide +kernel, rfl⟩
theorem D_Rd_obeyRule_82 : xd m_Rd_obeyRule 82 (.iload_n 1) 1 83 := ⟨by decide +kernel, rfl⟩
theorem D_Rd_obeyRule_83 : xd m_Rd_obeyRule 83 (.invokevirtual 143) 3 86 := ⟨by decide +kernel, rfl⟩
theorem D_Rd_obeyRule_86 : xd m_Rd_obeyRule 86 (.ifCond .eq 7) 3 89 := ⟨by decide +kernel, rfl⟩
theorem D_Rd_obeyRule_89 : xd m_Rd_obeyRule 89 (.iconst 0) 1 90 := ⟨by decide +kernel, rfl⟩
theorem D_Rd_obeyRule_90 : xd m_Rd_obeyRule 90 (.goto 5) 3 93 := ⟨by decide +kernel, rfl⟩
theorem D_Rd_obeyRule_93 : xd m_Rd_obeyRule 93 (.bipush 9) 2 95 := ⟨by decide +kernel, rfl⟩
theorem D_Rd_obeyRule_95 : xd m_Rd_obeyRule 95 (.ireturn) 1 96 := ⟨by decide +kernel, rfl⟩
theorem D_Rd_grow_0 : xd m_Rd_grow 0 (.iload_n 1) 1 1 := ⟨by decide +kernel, rfl⟩
theorem D_Rd_grow_1 : xd m_Rd_grow 1 (.ifCond .lt 12) 3 4 := ⟨by decide +kernel, rfl⟩
theorem D_Rd_grow_4 : xd m_Rd_grow 4 (.iload_n 1) 1 5 := ⟨by decide +kernel, rfl⟩
theorem D_Rd_grow_5 : xd m_Rd_grow 5 (.aload_n 0) 1 6 := ⟨by decide +kernel, rfl⟩
theorem D_Rd_grow_6 : xd m_Rd_grow 6 (.getfield 11) 3 9 := ⟨by decide +kernel, rfl⟩
theorem D_Rd_grow_9 : xd m_Rd_grow 9 (.arraylength) 1 10 := ⟨by decide +kernel, rfl⟩
theorem D_Rd_grow_10 : xd m_Rd_grow 10 (.if_icmp .lt 5) 3 13 := ⟨by decide +kernel, rfl⟩
theorem D_Rd_grow_13 : xd m_Rd_grow 13 (.iconst 0) 1 14 := ⟨by decide +kernel, rfl⟩
theorem D_Rd_grow_14 : xd m_Rd_grow 14 (.ireturn) 1 15 := ⟨by decide +kernel, rfl⟩
theorem D_Rd_grow_15 : xd m_Rd_grow 15 (.aload_n 0) 1 16 := ⟨by decide +kernel, rfl⟩
theorem D_Rd_grow_16 : xd m_Rd_grow 16 (.getfield 11) 3 19 := ⟨by decide +kernel, rfl⟩
theorem D_Rd_grow_19 : xd m_Rd_grow 19 (.iload_n 1) 1 20 := ⟨by decide +kernel, rfl⟩
theorem D_Rd_grow_20 : xd m_Rd_grow 20 (.iaload) 1 21 := ⟨by decide +kernel, rfl⟩
theorem D_Rd_grow_21 : xd m_Rd_grow 21 (.i2l) 1 22 := ⟨by decide +kernel, rfl⟩
theorem D_Rd_grow_22 : xd m_Rd_grow 22 (.iload_n 2) 1 23 := ⟨by decide +kernel, rfl⟩
theorem D_Rd_grow_23 : xd m_Rd_grow 23 (.i2l) 1 24 := ⟨by decide +kernel, rfl⟩
theorem D_Rd_grow_24 : xd m_Rd_grow 24 (.ladd) 1 25 := ⟨by decide +kernel, rfl⟩
theorem D_Rd_grow_25 : xd m_Rd_grow 25 (.lstore_n 3) 1 26 := ⟨by decide +kernel, rfl⟩
theorem D_Rd_grow_26 : xd m_Rd_grow 26 (.lload_n 3) 1 27 := ⟨by decide +kernel, rfl⟩
theorem D_Rd_grow_27 : xd m_Rd_grow 27 (.invokestatic 147) 3 30 := ⟨by decide +kernel, rfl⟩
theorem D_Rd_grow_30 : xd m_Rd_grow 30 (.ifCond .ne 5) 3 33 := ⟨by decide +kernel, rfl⟩
theorem D_Rd_grow_33 : xd m_Rd_grow 33 (.iconst 0) 1 34 := ⟨by decide +kernel, rfl⟩
theorem D_Rd_grow_34 : xd m_Rd_grow 34 (.ireturn) 1 35 := ⟨by decide +kernel, rfl⟩
theorem D_Rd_grow_35 : xd m_Rd_grow 35 (.aload_n 0) 1 36 := ⟨by decide +kernel, rfl⟩
theorem D_Rd_grow_36 : xd m_Rd_grow 36 (.getfield 11) 3 39 := ⟨by decide +kernel, rfl⟩
theorem D_Rd_grow_39 : xd m_Rd_grow 39 (.iload_n 1) 1 40 := ⟨by decide +kernel, rfl⟩
theorem D_Rd_grow_40 : xd m_Rd_grow 40 (.lload_n 3) 1 41 := ⟨by decide +kernel, rfl⟩
theorem D_Rd_grow_41 : xd m_Rd_grow 41 (.l2i) 1 42 := ⟨by decide +kernel, rfl⟩
theorem D_Rd_grow_42 : xd m_Rd_grow 42 (.iastore) 1 43 := ⟨by decide +kernel, rfl⟩
theorem D_Rd_grow_43 : xd m_Rd_grow 43 (.iconst 1) 1 44 := ⟨by decide +kernel, rfl⟩
theorem D_Rd_grow_44 : xd m_Rd_grow 44 (.ireturn) 1 45 := ⟨by decide +kernel, rfl⟩
theorem D_Rd_obeyMove_0 : xd m_Rd_obeyMove 0 (.aload_n 0) 1 1 := ⟨by decide +kernel, rfl⟩
theorem D_Rd_obeyMove_1 : xd m_Rd_obeyMove 1 (.getfield 57) 3 4 := ⟨by decide +kernel, rfl⟩
theorem D_Rd_obeyMove_4 : xd m_Rd_obeyMove 4 (.sipush 157) 3 7 := ⟨by decide +kernel, rfl⟩
theorem D_Rd_obeyMove_7 : xd m_Rd_obeyMove 7 (.if_icmp .ge 7) 3 10 := ⟨by decide +kernel, rfl⟩
theorem D_Rd_obeyMove_10 : xd m_Rd_obeyMove 10 (.iconst 1) 1 11 := ⟨by decide +kernel, rfl⟩
theorem D_Rd_obeyMove_11 : xd m_Rd_obeyMove 11 (.goto 4) 3 14 := ⟨by decide +kernel, rfl⟩
theorem D_Rd_obeyMove_14 : xd m_Rd_obeyMove 14 (.iconst 0) 1 15 := ⟨by decide +kernel, rfl⟩
theorem D_Rd_obeyMove_15 : xd m_Rd_obeyMove 15 (.istore_n 1) 1 16 := ⟨by decide +kernel, rfl⟩
theorem D_Rd_obeyMove_16 : xd m_Rd_obeyMove 16 (.aload_n 0) 1 17 := ⟨by decide +kernel, rfl⟩
theorem D_Rd_obeyMove_17 : xd m_Rd_obeyMove 17 (.getfield 57) 3 20 := ⟨by decide +kernel, rfl⟩
theorem D_Rd_obeyMove_20 : xd m_Rd_obeyMove 20 (.iload_n 1) 1 21 := ⟨by decide +kernel, rfl⟩
theorem D_Rd_obeyMove_21 : xd m_Rd_obeyMove 21 (.ifCond .eq 9) 3 24 := ⟨by decide +kernel, rfl⟩
theorem D_Rd_obeyMove_24 : xd m_Rd_obeyMove 24 (.sipush 143) 3 27 := ⟨by decide +kernel, rfl⟩
theorem D_Rd_obeyMove_27 : xd m_Rd_obeyMove 27 (.goto 6) 3 30 := ⟨by decide +kernel, rfl⟩
theorem D_Rd_obeyMove_30 : xd m_Rd_obeyMove 30 (.sipush 157) 3 33 := ⟨by decide +kernel, rfl⟩
theorem D_Rd_obeyMove_33 : xd m_Rd_obeyMove 33 (.isub) 1 34 := ⟨by decide +kernel, rfl⟩
theorem D_Rd_obeyMove_34 : xd m_Rd_obeyMove 34 (.istore_n 2) 1 35 := ⟨by decide +kernel, rfl⟩
theorem D_Rd_obeyMove_35 : xd m_Rd_obeyMove 35 (.iload_n 1) 1 36 := ⟨by decide +kernel, rfl⟩
theorem D_Rd_obeyMove_36 : xd m_Rd_obeyMove 36 (.ifCond .eq 7) 3 39 := ⟨by decide +kernel, rfl⟩
theorem D_Rd_obeyMove_39 : xd m_Rd_obeyMove 39 (.iconst 2) 1 40 := ⟨by decide +kernel, rfl⟩
theorem D_Rd_obeyMove_40 : xd m_Rd_obeyMove 40 (.goto 4) 3 43 := ⟨by decide +kernel, rfl⟩
theorem D_Rd_obeyMove_43 : xd m_Rd_obeyMove 43 (.iconst 4) 1 44 := ⟨by decide +kernel, rfl⟩
theorem D_Rd_obeyMove_44 : xd m_Rd_obeyMove 44 (.iload_n 2) 1 45 := ⟨by decide +kernel, rfl⟩
theorem D_Rd_obeyMove_45 : xd m_Rd_obeyMove 45 (.bipush 9) 2 47 := ⟨by decide +kernel, rfl⟩
theorem D_Rd_obeyMove_47 : xd m_Rd_obeyMove 47 (.if_icmp .lt 7) 3 50 := ⟨by decide +kernel, rfl⟩
theorem D_Rd_obeyMove_50 : xd m_Rd_obeyMove 50 (.iconst 1) 1 51 := ⟨by decide +kernel, rfl⟩
theorem D_Rd_obeyMove_51 : xd m_Rd_obeyMove 51 (.goto 4) 3 54 := ⟨by decide +kernel, rfl⟩
theorem D_Rd_obeyMove_54 : xd m_Rd_obeyMove 54 (.iconst 0) 1 55 := ⟨by decide +kernel, rfl⟩
theorem D_Rd_obeyMove_55 : xd m_Rd_obeyMove 55 (.iadd) 1 56 := ⟨by decide +kernel, rfl⟩
theorem D_Rd_obeyMove_56 : xd m_Rd_obeyMove 56 (.istore_n 3) 1 57 := ⟨by decide +kernel, rfl⟩
theorem D_Rd_obeyMove_57 : xd m_Rd_obeyMove 57 (.aload_n 0) 1 58 := ⟨by decide +kernel, rfl⟩
theorem D_Rd_obeyMove_58 : xd m_Rd_obeyMove 58 (.getfield 63) 3 61 := ⟨by decide +kernel, rfl⟩
theorem D_Rd_obeyMove_61 : xd m_Rd_obeyMove 61 (.ifCond .le 23) 3 64 := ⟨by decide +kernel, rfl⟩
theorem D_Rd_obeyMove_64 : xd m_Rd_obeyMove 64 (.aload_n 0) 1 65 := ⟨by decide +kernel, rfl⟩
theorem D_Rd_obeyMove_65 : xd m_Rd_obeyMove 65 (.getfield 18) 3 68 := ⟨by decide +kernel, rfl⟩
theorem D_Rd_obeyMove_68 : xd m_Rd_obeyMove 68 (.aload_n 0) 1 69 := ⟨by decide +kernel, rfl⟩
theorem D_Rd_obeyMove_69 : xd m_Rd_obeyMove 69 (.getfield 39) 3 72 := ⟨by decide +kernel, rfl⟩
theorem D_Rd_obeyMove_72 : xd m_Rd_obeyMove 72 (.iconst 1) 1 73 := ⟨by decide +kernel, rfl⟩
theorem D_Rd_obeyMove_73 : xd m_Rd_obeyMove 73 (.iadd) 1 74 := ⟨by decide +kernel, rfl⟩
theorem D_Rd_obeyMove_74 : xd m_Rd_obeyMove 74 (.aload_n 0) 1 75 := ⟨by decide +kernel, rfl⟩
theorem D_Rd_obeyMove_75 : xd m_Rd_obeyMove 75 (.getfield 63) 3 78 := ⟨by decide +kernel, rfl⟩
theorem D_Rd_obeyMove_78 : xd m_Rd_obeyMove 78 (.invokevirtual 151) 3 81 := ⟨by decide +kernel, rfl⟩
theorem D_Rd_obeyMove_81 : xd m_Rd_obeyMove 81 (.goto 9) 3 84 := ⟨by decide +kernel, rfl⟩
theorem D_Rd_obeyMove_84 : xd m_Rd_obeyMove 84 (.aload_n 0) 1 85 := ⟨by decide +kernel, rfl⟩
theorem D_Rd_obeyMove_85 : xd m_Rd_obeyMove 85 (.getfield 11) 3 88 := ⟨by decide +kernel, rfl⟩
theorem D_Rd_obeyMove_88 : xd m_Rd_obeyMove 88 (.iload_n 3) 1 89 := ⟨by decide +kernel, rfl⟩
theorem D_Rd_obeyMove_89 : xd m_Rd_obeyMove 89 (.iaload) 1 90 := ⟨by decide +kernel, rfl⟩
theorem D_Rd_obeyMove_90 : xd m_Rd_obeyMove 90 (.istore 4) 2 92 := ⟨by decide +kernel, rfl⟩
theorem D_Rd_obeyMove_92 : xd m_Rd_obeyMove 92 (.iload_n 2) 1 93 := ⟨by decide +kernel, rfl⟩
theorem D_Rd_obeyMove_93 : xd m_Rd_obeyMove 93 (.iconst 4) 1 94 := ⟨by decide +kernel, rfl⟩
theorem D_Rd_obeyMove_94 : xd m_Rd_obeyMove 94 (.if_icmp .lt 11) 3 97 := ⟨by decide +kernel, rfl⟩
theorem D_Rd_obeyMove_97 : xd m_Rd_obeyMove 97 (.aload_n 0) 1 98 := ⟨by decide +kernel, rfl⟩
theorem D_Rd_obeyMove_98 : xd m_Rd_obeyMove 98 (.getfield 11) 3 101 := ⟨by decide +kernel, rfl⟩
theorem D_Rd_obeyMove_101 : xd m_Rd_obeyMove 101 (.iload_n 3) 1 102 := ⟨by decide +kernel, rfl⟩
theorem D_Rd_obeyMove_102 : xd m_Rd_obeyMove 102 (.iload 4) 2 104 := ⟨by decide +kernel, rfl⟩
theorem D_Rd_obeyMove_104 : xd m_Rd_obeyMove 104 (.iastore) 1 105 := ⟨by decide +kernel, rfl⟩
theorem D_Rd_obeyMove_105 : xd m_Rd_obeyMove 105 (.aload_n 0) 1 106 := ⟨by decide +kernel, rfl⟩
theorem D_Rd_obeyMove_106 : xd m_Rd_obeyMove 106 (.iload_n 1) 1 107 := ⟨by decide +kernel, rfl⟩
theorem D_Rd_obeyMove_107 : xd m_Rd_obeyMove 107 (.ifCond .eq 7) 3 110 := ⟨by decide +kernel, rfl⟩
theorem D_Rd_obeyMove_110 : xd m_Rd_obeyMove 110 (.iconst 0) 1 111 := ⟨by decide +kernel, rfl⟩
theorem D_Rd_obeyMove_111 : xd m_Rd_obeyMove 111 (.goto 4) 3 114 := ⟨by decide +kernel, rfl⟩
theorem D_Rd_obeyMove_114 : xd m_Rd_obeyMove 114 (.iconst 1) 1 115 := ⟨by decide +kernel, rfl⟩
theorem D_Rd_obeyMove_115 : xd m_Rd_obeyMove 115 (.iload 4) 2 117 := ⟨by decide +kernel, rfl⟩
theorem D_Rd_obeyMove_117 : xd m_Rd_obeyMove 117 (.invokevirtual 139) 3 120 := ⟨by decide +kernel, rfl⟩
theorem D_Rd_obeyMove_120 : xd m_Rd_obeyMove 120 (.ifCond .eq 7) 3 123 := ⟨by decide +kernel, rfl⟩
theorem D_Rd_obeyMove_123 : xd m_Rd_obeyMove 123 (.iconst 0) 1 124 := ⟨by decide +kernel, rfl⟩
theorem D_Rd_obeyMove_124 : xd m_Rd_obeyMove 124 (.goto 5) 3 127 := ⟨by decide +kernel, rfl⟩
theorem D_Rd_obeyMove_127 : xd m_Rd_obeyMove 127 (.bipush 8) 2 129 := ⟨by decide +kernel, rfl⟩
theorem D_Rd_obeyMove_129 : xd m_Rd_obeyMove 129 (.ireturn) 1 130 := ⟨by decide +kernel, rfl⟩
theorem D_Rd_obeyFont_0 : xd m_Rd_obeyFont 0 (.aload_n 0) 1 1 := ⟨by decide +kernel, rfl⟩
theorem D_Rd_obeyFont_1 : xd m_Rd_obeyFont 1 (.getfield 63) 3 4 := ⟨by decide +kernel, rfl⟩
theorem D_Rd_obeyFont_4 : xd m_Rd_obeyFont 4 (.ifCond .le 23) 3 7 := ⟨by decide +kernel, rfl⟩
theorem D_Rd_obeyFont_7 : xd m_Rd_obeyFont 7 (.aload_n 0) 1 8 := ⟨by decide +kernel, rfl⟩
theorem D_Rd_obeyFont_8 : xd m_Rd_obeyFont 8 (.getfield 18) 3 11 := ⟨by decide +kernel, rfl⟩
theorem D_Rd_obeyFont_11 : xd m_Rd_obeyFont 11 (.aload_n 0) 1 12 := ⟨by decide +kernel, rfl⟩
theorem D_Rd_obeyFont_12 : xd m_Rd_obeyFont 12 (.getfield 39) 3 15 := ⟨by decide +kernel, rfl⟩
theorem D_Rd_obeyFont_15 : xd m_Rd_obeyFont 15 (.iconst 1) 1 16 := ⟨by decide +kernel, rfl⟩
theorem D_Rd_obeyFont_16 : xd m_Rd_obeyFont 16 (.iadd) 1 17 := ⟨by decide +kernel, rfl⟩
theorem D_Rd_obeyFont_17 : xd m_Rd_obeyFont 17 (.aload_n 0) 1 18 := ⟨by decide +kernel, rfl⟩
theorem D_Rd_obeyFont_18 : xd m_Rd_obeyFont 18 (.getfield 63) 3 21 := ⟨by decide +kernel, rfl⟩
theorem D_Rd_obeyFont_21 : xd m_Rd_obeyFont 21 (.invokevirtual 88) 3 24 := ⟨by decide +kernel, rfl⟩
theorem D_Rd_obeyFont_24 : xd m_Rd_obeyFont 24 (.goto 11) 3 27 := ⟨by decide +kernel, rfl⟩
theorem D_Rd_obeyFont_27 : xd m_Rd_obeyFont 27 (.aload_n 0) 1 28 := ⟨by decide +kernel, rfl⟩
theorem D_Rd_obeyFont_28 : xd m_Rd_obeyFont 28 (.getfield 57) 3 31 := ⟨by decide +kernel, rfl⟩
theorem D_Rd_obeyFont_31 : xd m_Rd_obeyFont 31 (.sipush 171) 3 34 := ⟨by decide +kernel, rfl⟩
theorem D_Rd_obeyFont_34 : xd m_Rd_obeyFont 34 (.isub) 1 35 := ⟨by decide +kernel, rfl⟩
theorem D_Rd_obeyFont_35 : xd m_Rd_obeyFont 35 (.istore_n 1) 1 36 := ⟨by decide +kernel, rfl⟩
theorem D_Rd_obeyFont_36 : xd m_Rd_obeyFont 36 (.aload_n 0) 1 37 := ⟨by decide +kernel, rfl⟩
theorem D_Rd_obeyFont_37 : xd m_Rd_obeyFont 37 (.aload_n 0) 1 38 := ⟨by decide +kernel, rfl⟩
theorem D_Rd_obeyFont_38 : xd m_Rd_obeyFont 38 (.getfield 26) 3 41 := ⟨by decide +kernel, rfl⟩
theorem D_Rd_obeyFont_41 : xd m_Rd_obeyFont 41 (.iload_n 1) 1 42 := ⟨by decide +kernel, rfl⟩
theorem D_Rd_obeyFont_42 : xd m_Rd_obeyFont 42 (.invokevirtual 154) 3 45 := ⟨by decide +kernel, rfl⟩
theorem D_Rd_obeyFont_45 : xd m_Rd_obeyFont 45 (.putfield 128) 3 48 := ⟨by decide +kernel, rfl⟩
theorem D_Rd_obeyFont_48 : xd m_Rd_obeyFont 48 (.aload_n 0) 1 49 := ⟨by decide +kernel, rfl⟩
theorem D_Rd_obeyFont_49 : xd m_Rd_obeyFont 49 (.getfield 128) 3 52 := ⟨by decide +kernel, rfl⟩
theorem D_Rd_obeyFont_52 : xd m_Rd_obeyFont 52 (.iconst (-1)) 1 53 := ⟨by decide +kernel, rfl⟩
theorem D_Rd_obeyFont_53 : xd m_Rd_obeyFont 53 (.if_icmp .ne 7) 3 56 := ⟨by decide +kernel, rfl⟩
theorem D_Rd_obeyFont_56 : xd m_Rd_obeyFont 56 (.iconst 3) 1 57 := ⟨by decide +kernel, rfl⟩
theorem D_Rd_obeyFont_57 : xd m_Rd_obeyFont 57 (.goto 4) 3 60 := ⟨by decide +kernel, rfl⟩
theorem D_Rd_obeyFont_60 : xd m_Rd_obeyFont 60 (.iconst 0) 1 61 := ⟨by decide +kernel, rfl⟩
theorem D_Rd_obeyFont_61 : xd m_Rd_obeyFont 61 (.ireturn) 1 62 := ⟨by decide +kernel, rfl⟩
theorem D_Rd_obeyDefinition_0 : xd m_Rd_obeyDefinition 0 (.aload_n 0) 1 1 := ⟨by decide +kernel, rfl⟩
theorem D_Rd_obeyDefinition_1 : xd m_Rd_obeyDefinition 1 (.getfield 18) 3 4 := ⟨by decide +kernel, rfl⟩
theorem D_Rd_obeyDefinition_4 : xd m_Rd_obeyDefinition 4 (.aload_n 0) 1 5 := ⟨by decide +kernel, rfl⟩
theorem D_Rd_obeyDefinition_5 : xd m_Rd_obeyDefinition 5 (.getfield 39) 3 8 := ⟨by decide +kernel, rfl⟩
theorem D_Rd_obeyDefinition_8 : xd m_Rd_obeyDefinition 8 (.iconst 1) 1 9 := ⟨by decide +kernel, rfl⟩
theorem D_Rd_obeyDefinition_9 : xd m_Rd_obeyDefinition 9 (.iadd) 1 10 := ⟨by decide +kernel, rfl⟩
theorem D_Rd_obeyDefinition_10 : xd m_Rd_obeyDefinition 10 (.aload_n 0) 1 11 := ⟨by decide +kernel, rfl⟩
theorem D_Rd_obeyDefinition_11 : xd m_Rd_obeyDefinition 11 (.getfield 63) 3 14 := ⟨by decide +kernel, rfl⟩
theorem D_Rd_obeyDefinition_14 : xd m_Rd_obeyDefinition 14 (.invokevirtual 88) 3 17 := ⟨by decide +kernel, rfl⟩
theorem D_Rd_obeyDefinition_17 : xd m_Rd_obeyDefinition 17 (.istore_n 1) 1 18 := ⟨by decide +kernel, rfl⟩
theorem D_Rd_obeyDefinition_18 : xd m_Rd_obeyDefinition 18 (.aload_n 0) 1 19 := ⟨by decide +kernel, rfl⟩
theorem D_Rd_obeyDefinition_19 : xd m_Rd_obeyDefinition 19 (.getfield 39) 3 22 := ⟨by decide +kernel, rfl⟩
theorem D_Rd_obeyDefinition_22 : xd m_Rd_obeyDefinition 22 (.iconst 1) 1 23 := ⟨by decide +kernel, rfl⟩
theorem D_Rd_obeyDefinition_23 : xd m_Rd_obeyDefinition 23 (.iadd) 1 24 := ⟨by decide +kernel, rfl⟩
theorem D_Rd_obeyDefinition_24 : xd m_Rd_obeyDefinition 24 (.aload_n 0) 1 25 := ⟨by decide +kernel, rfl⟩
theorem D_Rd_obeyDefinition_25 : xd m_Rd_obeyDefinition 25 (.getfield 63) 3 28 := ⟨by decide +kernel, rfl⟩
theorem D_Rd_obeyDefinition_28 : xd m_Rd_obeyDefinition 28 (.iadd) 1 29 := ⟨by decide +kernel, rfl⟩
theorem D_Rd_obeyDefinition_29 : xd m_Rd_obeyDefinition 29 (.istore_n 2) 1 30 := ⟨by decide +kernel, rfl⟩
theorem D_Rd_obeyDefinition_30 : xd m_Rd_obeyDefinition 30 (.aload_n 0) 1 31 := ⟨by decide +kernel, rfl⟩
theorem D_Rd_obeyDefinition_31 : xd m_Rd_obeyDefinition 31 (.getfield 26) 3 34 := ⟨by decide +kernel, rfl⟩
theorem D_Rd_obeyDefinition_34 : xd m_Rd_obeyDefinition 34 (.iload_n 1) 1 35 := ⟨by decide +kernel, rfl⟩
theorem D_Rd_obeyDefinition_35 : xd m_Rd_obeyDefinition 35 (.invokevirtual 154) 3 38 := ⟨by decide +kernel, rfl⟩
theorem D_Rd_obeyDefinition_38 : xd m_Rd_obeyDefinition 38 (.istore_n 3) 1 39 := ⟨by decide +kernel, rfl⟩
theorem D_Rd_obeyDefinition_39 : xd m_Rd_obeyDefinition 39 (.iload_n 3) 1 40 := ⟨by decide +kernel, rfl⟩
theorem D_Rd_obeyDefinition_40 : xd m_Rd_obeyDefinition 40 (.iconst (-1)) 1 41 := ⟨by decide +kernel, rfl⟩
theorem D_Rd_obeyDefinition_41 : xd m_Rd_obeyDefinition 41 (.if_icmp .eq 25) 3 44 := ⟨by decide +kernel, rfl⟩
theorem D_Rd_obeyDefinition_44 : xd m_Rd_obeyDefinition 44 (.aload_n 0) 1 45 := ⟨by decide +kernel, rfl⟩
theorem D_Rd_obeyDefinition_45 : xd m_Rd_obeyDefinition 45 (.getfield 26) 3 48 := ⟨by decide +kernel, rfl⟩
theorem D_Rd_obeyDefinition_48 : xd m_Rd_obeyDefinition 48 (.iload_n 3) 1 49 := ⟨by decide +kernel, rfl⟩
theorem D_Rd_obeyDefinition_49 : xd m_Rd_obeyDefinition 49 (.aload_n 0) 1 50 := ⟨by decide +kernel, rfl⟩
theorem D_Rd_obeyDefinition_50 : xd m_Rd_obeyDefinition 50 (.getfield 18) 3 53 := ⟨by decide +kernel, rfl⟩
theorem D_Rd_obeyDefinition_53 : xd m_Rd_obeyDefinition 53 (.iload_n 2) 1 54 := ⟨by decide +kernel, rfl⟩
theorem D_Rd_obeyDefinition_54 : xd m_Rd_obeyDefinition 54 (.invokevirtual 157) 3 57 := ⟨by decide +kernel, rfl⟩
theorem D_Rd_obeyDefinition_57 : xd m_Rd_obeyDefinition 57 (.ifCond .eq 7) 3 60 := ⟨by decide +kernel, rfl⟩
theorem D_Rd_obeyDefinition_60 : xd m_Rd_obeyDefinition 60 (.iconst 0) 1 61 := ⟨by decide +kernel, rfl⟩
theorem D_Rd_obeyDefinition_61 : xd m_Rd_obeyDefinition 61 (.goto 4) 3 64 := ⟨by decide +kernel, rfl⟩
theorem D_Rd_obeyDefinition_64 : xd m_Rd_obeyDefinition 64 (.iconst 3) 1 65 := ⟨by decide +kernel, rfl⟩
theorem D_Rd_obeyDefinition_65 : xd m_Rd_obeyDefinition 65 (.ireturn) 1 66 := ⟨by decide +kernel, rfl⟩
theorem D_Rd_obeyDefinition_66 : xd m_Rd_obeyDefinition 66 (.aload_n 0) 1 67 := ⟨by decide +kernel, rfl⟩
theorem D_Rd_obeyDefinition_67 : xd m_Rd_obeyDefinition 67 (.getfield 35) 3 70 := ⟨by decide +kernel, rfl⟩
theorem D_Rd_obeyDefinition_70 : xd m_Rd_obeyDefinition 70 (.iconst 3) 1 71 := ⟨by decide +kernel, rfl⟩
theorem D_Rd_obeyDefinition_71 : xd m_Rd_obeyDefinition 71 (.if_icmp .ne 5) 3 74 := ⟨by decide +kernel, rfl⟩
theorem D_Rd_obeyDefinition_74 : xd m_Rd_obeyDefinition 74 (.iconst 3) 1 75 := ⟨by decide +kernel, rfl⟩
theorem D_Rd_obeyDefinition_75 : xd m_Rd_obeyDefinition 75 (.ireturn) 1 76 := ⟨by decide +kernel, rfl⟩
theorem D_Rd_obeyDefinition_76 : xd m_Rd_obeyDefinition 76 (.aload_n 0) 1 77 := ⟨by decide +kernel, rfl⟩
theorem D_Rd_obeyDefinition_77 : xd m_Rd_obeyDefinition 77 (.getfield 26) 3 80 := ⟨by decide +kernel, rfl⟩
theorem D_Rd_obeyDefinition_80 : xd m_Rd_obeyDefinition 80 (.iload_n 1) 1 81 := ⟨by decide +kernel, rfl⟩
theorem D_Rd_obeyDefinition_81 : xd m_Rd_obeyDefinition 81 (.aload_n 0) 1 82 := ⟨by decide +kernel, rfl⟩
theorem D_Rd_obeyDefinition_82 : xd m_Rd_obeyDefinition 82 (.getfield 18) 3 85 := ⟨by decide +kernel, rfl⟩
theorem D_Rd_obeyDefinition_85 : xd m_Rd_obeyDefinition 85 (.iload_n 2) 1 86 := ⟨by decide +kernel, rfl⟩
theorem D_Rd_obeyDefinition_86 : xd m_Rd_obeyDefinition 86 (.invokevirtual 161) 3 89 := ⟨by decide +kernel, rfl⟩
theorem D_Rd_obeyDefinition_89 : xd m_Rd_obeyDefinition 89 (.ifCond .eq 7) 3 92 := ⟨by decide +kernel, rfl⟩
theorem D_Rd_obeyDefinition_92 : xd m_Rd_obeyDefinition 92 (.iconst 0) 1 93 := ⟨by decide +kernel, rfl⟩
theorem D_Rd_obeyDefinition_93 : xd m_Rd_obeyDefinition 93 (.goto 5) 3 96 := ⟨by decide +kernel, rfl⟩
theorem D_Rd_obeyDefinition_96 : xd m_Rd_obeyDefinition 96 (.bipush 9) 2 98 := ⟨by decide +kernel, rfl⟩
theorem D_Rd_obeyDefinition_98 : xd m_Rd_obeyDefinition 98 (.ireturn) 1 99 := ⟨by decide +kernel, rfl⟩
theorem D_Rd_obeyBegin_0 : xd m_Rd_obeyBegin 0 (.aload_n 0) 1 1 := ⟨by decide +kernel, rfl⟩
theorem D_Rd_obeyBegin_1 : xd m_Rd_obeyBegin 1 (.getfield 18) 3 4 := ⟨by decide +kernel, rfl⟩
theorem D_Rd_obeyBegin_4 : xd m_Rd_obeyBegin 4 (.aload_n 0) 1 5 := ⟨by decide +kernel, rfl⟩
theorem D_Rd_obeyBegin_5 : xd m_Rd_obeyBegin 5 (.getfield 39) 3 8 := ⟨by decide +kernel, rfl⟩
theorem D_Rd_obeyBegin_8 : xd m_Rd_obeyBegin 8 (.iconst 1) 1 9 := ⟨by decide +kernel, rfl⟩
theorem D_Rd_obeyBegin_9 : xd m_Rd_obeyBegin 9 (.iadd) 1 10 := ⟨by decide +kernel, rfl⟩
theorem D_Rd_obeyBegin_10 : xd m_Rd_obeyBegin 10 (.bipush 40) 2 12 := ⟨by decide +kernel, rfl⟩
theorem D_Rd_obeyBegin_12 : xd m_Rd_obeyBegin 12 (.iadd) 1 13 := ⟨by decide +kernel, rfl⟩
theorem D_Rd_obeyBegin_13 : xd m_Rd_obeyBegin 13 (.iconst 4) 1 14 := ⟨by decide +kernel, rfl⟩
theorem D_Rd_obeyBegin_14 : xd m_Rd_obeyBegin 14 (.invokevirtual 88) 3 17 := ⟨by decide +kernel, rfl⟩
theorem D_Rd_obeyBegin_17 : xd m_Rd_obeyBegin 17 (.aload_n 0) 1 18 := ⟨by decide +kernel, rfl⟩
theorem D_Rd_obeyBegin_18 : xd m_Rd_obeyBegin 18 (.getfield 42) 3 21 := ⟨by decide +kernel, rfl⟩
theorem D_Rd_obeyBegin_21 : xd m_Rd_obeyBegin 21 (.if_icmp .eq 5) 3 24 := ⟨by decide +kernel, rfl⟩
theorem D_Rd_obeyBegin_24 : xd m_Rd_obeyBegin 24 (.iconst 5) 1 25 := ⟨by decide +kernel, rfl⟩
theorem D_Rd_obeyBegin_25 : xd m_Rd_obeyBegin 25 (.ireturn) 1 26 := ⟨by decide +kernel, rfl⟩
theorem D_Rd_obeyBegin_26 : xd m_Rd_obeyBegin 26 (.aload_n 0) 1 27 := ⟨by decide +kernel, rfl⟩
theorem D_Rd_obeyBegin_27 : xd m_Rd_obeyBegin 27 (.getfield 26) 3 30 := ⟨by decide +kernel, rfl⟩
theorem D_Rd_obeyBegin_30 : xd m_Rd_obeyBegin 30 (.aload_n 0) 1 31 := ⟨by decide +kernel, rfl⟩
theorem D_Rd_obeyBegin_31 : xd m_Rd_obeyBegin 31 (.getfield 18) 3 34 := ⟨by decide +kernel, rfl⟩
theorem D_Rd_obeyBegin_34 : xd m_Rd_obeyBegin 34 (.aload_n 0) 1 35 := ⟨by decide +kernel, rfl⟩
theorem D_Rd_obeyBegin_35 : xd m_Rd_obeyBegin 35 (.getfield 39) 3 38 := ⟨by decide +kernel, rfl⟩
theorem D_Rd_obeyBegin_38 : xd m_Rd_obeyBegin 38 (.iconst 1) 1 39 := ⟨by decide +kernel, rfl⟩
theorem D_Rd_obeyBegin_39 : xd m_Rd_obeyBegin 39 (.iadd) 1 40 := ⟨by decide +kernel, rfl⟩
theorem D_Rd_obeyBegin_40 : xd m_Rd_obeyBegin 40 (.invokevirtual 164) 3 43 := ⟨by decide +kernel, rfl⟩
theorem D_Rd_obeyBegin_43 : xd m_Rd_obeyBegin 43 (.ifCond .ne 6) 3 46 := ⟨by decide +kernel, rfl⟩
theorem D_Rd_obeyBegin_46 : xd m_Rd_obeyBegin 46 (.bipush 9) 2 48 := ⟨by decide +kernel, rfl⟩
theorem D_Rd_obeyBegin_48 : xd m_Rd_obeyBegin 48 (.ireturn) 1 49 := ⟨by decide +kernel, rfl⟩
theorem D_Rd_obeyBegin_49 : xd m_Rd_obeyBegin 49 (.aload_n 0) 1 50 := ⟨by decide +kernel, rfl⟩
theorem D_Rd_obeyBegin_50 : xd m_Rd_obeyBegin 50 (.aload_n 0) 1 51 := ⟨by decide +kernel, rfl⟩
theorem D_Rd_obeyBegin_51 : xd m_Rd_obeyBegin 51 (.getfield 39) 3 54 := ⟨by decide +kernel, rfl⟩
theorem D_Rd_obeyBegin_54 : xd m_Rd_obeyBegin 54 (.putfield 42) 3 57 := ⟨by decide +kernel, rfl⟩
theorem D_Rd_obeyBegin_57 : xd m_Rd_obeyBegin 57 (.aload_n 0) 1 58 := ⟨by decide +kernel, rfl⟩
theorem D_Rd_obeyBegin_58 : xd m_Rd_obeyBegin 58 (.iconst 2) 1 59 := ⟨by decide +kernel, rfl⟩
theorem D_Rd_obeyBegin_59 : xd m_Rd_obeyBegin 59 (.putfield 35) 3 62 := ⟨by decide +kernel, rfl⟩
theorem D_Rd_obeyBegin_62 : xd m_Rd_obeyBegin 62 (.aload_n 0) 1 63 := ⟨by decide +kernel, rfl⟩
theorem D_Rd_obeyBegin_63 : xd m_Rd_obeyBegin 63 (.iconst (-1)) 1 64 := ⟨by decide +kernel, rfl⟩
theorem D_Rd_obeyBegin_64 : xd m_Rd_obeyBegin 64 (.putfield 128) 3 67 := ⟨by decide +kernel, rfl⟩
theorem D_Rd_obeyBegin_67 : xd m_Rd_obeyBegin 67 (.aload_n 0) 1 68 := ⟨by decide +kernel, rfl⟩
theorem D_Rd_obeyBegin_68 : xd m_Rd_obeyBegin 68 (.iconst 0) 1 69 := ⟨by decide +kernel, rfl⟩
theorem D_Rd_obeyBegin_69 : xd m_Rd_obeyBegin 69 (.putfield 107) 3 72 := ⟨by decide +kernel, rfl⟩
theorem D_Rd_obeyBegin_72 : xd m_Rd_obeyBegin 72 (.iconst 0) 1 73 := ⟨by decide +kernel, rfl⟩
theorem D_Rd_obeyBegin_73 : xd m_Rd_obeyBegin 73 (.istore_n 1) 1 74 := ⟨by decide +kernel, rfl⟩
theorem D_Rd_obeyBegin_74 : xd m_Rd_obeyBegin 74 (.iload_n 1) 1 75 := ⟨by decide +kernel, rfl⟩
theorem D_Rd_obeyBegin_75 : xd m_Rd_obeyBegin 75 (.aload_n 0) 1 76 := ⟨by decide +kernel, rfl⟩
theorem D_Rd_obeyBegin_76 : xd m_Rd_obeyBegin 76 (.getfield 11) 3 79 := ⟨by decide +kernel, rfl⟩
theorem D_Rd_obeyBegin_79 : xd m_Rd_obeyBegin 79 (.arraylength) 1 80 := ⟨by decide +kernel, rfl⟩
theorem D_Rd_obeyBegin_80 : xd m_Rd_obeyBegin 80 (.if_icmp .ge 16) 3 83 := ⟨by decide +kernel, rfl⟩
theorem D_Rd_obeyBegin_83 : xd m_Rd_obeyBegin 83 (.aload_n 0) 1 84 := ⟨by decide +kernel, rfl⟩
theorem D_Rd_obeyBegin_84 : xd m_Rd_obeyBegin 84 (.getfield 11) 3 87 := ⟨by decide +kernel, rfl⟩
theorem D_Rd_obeyBegin_87 : xd m_Rd_obeyBegin 87 (.iload_n 1) 1 88 := ⟨by decide +kernel, rfl⟩
theorem D_Rd_obeyBegin_88 : xd m_Rd_obeyBegin 88 (.iconst 0) 1 89 := ⟨by decide +kernel, rfl⟩
theorem D_Rd_obeyBegin_89 : xd m_Rd_obeyBegin 89 (.iastore) 1 90 := ⟨by decide +kernel, rfl⟩
theorem D_Rd_obeyBegin_90 : xd m_Rd_obeyBegin 90 (.iinc 1 1) 3 93 := ⟨by decide +kernel, rfl⟩
theorem D_Rd_obeyBegin_93 : xd m_Rd_obeyBegin 93 (.goto (-19)) 3 96 := ⟨by decide +kernel, rfl⟩
theorem D_Rd_obeyBegin_96 : xd m_Rd_obeyBegin 96 (.iconst 0) 1 97 := ⟨by decide +kernel, rfl⟩
theorem D_Rd_obeyBegin_97 : xd m_Rd_obeyBegin 97 (.ireturn) 1 98 := ⟨by decide +kernel, rfl⟩
theorem D_Rd_obeyPush_0 : xd m_Rd_obeyPush 0 (.aload_n 0) 1 1 := ⟨by decide +kernel, rfl⟩
theorem D_Rd_obeyPush_1 : xd m_Rd_obeyPush 1 (.getfield 107) 3 4 := ⟨by decide +kernel, rfl⟩
theorem D_Rd_obeyPush_4 : xd m_Rd_obeyPush 4 (.ifCond .lt 12) 3 7 := ⟨by decide +kernel, rfl⟩
theorem D_Rd_obeyPush_7 : xd m_Rd_obeyPush 7 (.aload_n 0) 1 8 := ⟨by decide +kernel, rfl⟩
theorem D_Rd_obeyPush_8 : xd m_Rd_obeyPush 8 (.getfield 107) 3 11 := ⟨by decide +kernel, rfl⟩
theorem D_Rd_obeyPush_11 : xd m_Rd_obeyPush 11 (.bipush 100) 2 13 := ⟨by decide +kernel, rfl⟩
theorem D_Rd_obeyPush_13 : xd m_Rd_obeyPush 13 (.if_icmp .lt 5) 3 16 := ⟨by decide +kernel, rfl⟩
theorem D_Rd_obeyPush_16 : xd m_Rd_obeyPush 16 (.iconst 4) 1 17 := ⟨by decide +kernel, rfl⟩
theorem D_Rd_obeyPush_17 : xd m_Rd_obeyPush 17 (.ireturn) 1 18 := ⟨by decide +kernel, rfl⟩
theorem D_Rd_obeyPush_18 : xd m_Rd_obeyPush 18 (.iconst 0) 1 19 := ⟨by decide +kernel, rfl⟩
theorem D_Rd_obeyPush_19 : xd m_Rd_obeyPush 19 (.istore_n 1) 1 20 := ⟨by decide +kernel, rfl⟩
theorem D_Rd_obeyPush_20 : xd m_Rd_obeyPush 20 (.iload_n 1) 1 21 := ⟨by decide +kernel, rfl⟩
theorem D_Rd_obeyPush_21 : xd m_Rd_obeyPush 21 (.bipush 6) 2 23 := ⟨by decide +kernel, rfl⟩
theorem D_Rd_obeyPush_23 : xd m_Rd_obeyPush 23 (.if_icmp .ge 29) 3 26 := ⟨by decide +kernel, rfl⟩
theorem D_Rd_obeyPush_26 : xd m_Rd_obeyPush 26 (.aload_n 0) 1 27 := ⟨by decide +kernel, rfl⟩
theorem D_Rd_obeyPush_27 : xd m_Rd_obeyPush 27 (.getfield 15) 3 30 := ⟨by decide +kernel, rfl⟩
theorem D_Rd_obeyPush_30 : xd m_Rd_obeyPush 30 (.aload_n 0) 1 31 := ⟨by decide +kernel, rfl⟩
theorem D_Rd_obeyPush_31 : xd m_Rd_obeyPush 31 (.getfield 107) 3 34 := ⟨by decide +kernel, rfl⟩
theorem D_Rd_obeyPush_34 : xd m_Rd_obeyPush 34 (.bipush 6) 2 36 := ⟨by decide +kernel, rfl⟩
theorem D_Rd_obeyPush_36 : xd m_Rd_obeyPush 36 (.imul) 1 37 := ⟨by decide +kernel, rfl⟩
theorem D_Rd_obeyPush_37 : xd m_Rd_obeyPush 37 (.iload_n 1) 1 38 := ⟨by decide +kernel, rfl⟩
theorem D_Rd_obeyPush_38 : xd m_Rd_obeyPush 38 (.iadd) 1 39 := ⟨by decide +kernel, rfl⟩
theorem D_Rd_obeyPush_39 : xd m_Rd_obeyPush 39 (.aload_n 0) 1 40 := ⟨by decide +kernel, rfl⟩
theorem D_Rd_obeyPush_40 : xd m_Rd_obeyPush 40 (.getfield 11) 3 43 := ⟨by decide +kernel, rfl⟩
theorem D_Rd_obeyPush_43 : xd m_Rd_obeyPush 43 (.iload_n 1) 1 44 := ⟨by decide +kernel, rfl⟩
theorem D_Rd_obeyPush_44 : xd m_Rd_obeyPush 44 (.iaload) 1 45 := ⟨by decide +kernel, rfl⟩
theorem D_Rd_obeyPush_45 : xd m_Rd_obeyPush 45 (.iastore) 1 46 := ⟨by decide +kernel, rfl⟩
theorem D_Rd_obeyPush_46 : xd m_Rd_obeyPush 46 (.iinc 1 1) 3 49 := ⟨by decide +kernel, rfl⟩
theorem D_Rd_obeyPush_49 : xd m_Rd_obeyPush 49 (.goto (-29)) 3 52 := ⟨by decide +kernel, rfl⟩
theorem D_Rd_obeyPush_52 : xd m_Rd_obeyPush 52 (.aload_n 0) 1 53 := ⟨by decide +kernel, rfl⟩
theorem D_Rd_obeyPush_53 : xd m_Rd_obeyPush 53 (.dup) 1 54 := ⟨by decide +kernel, rfl⟩
theorem D_Rd_obeyPush_54 : xd m_Rd_obeyPush 54 (.getfield 107) 3 57 := ⟨by decide +kernel, rfl⟩
theorem D_Rd_obeyPush_57 : xd m_Rd_obeyPush 57 (.iconst 1) 1 58 := ⟨by decide +kernel, rfl⟩
theorem D_Rd_obeyPush_58 : xd m_Rd_obeyPush 58 (.iadd) 1 59 := ⟨by decide +kernel, rfl⟩
theorem D_Rd_obeyPush_59 : xd m_Rd_obeyPush 59 (.putfield 107) 3 62 := ⟨by decide +kernel, rfl⟩
theorem D_Rd_obeyPush_62 : xd m_Rd_obeyPush 62 (.aload_n 0) 1 63 := ⟨by decide +kernel, rfl⟩
theorem D_Rd_obeyPush_63 : xd m_Rd_obeyPush 63 (.getfield 26) 3 66 := ⟨by decide +kernel, rfl⟩
theorem D_Rd_obeyPush_66 : xd m_Rd_obeyPush 66 (.aload_n 0) 1 67 := ⟨by decide +kernel, rfl⟩
theorem D_Rd_obeyPush_67 : xd m_Rd_obeyPush 67 (.getfield 26) 3 70 := ⟨by decide +kernel, rfl⟩
theorem D_Rd_obeyPush_70 : xd m_Rd_obeyPush 70 (.getfield 168) 3 73 := ⟨by decide +kernel, rfl⟩
theorem D_Rd_obeyPush_73 : xd m_Rd_obeyPush 73 (.aload_n 0) 1 74 := ⟨by decide +kernel, rfl⟩
theorem D_Rd_obeyPush_74 : xd m_Rd_obeyPush 74 (.getfield 107) 3 77 := ⟨by decide +kernel, rfl⟩
theorem D_Rd_obeyPush_77 : xd m_Rd_obeyPush 77 (.invokestatic 171) 3 80 := ⟨by decide +kernel, rfl⟩
theorem D_Rd_obeyPush_80 : xd m_Rd_obeyPush 80 (.putfield 168) 3 83 := ⟨by decide +kernel, rfl⟩
theorem D_Rd_obeyPush_83 : xd m_Rd_obeyPush 83 (.iconst 0) 1 84 := ⟨by decide +kernel, rfl⟩
theorem D_Rd_obeyPush_84 : xd m_Rd_obeyPush 84 (.ireturn) 1 85 := ⟨by decide +kernel, rfl⟩
theorem D_Rd_obeyPop_0 : xd m_Rd_obeyPop 0 (.aload_n 0) 1 1 := ⟨by decide +kernel, rfl⟩
theorem D_Rd_obeyPop_1 : xd m_Rd_obeyPop 1 (.getfield 107) 3 4 := ⟨by decide +kernel, rfl⟩
theorem D_Rd_obeyPop_4 : xd m_Rd_obeyPop 4 (.iconst 1) 1 5 := ⟨by decide +kernel, rfl⟩
theorem D_Rd_obeyPop_5 : xd m_Rd_obeyPop 5 (.if_icmp .lt 12) 3 8 := ⟨by decide +kernel, rfl⟩
theorem D_Rd_obeyPop_8 : xd m_Rd_obeyPop 8 (.aload_n 0) 1 9 := ⟨by decide +kernel, rfl⟩
theorem D_Rd_obeyPop_9 : xd m_Rd_obeyPop 9 (.getfield 107) 3 12 := ⟨by decide +kernel, rfl⟩
theorem D_Rd_obeyPop_12 : xd m_Rd_obeyPop 12 (.bipush 100) 2 14 := ⟨by decide +kernel, rfl⟩
theorem D_Rd_obeyPop_14 : xd m_Rd_obeyPop 14 (.if_icmp .le 5) 3 17 := ⟨by decide +kernel, rfl⟩
theorem D_Rd_obeyPop_17 : xd m_Rd_obeyPop 17 (.iconst 4) 1 18 := ⟨by decide +kernel, rfl⟩
theorem D_Rd_obeyPop_18 : xd m_Rd_obeyPop 18 (.ireturn) 1 19 := ⟨by decide +kernel, rfl⟩
theorem D_Rd_obeyPop_19 : xd m_Rd_obeyPop 19 (.aload_n 0) 1 20 := ⟨by decide +kernel, rfl⟩
theorem D_Rd_obeyPop_20 : xd m_Rd_obeyPop 20 (.dup) 1 21 := ⟨by decide +kernel, rfl⟩
theorem D_Rd_obeyPop_21 : xd m_Rd_obeyPop 21 (.getfield 107) 3 24 := ⟨by decide +kernel, rfl⟩
theorem D_Rd_obeyPop_24 : xd m_Rd_obeyPop 24 (.iconst 1) 1 25 := ⟨by decide +kernel, rfl⟩
theorem D_Rd_obeyPop_25 : xd m_Rd_obeyPop 25 (.isub) 1 26 := ⟨by decide +kernel, rfl⟩
theorem D_Rd_obeyPop_26 : xd m_Rd_obeyPop 26 (.putfield 107) 3 29 := ⟨by decide +kernel, rfl⟩
theorem D_Rd_obeyPop_29 : xd m_Rd_obeyPop 29 (.iconst 0) 1 30 := ⟨by decide +kernel, rfl⟩
theorem D_Rd_obeyPop_30 : xd m_Rd_obeyPop 30 (.istore_n 1) 1 31 := ⟨by decide +kernel, rfl⟩
theorem D_Rd_obeyPop_31 : xd m_Rd_obeyPop 31 (.iload_n 1) 1 32 := ⟨by decide +kernel, rfl⟩
theorem D_Rd_obeyPop_32 : xd m_Rd_obeyPop 32 (.bipush 6) 2 34 := ⟨by decide +kernel, rfl⟩
theorem D_Rd_obeyPop_34 : xd m_Rd_obeyPop 34 (.if_icmp .ge 29) 3 37 := ⟨by decide +kernel, rfl⟩
theorem D_Rd_obeyPop_37 : xd m_Rd_obeyPop 37 (.aload_n 0) 1 38 := ⟨by decide +kernel, rfl⟩
theorem D_Rd_obeyPop_38 : xd m_Rd_obeyPop 38 (.getfield 11) 3 41 := ⟨by decide +kernel, rfl⟩
theorem D_Rd_obeyPop_41 : xd m_Rd_obeyPop 41 (.iload_n 1) 1 42 := ⟨by decide +kernel, rfl⟩
theorem D_Rd_obeyPop_42 : xd m_Rd_obeyPop 42 (.aload_n 0) 1 43 := ⟨by decide +kernel, rfl⟩
theorem D_Rd_obeyPop_43 : xd m_Rd_obeyPop 43 (.getfield 15) 3 46 := ⟨by decide +kernel, rfl⟩
theorem D_Rd_obeyPop_46 : xd m_Rd_obeyPop 46 (.aload_n 0) 1 47 := ⟨by decide +kernel, rfl⟩
theorem D_Rd_obeyPop_47 : xd m_Rd_obeyPop 47 (.getfield 107) 3 50 := ⟨by decide +kernel, rfl⟩
theorem D_Rd_obeyPop_50 : xd m_Rd_obeyPop 50 (.bipush 6) 2 52 := ⟨by decide +kernel, rfl⟩
theorem D_Rd_obeyPop_52 : xd m_Rd_obeyPop 52 (.imul) 1 53 := ⟨by decide +kernel, rfl⟩
theorem D_Rd_obeyPop_53 : xd m_Rd_obeyPop 53 (.iload_n 1) 1 54 := ⟨by decide +kernel, rfl⟩
theorem D_Rd_obeyPop_54 : xd m_Rd_obeyPop 54 (.iadd) 1 55 := ⟨by decide +kernel, rfl⟩
theorem D_Rd_obeyPop_55 : xd m_Rd_obeyPop 55 (.iaload) 1 56 := ⟨by decide +kernel, rfl⟩
theorem D_Rd_obeyPop_56 : xd m_Rd_obeyPop 56 (.iastore) 1 57 := ⟨by decide +kernel, rfl⟩
theorem D_Rd_obeyPop_57 : xd m_Rd_obeyPop 57 (.iinc 1 1) 3 60 := ⟨by decide +kernel, rfl⟩
theorem D_Rd_obeyPop_60 : xd m_Rd_obeyPop 60 (.goto (-29)) 3 63 := ⟨by decide +kernel, rfl⟩
theorem D_Rd_obeyPop_63 : xd m_Rd_obeyPop 63 (.iconst 0) 1 64 := ⟨by decide +kernel, rfl⟩
theorem D_Rd_obeyPop_64 : xd m_Rd_obeyPop 64 (.ireturn) 1 65 := ⟨by decide +kernel, rfl⟩
theorem D_Rd_obeyLast_0 : xd m_Rd_obeyLast 0 (.aload_n 0) 1 1 := ⟨by decide +kernel, rfl⟩
theorem D_Rd_obeyLast_1 : xd m_Rd_obeyLast 1 (.getfield 18) 3 4 := ⟨by decide +kernel, rfl⟩
theorem D_Rd_obeyLast_4 : xd m_Rd_obeyLast 4 (.aload_n 0) 1 5 := ⟨by decide +kernel, rfl⟩
theorem D_Rd_obeyLast_5 : xd m_Rd_obeyLast 5 (.getfield 39) 3 8 := ⟨by decide +kernel, rfl⟩
theorem D_Rd_obeyLast_8 : xd m_Rd_obeyLast 8 (.iconst 1) 1 9 := ⟨by decide +kernel, rfl⟩
theorem D_Rd_obeyLast_9 : xd m_Rd_obeyLast 9 (.iadd) 1 10 := ⟨by decide +kernel, rfl⟩
theorem D_Rd_obeyLast_10 : xd m_Rd_obeyLast 10 (.iconst 4) 1 11 := ⟨by decide +kernel, rfl⟩
theorem D_Rd_obeyLast_11 : xd m_Rd_obeyLast 11 (.invokevirtual 88) 3 14 := ⟨by decide +kernel, rfl⟩
theorem D_Rd_obeyLast_14 : xd m_Rd_obeyLast 14 (.aload_n 0) 1 15 := ⟨by decide +kernel, rfl⟩
theorem D_Rd_obeyLast_15 : xd m_Rd_obeyLast 15 (.getfield 42) 3 18 := ⟨by decide +kernel, rfl⟩
theorem D_Rd_obeyLast_18 : xd m_Rd_obeyLast 18 (.if_icmp .eq 5) 3 21 := ⟨by decide +kernel, rfl⟩
theorem D_Rd_obeyLast_21 : xd m_Rd_obeyLast 21 (.iconst 5) 1 22 := ⟨by decide +kernel, rfl⟩
theorem D_Rd_obeyLast_22 : xd m_Rd_obeyLast 22 (.ireturn) 1 23 := ⟨by decide +kernel, rfl⟩
theorem D_Rd_obeyLast_23 : xd m_Rd_obeyLast 23 (.iconst 0) 1 24 := ⟨by decide +kernel, rfl⟩
theorem D_Rd_obeyLast_24 : xd m_Rd_obeyLast 24 (.istore_n 1) 1 25 := ⟨by decide +kernel, rfl⟩
theorem D_Rd_obeyLast_25 : xd m_Rd_obeyLast 25 (.iload_n 1) 1 26 := ⟨by decide +kernel, rfl⟩
theorem D_Rd_obeyLast_26 : xd m_Rd_obeyLast 26 (.iconst 3) 1 27 := ⟨by decide +kernel, rfl⟩
theorem D_Rd_obeyLast_27 : xd m_Rd_obeyLast 27 (.if_icmp .ge 46) 3 30 := ⟨by decide +kernel, rfl⟩
theorem D_Rd_obeyLast_30 : xd m_Rd_obeyLast 30 (.aload_n 0) 1 31 := ⟨by decide +kernel, rfl⟩
theorem D_Rd_obeyLast_31 : xd m_Rd_obeyLast 31 (.getfield 18) 3 34 := ⟨by decide +kernel, rfl⟩
theorem D_Rd_obeyLast_34 : xd m_Rd_obeyLast 34 (.aload_n 0) 1 35 := ⟨by decide +kernel, rfl⟩
theorem D_Rd_obeyLast_35 : xd m_Rd_obeyLast 35 (.getfield 39) 3 38 := ⟨by decide +kernel, rfl⟩
theorem D_Rd_obeyLast_38 : xd m_Rd_obeyLast 38 (.iconst 5) 1 39 := ⟨by decide +kernel, rfl⟩
theorem D_Rd_obeyLast_39 : xd m_Rd_obeyLast 39 (.iadd) 1 40 := ⟨by decide +kernel, rfl⟩
theorem D_Rd_obeyLast_40 : xd m_Rd_obeyLast 40 (.iconst 4) 1 41 := ⟨by decide +kernel, rfl⟩
theorem D_Rd_obeyLast_41 : xd m_Rd_obeyLast 41 (.iload_n 1) 1 42 := ⟨by decide +kernel, rfl⟩
theorem D_Rd_obeyLast_42 : xd m_Rd_obeyLast 42 (.imul) 1 43 := ⟨by decide +kernel, rfl⟩
theorem D_Rd_obeyLast_43 : xd m_Rd_obeyLast 43 (.iadd) 1 44 := ⟨by decide +kernel, rfl⟩
theorem D_Rd_obeyLast_44 : xd m_Rd_obeyLast 44 (.iconst 4) 1 45 := ⟨by decide +kernel, rfl⟩
theorem D_Rd_obeyLast_45 : xd m_Rd_obeyLast 45 (.invokevirtual 88) 3 48 := ⟨by decide +kernel, rfl⟩
theorem D_Rd_obeyLast_48 : xd m_Rd_obeyLast 48 (.aload_n 0) 1 49 := ⟨by decide +kernel, rfl⟩
theorem D_Rd_obeyLast_49 : xd m_Rd_obeyLast 49 (.getfield 18) 3 52 := ⟨by decide +kernel, rfl⟩
theorem D_Rd_obeyLast_52 : xd m_Rd_obeyLast 52 (.iconst 2) 1 53 := ⟨by decide +kernel, rfl⟩
theorem D_Rd_obeyLast_53 : xd m_Rd_obeyLast 53 (.iconst 4) 1 54 := ⟨by decide +kernel, rfl⟩
theorem D_Rd_obeyLast_54 : xd m_Rd_obeyLast 54 (.iload_n 1) 1 55 := ⟨by decide +kernel, rfl⟩
theorem D_Rd_obeyLast_55 : xd m_Rd_obeyLast 55 (.imul) 1 56 := ⟨by decide +kernel, rfl⟩
theorem D_Rd_obeyLast_56 : xd m_Rd_obeyLast 56 (.iadd) 1 57 := ⟨by decide +kernel, rfl⟩
theorem D_Rd_obeyLast_57 : xd m_Rd_obeyLast 57 (.iconst 4) 1 58 := ⟨by decide +kernel, rfl⟩
theorem D_Rd_obeyLast_58 : xd m_Rd_obeyLast 58 (.invokevirtual 88) 3 61 := ⟨by decide +kernel, rfl⟩
theorem D_Rd_obeyLast_61 : xd m_Rd_obeyLast 61 (.if_icmp .eq 6) 3 64 := ⟨by decide +kernel, rfl⟩
theorem D_Rd_obeyLast_64 : xd m_Rd_obeyLast 64 (.bipush 6) 2 66 := ⟨by decide +kernel, rfl⟩
theorem D_Rd_obeyLast_66 : xd m_Rd_obeyLast 66 (.ireturn) 1 67 := ⟨by decide +kernel, rfl⟩
theorem D_Rd_obeyLast_67 : xd m_Rd_obeyLast 67 (.iinc 1 1) 3 70 := ⟨by decide +kernel, rfl⟩
theorem D_Rd_obeyLast_70 : xd m_Rd_obeyLast 70 (.goto (-45)) 3 73 := ⟨by decide +kernel, rfl⟩
theorem D_Rd_obeyLast_73 : xd m_Rd_obeyLast 73 (.aload_n 0) 1 74 := ⟨by decide +kernel, rfl⟩
theorem D_Rd_obeyLast_74 : xd m_Rd_obeyLast 74 (.getfield 18) 3 77 := ⟨by decide +kernel, rfl⟩
theorem D_Rd_obeyLast_77 : xd m_Rd_obeyLast 77 (.aload_n 0) 1 78 := ⟨by decide +kernel, rfl⟩
theorem D_Rd_obeyLast_78 : xd m_Rd_obeyLast 78 (.getfield 39) 3 81 := ⟨by decide +kernel, rfl⟩
theorem D_Rd_obeyLast_81 : xd m_Rd_obeyLast 81 (.bipush 27) 2 83 := ⟨by decide +kernel, rfl⟩
theorem D_Rd_obeyLast_83 : xd m_Rd_obeyLast 83 (.iadd) 1 84 := ⟨by decide +kernel, rfl⟩
theorem D_Rd_obeyLast_84 : xd m_Rd_obeyLast 84 (.iconst 2) 1 85 := ⟨by decide +kernel, rfl⟩
theorem D_Rd_obeyLast_85 : xd m_Rd_obeyLast 85 (.invokevirtual 88) 3 88 := ⟨by decide +kernel, rfl⟩
theorem D_Rd_obeyLast_88 : xd m_Rd_obeyLast 88 (.aload_n 0) 1 89 := ⟨by decide +kernel, rfl⟩
theorem D_Rd_obeyLast_89 : xd m_Rd_obeyLast 89 (.getfield 26) 3 92 := ⟨by decide +kernel, rfl⟩
theorem D_Rd_obeyLast_92 : xd m_Rd_obeyLast 92 (.getfield 176) 3 95 := ⟨by decide +kernel, rfl⟩
theorem D_Rd_obeyLast_95 : xd m_Rd_obeyLast 95 (.ldc 179) 2 97 := ⟨by decide +kernel, rfl⟩
theorem D_Rd_obeyLast_97 : xd m_Rd_obeyLast 97 (.iand) 1 98 := ⟨by decide +kernel, rfl⟩
theorem D_Rd_obeyLast_98 : xd m_Rd_obeyLast 98 (.if_icmp .eq 6) 3 101 := ⟨by decide +kernel, rfl⟩
theorem D_Rd_obeyLast_101 : xd m_Rd_obeyLast 101 (.bipush 6) 2 103 := ⟨by decide +kernel, rfl⟩
theorem D_Rd_obeyLast_103 : xd m_Rd_obeyLast 103 (.ireturn) 1 104 := ⟨by decide +kernel, rfl⟩
theorem D_Rd_obeyLast_104 : xd m_Rd_obeyLast 104 (.aload_n 0) 1 105 := ⟨by decide +kernel, rfl⟩
theorem D_Rd_obeyLast_105 : xd m_Rd_obeyLast 105 (.getfield 26) 3 108 := ⟨by decide +kernel, rfl⟩
theorem D_Rd_obeyLast_108 : xd m_Rd_obeyLast 108 (.aload_n 0) 1 109 := ⟨by decide +kernel, rfl⟩
theorem D_Rd_obeyLast_109 : xd m_Rd_obeyLast 109 (.getfield 18) 3 112 := ⟨by decide +kernel, rfl⟩
theorem D_Rd_obeyLast_112 : xd m_Rd_obeyLast 112 (.aload_n 0) 1 113 := ⟨by decide +kernel, rfl⟩
theorem D_Rd_obeyLast_113 : xd m_Rd_obeyLast 113 (.getfield 39) 3 116 := ⟨by decide +kernel, rfl⟩
theorem D_Rd_obeyLast_116 : xd m_Rd_obeyLast 116 (.bipush 17) 2 118 := ⟨by decide +kernel, rfl⟩
theorem D_Rd_obeyLast_118 : xd m_Rd_obeyLast 118 (.iadd) 1 119 := ⟨by decide +kernel, rfl⟩
theorem D_Rd_obeyLast_119 : xd m_Rd_obeyLast 119 (.iconst 4) 1 120 := ⟨by decide +kernel, rfl⟩
theorem D_Rd_obeyLast_120 : xd m_Rd_obeyLast 120 (.invokevirtual 88) 3 123 := ⟨by decide +kernel, rfl⟩
theorem D_Rd_obeyLast_123 : xd m_Rd_obeyLast 123 (.putfield 180) 3 126 := ⟨by decide +kernel, rfl⟩
theorem D_Rd_obeyLast_126 : xd m_Rd_obeyLast 126 (.aload_n 0) 1 127 := ⟨by decide +kernel, rfl⟩
theorem D_Rd_obeyLast_127 : xd m_Rd_obeyLast 127 (.getfield 26) 3 130 := ⟨by decide +kernel, rfl⟩
theorem D_Rd_obeyLast_130 : xd m_Rd_obeyLast 130 (.aload_n 0) 1 131 := ⟨by decide +kernel, rfl⟩
theorem D_Rd_obeyLast_131 : xd m_Rd_obeyLast 131 (.getfield 18) 3 134 := ⟨by decide +kernel, rfl⟩
theorem D_Rd_obeyLast_134 : xd m_Rd_obeyLast 134 (.aload_n 0) 1 135 := ⟨by decide +kernel, rfl⟩
theorem D_Rd_obeyLast_135 : xd m_Rd_obeyLast 135 (.getfield 39) 3 138 := ⟨by decide +kernel, rfl⟩
theorem D_Rd_obeyLast_138 : xd m_Rd_obeyLast 138 (.bipush 21) 2 140 := ⟨by decide +kernel, rfl⟩
theorem D_Rd_obeyLast_140 : xd m_Rd_obeyLast 140 (.iadd) 1 141 := ⟨by decide +kernel, rfl⟩
theorem D_Rd_obeyLast_141 : xd m_Rd_obeyLast 141 (.iconst 4) 1 142 := ⟨by decide +kernel, rfl⟩
theorem D_Rd_obeyLast_142 : xd m_Rd_obeyLast 142 (.invokevirtual 88) 3 145 := ⟨by decide +kernel, rfl⟩
theorem D_Rd_obeyLast_145 : xd m_Rd_obeyLast 145 (.putfield 183) 3 148 := ⟨by decide +kernel, rfl⟩
theorem D_Rd_obeyLast_148 : xd m_Rd_obeyLast 148 (.aload_n 0) 1 149 := ⟨by decide +kernel, rfl⟩
theorem D_Rd_obeyLast_149 : xd m_Rd_obeyLast 149 (.aload_n 0) 1 150 := ⟨by decide +kernel, rfl⟩
theorem D_Rd_obeyLast_150 : xd m_Rd_obeyLast 150 (.getfield 39) 3 153 := ⟨by decide +kernel, rfl⟩
theorem D_Rd_obeyLast_153 : xd m_Rd_obeyLast 153 (.putfield 122) 3 156 := ⟨by decide +kernel, rfl⟩
theorem D_Rd_obeyLast_156 : xd m_Rd_obeyLast 156 (.aload_n 0) 1 157 := ⟨by decide +kernel, rfl⟩
theorem D_Rd_obeyLast_157 : xd m_Rd_obeyLast 157 (.iconst 3) 1 158 := ⟨by decide +kernel, rfl⟩
theorem D_Rd_obeyLast_158 : xd m_Rd_obeyLast 158 (.putfield 35) 3 161 := ⟨by decide +kernel, rfl⟩
theorem D_Rd_obeyLast_161 : xd m_Rd_obeyLast 161 (.iconst 0) 1 162 := ⟨by decide +kernel, rfl⟩
theorem D_Rd_obeyLast_162 : xd m_Rd_obeyLast 162 (.ireturn) 1 163 := ⟨by decide +kernel, rfl⟩
theorem D_Rg_init_0 : xd m_Rg_init 0 (.aload_n 0) 1 1 := ⟨by decide +kernel, rfl⟩
theorem D_Rg_init_1 : xd m_Rg_init 1 (.invokespecial 3) 3 4 := ⟨by decide +kernel, rfl⟩
theorem D_Rg_init_4 : xd m_Rg_init 4 (.aload_n 0) 1 5 := ⟨by decide +kernel, rfl⟩
theorem D_Rg_init_5 : xd m_Rg_init 5 (.sipush 12000) 3 8 := ⟨by decide +kernel, rfl⟩
theorem D_Rg_init_8 : xd m_Rg_init 8 (.newarray .int) 2 10 := ⟨by decide +kernel, rfl⟩
theorem D_Rg_init_10 : xd m_Rg_init 10 (.putfield 11) 3 13 := ⟨by decide +kernel, rfl⟩
theorem D_Rg_init_13 : xd m_Rg_init 13 (.aload_n 0) 1 14 := ⟨by decide +kernel, rfl⟩
theorem D_Rg_init_14 : xd m_Rg_init 14 (.sipush 13000) 3 17 := ⟨by decide +kernel, rfl⟩
theorem D_Rg_init_17 : xd m_Rg_init 17 (.newarray .int) 2 19 := ⟨by decide +kernel, rfl⟩
theorem D_Rg_init_19 : xd m_Rg_init 19 (.putfield 15) 3 22 := ⟨by decide +kernel, rfl⟩
theorem D_Rg_init_22 : xd m_Rg_init 22 (.aload_n 0) 1 23 := ⟨by decide +kernel, rfl⟩
theorem D_Rg_init_23 : xd m_Rg_init 23 (.sipush 1280) 3 26 := ⟨by decide +kernel, rfl⟩
theorem D_Rg_init_26 : xd m_Rg_init 26 (.newarray .int) 2 28 := ⟨by decide +kernel, rfl⟩
theorem D_Rg_init_28 : xd m_Rg_init 28 (.putfield 18) 3 31 := ⟨by decide +kernel, rfl⟩
theorem D_Rg_init_31 : xd m_Rg_init 31 (.aload_n 0) 1 32 := ⟨by decide +kernel, rfl⟩
theorem D_Rg_init_32 : xd m_Rg_init 32 (.sipush 256) 3 35 := ⟨by decide +kernel, rfl⟩
theorem D_Rg_init_35 : xd m_Rg_init 35 (.newarray .int) 2 37 := ⟨by decide +kernel, rfl⟩
theorem D_Rg_init_37 : xd m_Rg_init 37 (.putfield 21) 3 40 := ⟨by decide +kernel, rfl⟩
theorem D_Rg_init_40 : xd m_Rg_init 40 (.aload_n 0) 1 41 := ⟨by decide +kernel, rfl⟩
theorem D_Rg_init_41 : xd m_Rg_init 41 (.new 24) 3 44 := ⟨by decide +kernel, rfl⟩
theorem D_Rg_init_44 : xd m_Rg_init 44 (.dup) 1 45 := ⟨by decide +kernel, rfl⟩
theorem D_Rg_init_45 : xd m_Rg_init 45 (.invokespecial 26) 3 48 := ⟨by decide +kernel, rfl⟩
theorem D_Rg_init_48 : xd m_Rg_init 48 (.putfield 27) 3 51 := ⟨by decide +kernel, rfl⟩
theorem D_Rg_init_51 : xd m_Rg_init 51 (.return_) 1 52 := ⟨by decide +kernel, rfl⟩
theorem D_Rg_clear_0 : xd m_Rg_clear 0 (.aload_n 0) 1 1 := ⟨by decide +kernel, rfl⟩
theorem D_Rg_clear_1 : xd m_Rg_clear 1 (.getfield 27) 3 4 := ⟨by decide +kernel, rfl⟩
theorem D_Rg_clear_4 : xd m_Rg_clear 4 (.iconst 0) 1 5 := ⟨by decide +kernel, rfl⟩
theorem D_Rg_clear_5 : xd m_Rg_clear 5 (.invokevirtual 31) 3 8 := ⟨by decide +kernel, rfl⟩
theorem D_Rg_clear_8 : xd m_Rg_clear 8 (.aload_n 0) 1 9 := ⟨by decide +kernel, rfl⟩
theorem D_Rg_clear_9 : xd m_Rg_clear 9 (.iconst 0) 1 10 := ⟨by decide +kernel, rfl⟩
theorem D_Rg_clear_10 : xd m_Rg_clear 10 (.putfield 35) 3 13 := ⟨by decide +kernel, rfl⟩
theorem D_Rg_clear_13 : xd m_Rg_clear 13 (.aload_n 0) 1 14 := ⟨by decide +kernel, rfl⟩
theorem D_Rg_clear_14 : xd m_Rg_clear 14 (.iconst 0) 1 15 := ⟨by decide +kernel, rfl⟩
theorem D_Rg_clear_15 : xd m_Rg_clear 15 (.putfield 39) 3 18 := ⟨by decide +kernel, rfl⟩
theorem D_Rg_clear_18 : xd m_Rg_clear 18 (.aload_n 0) 1 19 := ⟨by decide +kernel, rfl⟩
theorem D_Rg_clear_19 : xd m_Rg_clear 19 (.iconst 0) 1 20 := ⟨by decide +kernel, rfl⟩
theorem D_Rg_clear_20 : xd m_Rg_clear 20 (.putfield 42) 3 23 := ⟨by decide +kernel, rfl⟩
theorem D_Rg_clear_23 : xd m_Rg_clear 23 (.aload_n 0) 1 24 := ⟨by decide +kernel, rfl⟩
theorem D_Rg_clear_24 : xd m_Rg_clear 24 (.iconst 0) 1 25 := ⟨by decide +kernel, rfl⟩
theorem D_Rg_clear_25 : xd m_Rg_clear 25 (.putfield 45) 3 28 := ⟨by decide +kernel, rfl⟩
theorem D_Rg_clear_28 : xd m_Rg_clear 28 (.aload_n 0) 1 29 := ⟨by decide +kernel, rfl⟩
theorem D_Rg_clear_29 : xd m_Rg_clear 29 (.iconst 0) 1 30 := ⟨by decide +kernel, rfl⟩
theorem D_Rg_clear_30 : xd m_Rg_clear 30 (.putfield 48) 3 33 := ⟨by decide +kernel, rfl⟩
theorem D_Rg_clear_33 : xd m_Rg_clear 33 (.aload_n 0) 1 34 := ⟨by decide +kernel, rfl⟩
theorem D_Rg_clear_34 : xd m_Rg_clear 34 (.iconst 0) 1 35 := ⟨by decide +kernel, rfl⟩
theorem D_Rg_clear_35 : xd m_Rg_clear 35 (.putfield 51) 3 38 := ⟨by decide +kernel, rfl⟩
theorem D_Rg_clear_38 : xd m_Rg_clear 38 (.aload_n 0) 1 39 := ⟨by decide +kernel, rfl⟩
theorem D_Rg_clear_39 : xd m_Rg_clear 39 (.iconst 0) 1 40 := ⟨by decide +kernel, rfl⟩
theorem D_Rg_clear_40 : xd m_Rg_clear 40 (.putfield 54) 3 43 := ⟨by decide +kernel, rfl⟩
theorem D_Rg_clear_43 : xd m_Rg_clear 43 (.return_) 1 44 := ⟨by decide +kernel, rfl⟩
theorem D_Rg_markPart_0 : xd m_Rg_markPart 0 (.iload_n 1) 1 1 := ⟨by decide +kernel, rfl⟩
theorem D_Rg_markPart_1 : xd m_Rg_markPart 1 (.aload_n 0) 1 2 := ⟨by decide +kernel, rfl⟩
theorem D_Rg_markPart_2 : xd m_Rg_markPart 2 (.getfield 35) 3 5 := ⟨by decide +kernel, rfl⟩
theorem D_Rg_markPart_5 : xd m_Rg_markPart 5 (.sipush 2000) 3 8 := ⟨by decide +kernel, rfl⟩
theorem D_Rg_markPart_8 : xd m_Rg_markPart 8 (.invokestatic 57) 3 11 := ⟨by decide +kernel, rfl⟩
theorem D_Rg_markPart_11 : xd m_Rg_markPart 11 (.ifCond .eq 18) 3 14 := ⟨by decide +kernel, rfl⟩
theorem D_Rg_markPart_14 : xd m_Rg_markPart 14 (.iload_n 2) 1 15 := ⟨by decide +kernel, rfl⟩
theorem D_Rg_markPart_15 : xd m_Rg_markPart 15 (.bipush 6) 2 17 := ⟨by decide +kernel, rfl⟩
theorem D_Rg_markPart_17 : xd m_Rg_markPart 17 (.bipush 6) 2 19 := ⟨by decide +kernel, rfl⟩
theorem D_Rg_markPart_19 : xd m_Rg_markPart 19 (.invokestatic 57) 3 22 := ⟨by decide +kernel, rfl⟩
theorem D_Rg_markPart_22 : xd m_Rg_markPart 22 (.ifCond .eq 7) 3 25 := ⟨by decide +kernel, rfl⟩
theorem D_Rg_markPart_25 : xd m_Rg_markPart 25 (.iconst 1) 1 26 := ⟨by decide +kernel, rfl⟩
theorem D_Rg_markPart_26 : xd m_Rg_markPart 26 (.goto 4) 3 29 := ⟨by decide +kernel, rfl⟩
theorem D_Rg_markPart_29 : xd m_Rg_markPart 29 (.iconst 0) 1 30 := ⟨by decide +kernel, rfl⟩
theorem D_Rg_markPart_30 : xd m_Rg_markPart 30 (.istore_n 3) 1 31 := ⟨by decide +kernel, rfl⟩
theorem D_Rg_markPart_31 : xd m_Rg_markPart 31 (.iload_n 3) 1 32 := ⟨by decide +kernel, rfl⟩
theorem D_Rg_markPart_32 : xd m_Rg_markPart 32 (.ifCond .eq 17) 3 35 := ⟨by decide +kernel, rfl⟩
theorem D_Rg_markPart_35 : xd m_Rg_markPart 35 (.aload_n 0) 1 36 := ⟨by decide +kernel, rfl⟩
theorem D_Rg_markPart_36 : xd m_Rg_markPart 36 (.getfield 11) 3 39 := ⟨by decide +kernel, rfl⟩
theorem D_Rg_markPart_39 : xd m_Rg_markPart 39 (.iload_n 1) 1 40 := ⟨by decide +kernel, rfl⟩
theorem D_Rg_markPart_40 : xd m_Rg_markPart 40 (.bipush 6) 2 42 := ⟨by decide +kernel, rfl⟩
theorem D_Rg_markPart_42 : xd m_Rg_markPart 42 (.imul) 1 43 := ⟨by decide +kernel, rfl⟩
theorem D_Rg_markPart_43 : xd m_Rg_markPart 43 (.iload_n 2) 1 44 := ⟨by decide +kernel, rfl⟩
theorem D_Rg_markPart_44 : xd m_Rg_markPart 44 (.iadd) 1 45 := ⟨by decide +kernel, rfl⟩
theorem D_Rg_markPart_45 : xd m_Rg_markPart 45 (.iaload) 1 46 := ⟨by decide +kernel, rfl⟩
theorem D_Rg_markPart_46 : xd m_Rg_markPart 46 (.goto 4) 3 49 := ⟨by decide +kernel, rfl⟩
theorem D_Rg_markPart_49 : xd m_Rg_markPart 49 (.iconst 0) 1 50 := ⟨by decide +kernel, rfl⟩
theorem D_Rg_markPart_50 : xd m_Rg_markPart 50 (.ireturn) 1 51 := ⟨by decide +kernel, rfl⟩
theorem D_Rg_pagePart_0 : xd m_Rg_pagePart 0 (.iload_n 1) 1 1 := ⟨by decide +kernel, rfl⟩
theorem D_Rg_pagePart_1 : xd m_Rg_pagePart 1 (.aload_n 0) 1 2 := ⟨by decide +kernel, rfl⟩
theorem D_Rg_pagePart_2 : xd m_Rg_pagePart 2 (.getfield 39) 3 5 := ⟨by decide +kernel, rfl⟩
theorem D_Rg_pagePart_5 : xd m_Rg_pagePart 5 (.sipush 1300) 3 8 := ⟨by decide +kernel, rfl⟩
theorem D_Rg_pagePart_8 : xd m_Rg_pagePart 8 (.invokestatic 57) 3 11 := ⟨by decide +kernel, rfl⟩
theorem D_Rg_pagePart_11 : xd m_Rg_pagePart 11 (.ifCond .eq 18) 3 14 := ⟨by decide +kernel, rfl⟩
theorem D_Rg_pagePart_14 : xd m_Rg_pagePart 14 (.iload_n 2) 1 15 := ⟨by decide +kernel, rfl⟩
theorem D_Rg_pagePart_15 : xd m_Rg_pagePart 15 (.bipush 10) 2 17 := ⟨by decide +kernel, rfl⟩
theorem D_Rg_pagePart_17 : xd m_Rg_pagePart 17 (.bipush 10) 2 19 := ⟨by decide +kernel, rfl⟩
theorem D_Rg_pagePart_19 : xd m_Rg_pagePart 19 (.invokestatic 57) 3 22 := ⟨by decide +kernel, rfl⟩
theorem D_Rg_pagePart_22 : xd m_Rg_pagePart 22 (.ifCond .eq 7) 3 25 := ⟨by decide +kernel, rfl⟩
theorem D_Rg_pagePart_25 : xd m_Rg_pagePart 25 (.iconst 1) 1 26 := ⟨by decide +kernel, rfl⟩
theorem D_Rg_pagePart_26 : xd m_Rg_pagePart 26 (.goto 4) 3 29 := ⟨by decide +kernel, rfl⟩
theorem D_Rg_pagePart_29 : xd m_Rg_pagePart 29 (.iconst 0) 1 30 := ⟨by decide +kernel, rfl⟩
theorem D_Rg_pagePart_30 : xd m_Rg_pagePart 30 (.istore_n 3) 1 31 := ⟨by decide +kernel, rfl⟩
theorem D_Rg_pagePart_31 : xd m_Rg_pagePart 31 (.iload_n 3) 1 32 := ⟨by decide +kernel, rfl⟩
theorem D_Rg_pagePart_32 : xd m_Rg_pagePart 32 (.ifCond .eq 17) 3 35 := ⟨by decide +kernel, rfl⟩
theorem D_Rg_pagePart_35 : xd m_Rg_pagePart 35 (.aload_n 0) 1 36 := ⟨by decide +kernel, rfl⟩
theorem D_Rg_pagePart_36 : xd m_Rg_pagePart 36 (.getfield 15) 3 39 := ⟨by decide +kernel, rfl⟩
theorem D_Rg_pagePart_39 : xd m_Rg_pagePart 39 (.iload_n 1) 1 40 := ⟨by decide +kernel, rfl⟩
theorem D_Rg_pagePart_40 : xd m_Rg_pagePart 40 (.bipush 10) 2 42 := ⟨by decide +kernel, rfl⟩
theorem D_Rg_pagePart_42 : xd m_Rg_pagePart 42 (.imul) 1 43 := ⟨by decide +kernel, rfl⟩
theorem D_Rg_pagePart_43 : xd m_Rg_pagePart 43 (.iload_n 2) 1 44 := ⟨by decide +kernel, rfl⟩
theorem D_Rg_pagePart_44 : xd m_Rg_pagePart 44 (.iadd) 1 45 := ⟨by decide +kernel, rfl⟩
theorem D_Rg_pagePart_45 : xd m_Rg_pagePart 45 (.iaload) 1 46 := ⟨by decide +kernel, rfl⟩
theorem D_Rg_pagePart_46 : xd m_Rg_pagePart 46 (.goto 4) 3 49 := ⟨by decide +kernel, rfl⟩
theorem D_Rg_pagePart_49 : xd m_Rg_pagePart 49 (.iconst 0) 1 50 := ⟨by decide +kernel, rfl⟩
theorem D_Rg_pagePart_50 : xd m_Rg_pagePart 50 (.ireturn) 1 51 := ⟨by decide +kernel, rfl⟩
theorem D_Rg_fontPart_0 : xd m_Rg_fontPart 0 (.iload_n 1) 1 1 := ⟨by decide +kernel, rfl⟩
theorem D_Rg_fontPart_1 : xd m_Rg_fontPart 1 (.aload_n 0) 1 2 := ⟨by decide +kernel, rfl⟩
theorem D_Rg_fontPart_2 : xd m_Rg_fontPart 2 (.getfield 42) 3 5 := ⟨by decide +kernel, rfl⟩
theorem D_Rg_fontPart_5 : xd m_Rg_fontPart 5 (.sipush 256) 3 8 := ⟨by decide +kernel, rfl⟩
theorem D_Rg_fontPart_8 : xd m_Rg_fontPart 8 (.invokestatic 57) 3 11 := ⟨by decide +kernel, rfl⟩
theorem D_Rg_fontPart_11 : xd m_Rg_fontPart 11 (.ifCond .eq 7) 3 14 := ⟨by decide +kernel, rfl⟩
theorem D_Rg_fontPart_14 : xd m_Rg_fontPart 14 (.iload_n 2) 1 15 := ⟨by decide +kernel, rfl⟩
theorem D_Rg_fontPart_15 : xd m_Rg_fontPart 15 (.ifCond .ge 5) 3 18 := ⟨by decide +kernel, rfl⟩
theorem D_Rg_fontPart_18 : xd m_Rg_fontPart 18 (.iconst 0) 1 19 := ⟨by decide +kernel, rfl⟩
theorem D_Rg_fontPart_19 : xd m_Rg_fontPart 19 (.ireturn) 1 20 := ⟨by decide +kernel, rfl⟩
theorem D_Rg_fontPart_20 : xd m_Rg_fontPart 20 (.iload_n 2) 1 21 := ⟨by decide +kernel, rfl⟩
theorem D_Rg_fontPart_21 : xd m_Rg_fontPart 21 (.iconst 5) 1 22 := ⟨by decide +kernel, rfl⟩
theorem D_Rg_fontPart_22 : xd m_Rg_fontPart 22 (.if_icmp .ge 14) 3 25 := ⟨by decide +kernel, rfl⟩
theorem D_Rg_fontPart_25 : xd m_Rg_fontPart 25 (.aload_n 0) 1 26 := ⟨by decide +kernel, rfl⟩
theorem D_Rg_fontPart_26 : xd m_Rg_fontPart 26 (.getfield 18) 3 29 := ⟨by decide +kernel, rfl⟩
theorem D_Rg_fontPart_29 : xd m_Rg_fontPart 29 (.iload_n 1) 1 30 := ⟨by decide +kernel, rfl⟩
theorem D_Rg_fontPart_30 : xd m_Rg_fontPart 30 (.iconst 5) 1 31 := ⟨by decide +kernel, rfl⟩
theorem D_Rg_fontPart_31 : xd m_Rg_fontPart 31 (.imul) 1 32 := ⟨by decide +kernel, rfl⟩
theorem D_Rg_fontPart_32 : xd m_Rg_fontPart 32 (.iload_n 2) 1 33 := ⟨by decide +kernel, rfl⟩
theorem D_Rg_fontPart_33 : xd m_Rg_fontPart 33 (.iadd) 1 34 := ⟨by decide +kernel, rfl⟩
theorem D_Rg_fontPart_34 : xd m_Rg_fontPart 34 (.iaload) 1 35 := ⟨by decide +kernel, rfl⟩
theorem D_Rg_fontPart_35 : xd m_Rg_fontPart 35 (.ireturn) 1 36 := ⟨by decide +kernel, rfl⟩
theorem D_Rg_fontPart_36 : xd m_Rg_fontPart 36 (.iload_n 2) 1 37 := ⟨by decide +kernel, rfl⟩
theorem D_Rg_fontPart_37 : xd m_Rg_fontPart 37 (.iconst 5) 1 38 := ⟨by decide +kernel, rfl⟩
theorem D_Rg_fontPart_38 : xd m_Rg_fontPart 38 (.isub) 1 39 := ⟨by decide +kernel, rfl⟩
theorem D_Rg_fontPart_39 : xd m_Rg_fontPart 39 (.istore_n 3) 1 40 := ⟨by decide +kernel, rfl⟩
theorem D_Rg_fontPart_40 : xd m_Rg_fontPart 40 (.iload_n 3) 1 41 := ⟨by decide +kernel, rfl⟩
theorem D_Rg_fontPart_41 : xd m_Rg_fontPart 41 (.aload_n 0) 1 42 := ⟨by decide +kernel, rfl⟩
theorem D_Rg_fontPart_42 : xd m_Rg_fontPart 42 (.getfield 18) 3 45 := ⟨by decide +kernel, rfl⟩
theorem D_Rg_fontPart_45 : xd m_Rg_fontPart 45 (.iload_n 1) 1 46 := ⟨by decide +kernel, rfl⟩
theorem D_Rg_fontPart_46 : xd m_Rg_fontPart 46 (.iconst 5) 1 47 := ⟨by decide +kernel, rfl⟩
theorem D_Rg_fontPart_47 : xd m_Rg_fontPart 47 (.imul) 1 48 := ⟨by decide +kernel, rfl⟩
theorem D_Rg_fontPart_48 : xd m_Rg_fontPart 48 (.iconst 4) 1 49 := ⟨by decide +kernel, rfl⟩
theorem D_Rg_fontPart_49 : xd m_Rg_fontPart 49 (.iadd) 1 50 := ⟨by decide +kernel, rfl⟩
theorem D_Rg_fontPart_50 : xd m_Rg_fontPart 50 (.iaload) 1 51 := ⟨by decide +kernel, rfl⟩
theorem D_Rg_fontPart_51 : xd m_Rg_fontPart 51 (.if_icmp .ge 21) 3 54 := ⟨by decide +kernel, rfl⟩
theorem D_Rg_fontPart_54 : xd m_Rg_fontPart 54 (.aload_n 0) 1 55 := ⟨by decide +kernel, rfl⟩
theorem D_Rg_fontPart_55 : xd m_Rg_fontPart 55 (.getfield 27) 3 58 := ⟨by decide +kernel, rfl⟩
theorem D_Rg_fontPart_58 : xd m_Rg_fontPart 58 (.aload_n 0) 1 59 := ⟨by decide +kernel, rfl⟩
theorem D_Rg_fontPart_59 : xd m_Rg_fontPart 59 (.getfield 21) 3 62 := ⟨by decide +kernel, rfl⟩
theorem D_Rg_fontPart_62 : xd m_Rg_fontPart 62 (.iload_n 1) 1 63 := ⟨by decide +kernel, rfl⟩
theorem D_Rg_fontPart_63 : xd m_Rg_fontPart 63 (.iaload) 1 64 := ⟨by decide +kernel, rfl⟩
theorem D_Rg_fontPart_64 : xd m_Rg_fontPart 64 (.iload_n 3) 1 65 := ⟨by decide +kernel, rfl⟩
theorem D_Rg_fontPart_65 : xd m_Rg_fontPart 65 (.iadd) 1 66 := ⟨by decide +kernel, rfl⟩
theorem D_Rg_fontPart_66 : xd m_Rg_fontPart 66 (.invokevirtual 61) 3 69 := ⟨by decide +kernel, rfl⟩
theorem D_Rg_fontPart_69 : xd m_Rg_fontPart 69 (.goto 4) 3 72 := ⟨by decide +kernel, rfl⟩
theorem D_Rg_fontPart_72 : xd m_Rg_fontPart 72 (.iconst 0) 1 73 := ⟨by decide +kernel, rfl⟩
theorem D_Rg_fontPart_73 : xd m_Rg_fontPart 73 (.ireturn) 1 74 := ⟨by decide +kernel, rfl⟩
theorem D_Rg_isIn_0 : xd m_Rg_isIn 0 (.iload_n 0) 1 1 := ⟨by decide +kernel, rfl⟩
theorem D_Rg_isIn_1 : xd m_Rg_isIn 1 (.ifCond .lt 17) 3 4 := ⟨by decide +kernel, rfl⟩
theorem D_Rg_isIn_4 : xd m_Rg_isIn 4 (.iload_n 0) 1 5 := ⟨by decide +kernel, rfl⟩
theorem D_Rg_isIn_5 : xd m_Rg_isIn 5 (.iload_n 1) 1 6 := ⟨by decide +kernel, rfl⟩
theorem D_Rg_isIn_6 : xd m_Rg_isIn 6 (.if_icmp .ge 12) 3 9 := ⟨by decide +kernel, rfl⟩
theorem D_Rg_isIn_9 : xd m_Rg_isIn 9 (.iload_n 0) 1 10 := ⟨by decide +kernel, rfl⟩
theorem D_Rg_isIn_10 : xd m_Rg_isIn 10 (.iload_n 2) 1 11 := ⟨by decide +kernel, rfl⟩
theorem D_Rg_isIn_11 : xd m_Rg_isIn 11 (.if_icmp .ge 7) 3 14 := ⟨by decide +kernel, rfl⟩
theorem D_Rg_isIn_14 : xd m_Rg_isIn 14 (.iconst 1) 1 15 := ⟨by decide +kernel, rfl⟩
theorem D_Rg_isIn_15 : xd m_Rg_isIn 15 (.goto 4) 3 18 := ⟨by decide +kernel, rfl⟩
theorem D_Rg_isIn_18 : xd m_Rg_isIn 18 (.iconst 0) 1 19 := ⟨by decide +kernel, rfl⟩
theorem D_Rg_isIn_19 : xd m_Rg_isIn 19 (.ireturn) 1 20 := ⟨by decide +kernel, rfl⟩
theorem D_Rg_addMark_0 : xd m_Rg_addMark 0 (.aload_n 0) 1 1 := ⟨by decide +kernel, rfl⟩
theorem D_Rg_addMark_1 : xd m_Rg_addMark 1 (.getfield 35) 3 4 := ⟨by decide +kernel, rfl⟩
theorem D_Rg_addMark_4 : xd m_Rg_addMark 4 (.ifCond .lt 13) 3 7 := ⟨by decide +kernel, rfl⟩
theorem D_Rg_addMark_7 : xd m_Rg_addMark 7 (.aload_n 0) 1 8 := ⟨by decide +kernel, rfl⟩
theorem D_Rg_addMark_8 : xd m_Rg_addMark 8 (.getfield 35) 3 11 := ⟨by decide +kernel, rfl⟩
theorem D_Rg_addMark_11 : xd m_Rg_addMark 11 (.sipush 2000) 3 14 := ⟨by decide +kernel, rfl⟩
theorem D_Rg_addMark_14 : xd m_Rg_addMark 14 (.if_icmp .lt 5) 3 17 := ⟨by decide +kernel, rfl⟩
theorem D_Rg_addMark_17 : xd m_Rg_addMark 17 (.iconst 0) 1 18 := ⟨by decide +kernel, rfl⟩
theorem D_Rg_addMark_18 : xd m_Rg_addMark 18 (.ireturn) 1 19 := ⟨by decide +kernel, rfl⟩
theorem D_Rg_addMark_19 : xd m_Rg_addMark 19 (.aload_n 0) 1 20 := ⟨by decide +kernel, rfl⟩
theorem D_Rg_addMark_20 : xd m_Rg_addMark 20 (.getfield 35) 3 23 := ⟨by decide +kernel, rfl⟩
theorem D_Rg_addMark_23 : xd m_Rg_addMark 23 (.bipush 6) 2 25 := ⟨by decide +kernel, rfl⟩
theorem D_Rg_addMark_25 : xd m_Rg_addMark 25 (.imul) 1 26 := ⟨by decide +kernel, rfl⟩
theorem D_Rg_addMark_26 : xd m_Rg_addMark 26 (.istore 6) 2 28 := ⟨by decide +kernel, rfl⟩
theorem D_Rg_addMark_28 : xd m_Rg_addMark 28 (.aload_n 0) 1 29 := ⟨by decide +kernel, rfl⟩
theorem D_Rg_addMark_29 : xd m_Rg_addMark 29 (.getfield 11) 3 32 := ⟨by decide +kernel, rfl⟩
theorem D_Rg_addMark_32 : xd m_Rg_addMark 32 (.iload 6) 2 34 := ⟨by decide +kernel, rfl⟩
theorem D_Rg_addMark_34 : xd m_Rg_addMark 34 (.aload_n 0) 1 35 := ⟨by decide +kernel, rfl⟩
theorem D_Rg_addMark_35 : xd m_Rg_addMark 35 (.getfield 39) 3 38 := ⟨by decide +kernel, rfl⟩
theorem D_Rg_addMark_38 : xd m_Rg_addMark 38 (.iconst 1) 1 39 := ⟨by decide +kernel, rfl⟩
theorem D_Rg_addMark_39 : xd m_Rg_addMark 39 (.isub) 1 40 := ⟨by decide +kernel, rfl⟩
theorem D_Rg_addMark_40 : xd m_Rg_addMark 40 (.iastore) 1 41 := ⟨by decide +kernel, rfl⟩
theorem D_Rg_addMark_41 : xd m_Rg_addMark 41 (.aload_n 0) 1 42 := ⟨by decide +kernel, rfl⟩
theorem D_Rg_addMark_42 : xd m_Rg_addMark 42 (.getfield 11) 3 45 := ⟨by decide +kernel, rfl⟩
theorem D_Rg_addMark_45 : xd m_Rg_addMark 45 (.iload 6) 2 47 := ⟨by decide +kernel, rfl⟩
theorem D_Rg_addMark_47 : xd m_Rg_addMark 47 (.iconst 1) 1 48 := ⟨by decide +kernel, rfl⟩
theorem D_Rg_addMark_48 : xd m_Rg_addMark 48 (.iadd) 1 49 := ⟨by decide +kernel, rfl⟩
theorem D_Rg_addMark_49 : xd m_Rg_addMark 49 (.iload_n 1) 1 50 := ⟨by decide +kernel, rfl⟩
theorem D_Rg_addMark_50 : xd m_Rg_addMark 50 (.iastore) 1 51 := ⟨by decide +kernel, rfl⟩
theorem D_Rg_addMark_51 : xd m_Rg_addMark 51 (.aload_n 0) 1 52 := ⟨by decide +kernel, rfl⟩
theorem D_Rg_addMark_52 : xd m_Rg_addMark 52 (.getfield 11) 3 55 := ⟨by decide +kernel, rfl⟩
theorem D_Rg_addMark_55 : xd m_Rg_addMark 55 (.iload 6) 2 57 := ⟨by decide +kernel, rfl⟩
theorem D_Rg_addMark_57 : xd m_Rg_addMark 57 (.iconst 2) 1 58 := ⟨by decide +kernel, rfl⟩
theorem D_Rg_addMark_58 : xd m_Rg_addMark 58 (.iadd) 1 59 := ⟨by decide +kernel, rfl⟩
theorem D_Rg_addMark_59 : xd m_Rg_addMark 59 (.iload_n 2) 1 60 := ⟨by decide +kernel, rfl⟩
theorem D_Rg_addMark_60 : xd m_Rg_addMark 60 (.iastore) 1 61 := ⟨by decide +kernel, rfl⟩
theorem D_Rg_addMark_61 : xd m_Rg_addMark 61 (.aload_n 0) 1 62 := ⟨by decide +kernel, rfl⟩
theorem D_Rg_addMark_62 : xd m_Rg_addMark 62 (.getfield 11) 3 65 := ⟨by decide +kernel, rfl⟩
theorem D_Rg_addMark_65 : xd m_Rg_addMark 65 (.iload 6) 2 67 := ⟨by decide +kernel, rfl⟩
theorem D_Rg_addMark_67 : xd m_Rg_addMark 67 (.iconst 3) 1 68 := ⟨by decide +kernel, rfl⟩
theorem D_Rg_addMark_68 : xd m_Rg_addMark 68 (.iadd) 1 69 := ⟨by decide +kernel, rfl⟩
theorem D_Rg_addMark_69 : xd m_Rg_addMark 69 (.iload_n 3) 1 70 := ⟨by decide +kernel, rfl⟩
theorem D_Rg_addMark_70 : xd m_Rg_addMark 70 (.iastore) 1 71 := ⟨by decide +kernel, rfl⟩
theorem D_Rg_addMark_71 : xd m_Rg_addMark 71 (.aload_n 0) 1 72 := ⟨by decide +kernel, rfl⟩
theorem D_Rg_addMark_72 : xd m_Rg_addMark 72 (.getfield 11) 3 75 := ⟨by decide +kernel, rfl⟩
theorem D_Rg_addMark_75 : xd m_Rg_addMark 75 (.iload 6) 2 77 := ⟨by decide +kernel, rfl⟩
theorem D_Rg_addMark_77 : xd m_Rg_addMark 77 (.iconst 4) 1 78 := ⟨by decide +kernel, rfl⟩
theorem D_Rg_addMark_78 : xd m_Rg_addMark 78 (.iadd) 1 79 := ⟨by decide +kernel, rfl⟩
theorem D_Rg_addMark_79 : xd m_Rg_addMark 79 (.iload 4) 2 81 := ⟨by decide +kernel, rfl⟩
theorem D_Rg_addMark_81 : xd m_Rg_addMark 81 (.iastore) 1 82 := ⟨by decide +kernel, rfl⟩
theorem D_Rg_addMark_82 : xd m_Rg_addMark 82 (.aload_n 0) 1 83 := ⟨by decide +kernel, rfl⟩
theorem D_Rg_addMark_83 : xd m_Rg_addMark 83 (.getfield 11) 3 86 := ⟨by decide +kernel, rfl⟩
theorem D_Rg_addMark_86 : xd m_Rg_addMark 86 (.iload 6) 2 88 := ⟨by decide +kernel, rfl⟩
theorem D_Rg_addMark_88 : xd m_Rg_addMark 88 (.iconst 5) 1 89 := ⟨by decide +kernel, rfl⟩
theorem D_Rg_addMark_89 : xd m_Rg_addMark 89 (.iadd) 1 90 := ⟨by decide +kernel, rfl⟩
theorem D_Rg_addMark_90 : xd m_Rg_addMark 90 (.iload 5) 2 92 := ⟨by decide +kernel, rfl⟩
theorem D_Rg_addMark_92 : xd m_Rg_addMark 92 (.iastore) 1 93 := ⟨by decide +kernel, rfl⟩
theorem D_Rg_addMark_93 : xd m_Rg_addMark 93 (.aload_n 0) 1 94 := ⟨by decide +kernel, rfl⟩
theorem D_Rg_addMark_94 : xd m_Rg_addMark 94 (.dup) 1 95 := ⟨by decide +kernel, rfl⟩
theorem D_Rg_addMark_95 : xd m_Rg_addMark 95 (.getfield 35) 3 98 := ⟨by decide +kernel, rfl⟩
theorem D_Rg_addMark_98 : xd m_Rg_addMark 98 (.iconst 1) 1 99 := ⟨by decide +kernel, rfl⟩
theorem D_Rg_addMark_99 : xd m_Rg_addMark 99 (.iadd) 1 100 := ⟨by decide +kernel, rfl⟩
theorem D_Rg_addMark_100 : xd m_Rg_addMark 100 (.putfield 35) 3 103 := ⟨by decide +kernel, rfl⟩
theorem D_Rg_addMark_103 : xd m_Rg_addMark 103 (.iconst 1) 1 104 := ⟨by decide +kernel, rfl⟩
theorem D_Rg_addMark_104 : xd m_Rg_addMark 104 (.ireturn) 1 105 := ⟨by decide +kernel, rfl⟩
theorem D_Rg_addPage_0 : xd m_Rg_addPage 0 (.aload_n 0) 1 1 := ⟨by decide +kernel, rfl⟩
theorem D_Rg_addPage_1 : xd m_Rg_addPage 1 (.getfield 39) 3 4 := ⟨by decide +kernel, rfl⟩
theorem D_Rg_addPage_4 : xd m_Rg_addPage 4 (.ifCond .lt 13) 3 7 := ⟨by decide +kernel, rfl⟩
theorem D_Rg_addPage_7 : xd m_Rg_addPage 7 (.aload_n 0) 1 8 := ⟨by decide +kernel, rfl⟩
theorem D_Rg_addPage_8 : xd m_Rg_addPage 8 (.getfield 39) 3 11 := ⟨by decide +kernel, rfl⟩
theorem D_Rg_addPage_11 : xd m_Rg_addPage 11 (.sipush 1300) 3 14 := ⟨by decide +kernel, rfl⟩
theorem D_Rg_addPage_14 : xd m_Rg_addPage 14 (.if_icmp .lt 5) 3 17 := ⟨by decide +kernel, rfl⟩
theorem D_Rg_addPage_17 : xd m_Rg_addPage 17 (.iconst 0) 1 18 := ⟨by decide +kernel, rfl⟩
theorem D_Rg_addPage_18 : xd m_Rg_addPage 18 (.ireturn) 1 19 := ⟨by decide +kernel, rfl⟩
theorem D_Rg_addPage_19 : xd m_Rg_addPage 19 (.iconst 0) 1 20 := ⟨by decide +kernel, rfl⟩
theorem D_Rg_addPage_20 : xd m_Rg_addPage 20 (.istore_n 3) 1 21 := ⟨by decide +kernel, rfl⟩
theorem D_Rg_addPage_21 : xd m_Rg_addPage 21 (.iload_n 3) 1 22 := ⟨by decide +kernel, rfl⟩
theorem D_Rg_addPage_22 : xd m_Rg_addPage 22 (.bipush 10) 2 24 := ⟨by decide +kernel, rfl⟩
theorem D_Rg_addPage_24 : xd m_Rg_addPage 24 (.if_icmp .ge 33) 3 27 := ⟨by decide +kernel, rfl⟩
theorem D_Rg_addPage_27 : xd m_Rg_addPage 27 (.aload_n 0) 1 28 := ⟨by decide +kernel, rfl⟩
theorem D_Rg_addPage_28 : xd m_Rg_addPage 28 (.getfield 15) 3 31 := ⟨by decide +kernel, rfl⟩
theorem D_Rg_addPage_31 : xd m_Rg_addPage 31 (.aload_n 0) 1 32 := ⟨by decide +kernel, rfl⟩
theorem D_Rg_addPage_32 : xd m_Rg_addPage 32 (.getfield 39) 3 35 := ⟨by decide +kernel, rfl⟩
theorem D_Rg_addPage_35 : xd m_Rg_addPage 35 (.bipush 10) 2 37 := ⟨by decide +kernel, rfl⟩
theorem D_Rg_addPage_37 : xd m_Rg_addPage 37 (.imul) 1 38 := ⟨by decide +kernel, rfl⟩
theorem D_Rg_addPage_38 : xd m_Rg_addPage 38 (.iload_n 3) 1 39 := ⟨by decide +kernel, rfl⟩
theorem D_Rg_addPage_39 : xd m_Rg_addPage 39 (.iadd) 1 40 := ⟨by decide +kernel, rfl⟩
theorem D_Rg_addPage_40 : xd m_Rg_addPage 40 (.aload_n 1) 1 41 := ⟨by decide +kernel, rfl⟩
theorem D_Rg_addPage_41 : xd m_Rg_addPage 41 (.iload_n 2) 1 42 := ⟨by decide +kernel, rfl⟩
theorem D_Rg_addPage_42 : xd m_Rg_addPage 42 (.iconst 4) 1 43 := ⟨by decide +kernel, rfl⟩
theorem D_Rg_addPage_43 : xd m_Rg_addPage 43 (.iload_n 3) 1 44 := ⟨by decide +kernel, rfl⟩
theorem D_Rg_addPage_44 : xd m_Rg_addPage 44 (.imul) 1 45 := ⟨by decide +kernel, rfl⟩
theorem D_Rg_addPage_45 : xd m_Rg_addPage 45 (.iadd) 1 46 := ⟨by decide +kernel, rfl⟩
theorem D_Rg_addPage_46 : xd m_Rg_addPage 46 (.iconst 4) 1 47 := ⟨by decide +kernel, rfl⟩
theorem D_Rg_addPage_47 : xd m_Rg_addPage 47 (.invokevirtual 65) 3 50 := ⟨by decide +kernel, rfl⟩
theorem D_Rg_addPage_50 : xd m_Rg_addPage 50 (.iastore) 1 51 := ⟨by decide +kernel, rfl⟩
theorem D_Rg_addPage_51 : xd m_Rg_addPage 51 (.iinc 3 1) 3 54 := ⟨by decide +kernel, rfl⟩
theorem D_Rg_addPage_54 : xd m_Rg_addPage 54 (.goto (-33)) 3 57 := ⟨by decide +kernel, rfl⟩
theorem D_Rg_addPage_57 : xd m_Rg_addPage 57 (.aload_n 0) 1 58 := ⟨by decide +kernel, rfl⟩
theorem D_Rg_addPage_58 : xd m_Rg_addPage 58 (.dup) 1 59 := ⟨by decide +kernel, rfl⟩
theorem D_Rg_addPage_59 : xd m_Rg_addPage 59 (.getfield 39) 3 62 := ⟨by decide +kernel, rfl⟩
theorem D_Rg_addPage_62 : xd m_Rg_addPage 62 (.iconst 1) 1 63 := ⟨by decide +kernel, rfl⟩
theorem D_Rg_addPage_63 : xd m_Rg_addPage 63 (.iadd) 1 64 := ⟨by decide +kernel, rfl⟩
theorem D_Rg_addPage_64 : xd m_Rg_addPage 64 (.putfield 39) 3 67 := ⟨by decide +kernel, rfl⟩
theorem D_Rg_addPage_67 : xd m_Rg_addPage 67 (.iconst 1) 1 68 := ⟨by decide +kernel, rfl⟩
theorem D_Rg_addPage_68 : xd m_Rg_addPage 68 (.ireturn) 1 69 := ⟨by decide +kernel, rfl⟩
theorem D_Rg_findFont_0 : xd m_Rg_findFont 0 (.iconst 0) 1 1 := ⟨by decide +kernel, rfl⟩
theorem D_Rg_findFont_1 : xd m_Rg_findFont 1 (.istore_n 2) 1 2 := ⟨by decide +kernel, rfl⟩
theorem D_Rg_findFont_2 : xd m_Rg_findFont 2 (.iload_n 2) 1 3 := ⟨by decide +kernel, rfl⟩
theorem D_Rg_findFont_3 : xd m_Rg_findFont 3 (.aload_n 0) 1 4 := ⟨by decide +kernel, rfl⟩
theorem D_Rg_findFont_4 : xd m_Rg_findFont 4 (.getfield 42) 3 7 := ⟨by decide +kernel, rfl⟩
theorem D_Rg_findFont_7 : xd m_Rg_findFont 7 (.if_icmp .ge 30) 3 10 := ⟨by decide +kernel, rfl⟩
theorem D_Rg_findFont_10 : xd m_Rg_findFont 10 (.iload_n 2) 1 11 := ⟨by decide +kernel, rfl⟩
theorem D_Rg_findFont_11 : xd m_Rg_findFont 11 (.sipush 256) 3 14 := ⟨by decide +kernel, rfl⟩
theorem D_Rg_findFont_14 : xd m_Rg_findFont 14 (.if_icmp .ge 23) 3 17 := ⟨by decide +kernel, rfl⟩
theorem D_Rg_findFont_17 : xd m_Rg_findFont 17 (.aload_n 0) 1 18 := ⟨by decide +kernel, rfl⟩
theorem D_Rg_findFont_18 : xd m_Rg_findFont 18 (.getfield 18) 3 21 := ⟨by decide +kernel, rfl⟩
theorem D_Rg_findFont_21 : xd m_Rg_findFont 21 (.iload_n 2) 1 22 := ⟨by decide +kernel, rfl⟩
theorem D_Rg_findFont_22 : xd m_Rg_findFont 22 (.iconst 5) 1 23 := ⟨by decide +kernel, rfl⟩
theorem D_Rg_findFont_23 : xd m_Rg_findFont 23 (.imul) 1 24 := ⟨by decide +kernel, rfl⟩
theorem D_Rg_findFont_24 : xd m_Rg_findFont 24 (.iaload) 1 25 := ⟨by decide +kernel, rfl⟩
theorem D_Rg_findFont_25 : xd m_Rg_findFont 25 (.iload_n 1) 1 26 := ⟨by decide +kernel, rfl⟩
theorem D_Rg_findFont_26 : xd m_Rg_findFont 26 (.if_icmp .ne 5) 3 29 := ⟨by decide +kernel, rfl⟩
theorem D_Rg_findFont_29 : xd m_Rg_findFont 29 (.iload_n 2) 1 30 := ⟨by decide +kernel, rfl⟩
theorem D_Rg_findFont_30 : xd m_Rg_findFont 30 (.ireturn) 1 31 := ⟨by decide +kernel, rfl⟩
theorem D_Rg_findFont_31 : xd m_Rg_findFont 31 (.iinc 2 1) 3 34 := ⟨by decide +kernel, rfl⟩
theorem D_Rg_findFont_34 : xd m_Rg_findFont 34 (.goto (-32)) 3 37 := ⟨by decide +kernel, rfl⟩
theorem D_Rg_findFont_37 : xd m_Rg_findFont 37 (.iconst (-1)) 1 38 := ⟨by decide +kernel, rfl⟩
theorem D_Rg_findFont_38 : xd m_Rg_findFont 38 (.ireturn) 1 39 := ⟨by decide +kernel, rfl⟩
theorem D_Rg_addFont_0 : xd m_Rg_addFont 0 (.aload_n 0) 1 1 := ⟨by decide +kernel, rfl⟩
theorem D_Rg_addFont_1 : xd m_Rg_addFont 1 (.getfield 42) 3 4 := ⟨by decide +kernel, rfl⟩
theorem D_Rg_addFont_4 : xd m_Rg_addFont 4 (.ifCond .lt 13) 3 7 := ⟨by decide +kernel, rfl⟩
theorem D_Rg_addFont_7 : xd m_Rg_addFont 7 (.aload_n 0) 1 8 := ⟨by decide +kernel, rfl⟩
theorem D_Rg_addFont_8 : xd m_Rg_addFont 8 (.getfield 42) 3 11 := ⟨by decide +kernel, rfl⟩
theorem D_Rg_addFont_11 : xd m_Rg_addFont 11 (.sipush 256) 3 14 := ⟨by decide +kernel, rfl⟩
theorem D_Rg_addFont_14 : xd m_Rg_addFont 14 (.if_icmp .lt 5) 3 17 := ⟨by decide +kernel, rfl⟩
theorem D_Rg_addFont_17 : xd m_Rg_addFont 17 (.iconst 0) 1 18 := ⟨by decide +kernel, rfl⟩
theorem D_Rg_addFont_18 : xd m_Rg_addFont 18 (.ireturn) 1 19 := ⟨by decide +kernel, rfl⟩
theorem D_Rg_addFont_19 : xd m_Rg_addFont 19 (.aload_n 0) 1 20 := ⟨by decide +kernel, rfl⟩
theorem D_Rg_addFont_20 : xd m_Rg_addFont 20 (.getfield 42) 3 23 := ⟨by decide +kernel, rfl⟩
theorem D_Rg_addFont_23 : xd m_Rg_addFont 23 (.iconst 5) 1 24 := ⟨by decide +kernel, rfl⟩
theorem D_Rg_addFont_24 : xd m_Rg_addFont 24 (.imul) 1 25 := ⟨by decide +kernel, rfl⟩
theorem D_Rg_addFont_25 : xd m_Rg_addFont 25 (.istore 4) 2 27 := ⟨by decide +kernel, rfl⟩
theorem D_Rg_addFont_27 : xd m_Rg_addFont 27 (.aload_n 2) 1 28 := ⟨by decide +kernel, rfl⟩
theorem D_Rg_addFont_28 : xd m_Rg_addFont 28 (.iload_n 3) 1 29 := ⟨by decide +kernel, rfl⟩
theorem D_Rg_addFont_29 : xd m_Rg_addFont 29 (.invokestatic 69) 3 32 := ⟨by decide +kernel, rfl⟩
theorem D_Rg_addFont_32 : xd m_Rg_addFont 32 (.istore 5) 2 34 := ⟨by decide +kernel, rfl⟩
theorem D_Rg_addFont_34 : xd m_Rg_addFont 34 (.aload_n 0) 1 35 := ⟨by decide +kernel, rfl⟩
theorem D_Rg_addFont_35 : xd m_Rg_addFont 35 (.getfield 18) 3 38 := ⟨by decide +kernel, rfl⟩
theorem D_Rg_addFont_38 : xd m_Rg_addFont 38 (.iload 4) 2 40 := ⟨by decide +kernel, rfl⟩
theorem D_Rg_addFont_40 : xd m_Rg_addFont 40 (.iload_n 1) 1 41 := ⟨by decide +kernel, rfl⟩
theorem D_Rg_addFont_41 : xd m_Rg_addFont 41 (.iastore) 1 42 := ⟨by decide +kernel, rfl⟩
theorem D_Rg_addFont_42 : xd m_Rg_addFont 42 (.iconst 0) 1 43 := ⟨by decide +kernel, rfl⟩
theorem D_Rg_addFont_43 : xd m_Rg_addFont 43 (.istore 6) 2 45 := ⟨by decide +kernel, rfl⟩
theorem D_Rg_addFont_45 : xd m_Rg_addFont 45 (.iload 6) 2 47 := ⟨by decide +kernel, rfl⟩
theorem D_Rg_addFont_47 : xd m_Rg_addFont 47 (.iconst 3) 1 48 := ⟨by decide +kernel, rfl⟩
theorem D_Rg_addFont_48 : xd m_Rg_addFont 48 (.if_icmp .ge 32) 3 51 := ⟨by decide +kernel, rfl⟩
theorem D_Rg_addFont_51 : xd m_Rg_addFont 51 (.aload_n 0) 1 52 := ⟨by decide +kernel, rfl⟩
theorem D_Rg_addFont_52 : xd m_Rg_addFont 52 (.getfield 18) 3 55 := ⟨by decide +kernel, rfl⟩
theorem D_Rg_addFont_55 : xd m_Rg_addFont 55 (.iload 4) 2 57 := ⟨by decide +kernel, rfl⟩
theorem D_Rg_addFont_57 : xd m_Rg_addFont 57 (.iconst 1) 1 58 := ⟨by decide +kernel, rfl⟩
theorem D_Rg_addFont_58 : xd m_Rg_addFont 58 (.iadd) 1 59 := ⟨by decide +kernel, rfl⟩
theorem D_Rg_addFont_59 : xd m_Rg_addFont 59 (.iload 6) 2 61 := ⟨by decide +kernel, rfl⟩
theorem D_Rg_addFont_61 : xd m_Rg_addFont 61 (.iadd) 1 62 := ⟨by decide +kernel, rfl⟩
theorem D_Rg_addFont_62 : xd m_Rg_addFont 62 (.aload_n 2) 1 63 := ⟨by decide +kernel, rfl⟩
theorem D_Rg_addFont_63 : xd m_Rg_addFont 63 (.iload_n 3) 1 64 := ⟨by decide +kernel, rfl⟩
theorem D_Rg_addFont_64 : xd m_Rg_addFont 64 (.iconst 4) 1 65 := ⟨by decide +kernel, rfl⟩
theorem D_Rg_addFont_65 : xd m_Rg_addFont 65 (.iload 6) 2 67 := ⟨by decide +kernel, rfl⟩
theorem D_Rg_addFont_67 : xd m_Rg_addFont 67 (.imul) 1 68 := ⟨by decide +kernel, rfl⟩
theorem D_Rg_addFont_68 : xd m_Rg_addFont 68 (.iadd) 1 69 := ⟨by decide +kernel, rfl⟩
theorem D_Rg_addFont_69 : xd m_Rg_addFont 69 (.iconst 4) 1 70 := ⟨by decide +kernel, rfl⟩
theorem D_Rg_addFont_70 : xd m_Rg_addFont 70 (.invokevirtual 65) 3 73 := ⟨by decide +kernel, rfl⟩
theorem D_Rg_addFont_73 : xd m_Rg_addFont 73 (.iastore) 1 74 := ⟨by decide +kernel, rfl⟩
theorem D_Rg_addFont_74 : xd m_Rg_addFont 74 (.iinc 6 1) 3 77 := ⟨by decide +kernel, rfl⟩
theorem D_Rg_addFont_77 : xd m_Rg_addFont 77 (.goto (-32)) 3 80 := ⟨by decide +kernel, rfl⟩
theorem D_Rg_addFont_80 : xd m_Rg_addFont 80 (.aload_n 0) 1 81 := ⟨by decide +kernel, rfl⟩
theorem D_Rg_addFont_81 : xd m_Rg_addFont 81 (.getfield 18) 3 84 := ⟨by decide +kernel, rfl⟩
theorem D_Rg_addFont_84 : xd m_Rg_addFont 84 (.iload 4) 2 86 := ⟨by decide +kernel, rfl⟩
theorem D_Rg_addFont_86 : xd m_Rg_addFont 86 (.iconst 4) 1 87 := ⟨by decide +kernel, rfl⟩
theorem D_Rg_addFont_87 : xd m_Rg_addFont 87 (.iadd) 1 88 := ⟨by decide +kernel, rfl⟩
theorem D_Rg_addFont_88 : xd m_Rg_addFont 88 (.iload 5) 2 90 := ⟨by decide +kernel, rfl⟩
theorem D_Rg_addFont_90 : xd m_Rg_addFont 90 (.iastore) 1 91 := ⟨by decide +kernel, rfl⟩
theorem D_Rg_addFont_91 : xd m_Rg_addFont 91 (.aload_n 0) 1 92 := ⟨by decide +kernel, rfl⟩
theorem D_Rg_addFont_92 : xd m_Rg_addFont 92 (.getfield 21) 3 95 := ⟨by decide +kernel, rfl⟩
theorem D_Rg_addFont_95 : xd m_Rg_addFont 95 (.aload_n 0) 1 96 := ⟨by decide +kernel, rfl⟩
theorem D_Rg_addFont_96 : xd m_Rg_addFont 96 (.getfield 42) 3 99 := ⟨by decide +kernel, rfl⟩
theorem D_Rg_addFont_99 : xd m_Rg_addFont 99 (.aload_n 0) 1 100 := ⟨by decide +kernel, rfl⟩
theorem D_Rg_addFont_100 : xd m_Rg_addFont 100 (.getfield 27) 3 103 := ⟨by decide +kernel, rfl⟩
theorem D_Rg_addFont_103 : xd m_Rg_addFont 103 (.invokevirtual 73) 3 106 := ⟨by decide +kernel, rfl⟩
theorem D_Rg_addFont_106 : xd m_Rg_addFont 106 (.iastore) 1 107 := ⟨by decide +kernel, rfl⟩
theorem D_Rg_addFont_107 : xd m_Rg_addFont 107 (.iconst 0) 1 108 := ⟨by decide +kernel, rfl⟩
theorem D_Rg_addFont_108 : xd m_Rg_addFont 108 (.istore 6) 2 110 := ⟨by decide +kernel, rfl⟩
theorem D_Rg_addFont_110 : xd m_Rg_addFont 110 (.iload 6) 2 112 := ⟨by decide +kernel, rfl⟩
theorem D_Rg_addFont_112 : xd m_Rg_addFont 112 (.iload 5) 2 114 := ⟨by decide +kernel, rfl⟩
theorem D_Rg_addFont_114 : xd m_Rg_addFont 114 (.if_icmp .ge 27) 3 117 := ⟨by decide +kernel, rfl⟩
theorem D_Rg_addFont_117 : xd m_Rg_addFont 117 (.aload_n 0) 1 118 := ⟨by decide +kernel, rfl⟩
theorem D_Rg_addFont_118 : xd m_Rg_addFont 118 (.getfield 27) 3 121 := ⟨by decide +kernel, rfl⟩
theorem D_Rg_addFont_121 : xd m_Rg_addFont 121 (.aload_n 2) 1 122 := ⟨by decide +kernel, rfl⟩
theorem D_Rg_addFont_122 : xd m_Rg_addFont 122 (.iload_n 3) 1 123 := ⟨by decide +kernel, rfl⟩
theorem D_Rg_addFont_123 : xd m_Rg_addFont 123 (.bipush 14) 2 125 := ⟨by decide +kernel, rfl⟩
theorem D_Rg_addFont_125 : xd m_Rg_addFont 125 (.iadd) 1 126 := ⟨by decide +kernel, rfl⟩
theorem D_Rg_addFont_126 : xd m_Rg_addFont 126 (.iload 6) 2 128 := ⟨by decide +kernel, rfl⟩
theorem D_Rg_addFont_128 : xd m_Rg_addFont 128 (.iadd) 1 129 := ⟨by decide +kernel, rfl⟩
theorem D_Rg_addFont_129 : xd m_Rg_addFont 129 (.invokevirtual 61) 3 132 := ⟨by decide +kernel, rfl⟩
theorem D_Rg_addFont_132 : xd m_Rg_addFont 132 (.invokevirtual 77) 3 135 := ⟨by decide +kernel, rfl⟩
theorem D_Rg_addFont_135 : xd m_Rg_addFont 135 (.iinc 6 1) 3 138 := ⟨by decide +kernel, rfl⟩
theorem D_Rg_addFont_138 : xd m_Rg_addFont 138 (.goto (-28)) 3 141 := ⟨by decide +kernel, rfl⟩
theorem D_Rg_addFont_141 : xd m_Rg_addFont 141 (.aload_n 0) 1 142 := ⟨by decide +kernel, rfl⟩
theorem D_Rg_addFont_142 : xd m_Rg_addFont 142 (.dup) 1 143 := ⟨by decide +kernel, rfl⟩
theorem D_Rg_addFont_143 : xd m_Rg_addFont 143 (.getfield 42) 3 146 := ⟨by decide +kernel, rfl⟩
theorem D_Rg_addFont_146 : xd m_Rg_addFont 146 (.iconst 1) 1 147 := ⟨by decide +kernel, rfl⟩
theorem D_Rg_addFont_147 : xd m_Rg_addFont 147 (.iadd) 1 148 := ⟨by decide +kernel, rfl⟩
theorem D_Rg_addFont_148 : xd m_Rg_addFont 148 (.putfield 42) 3 151 := ⟨by decide +kernel, rfl⟩
theorem D_Rg_addFont_151 : xd m_Rg_addFont 151 (.iconst 1) 1 152 := ⟨by decide +kernel, rfl⟩
theorem D_Rg_addFont_152 : xd m_Rg_addFont 152 (.ireturn) 1 153 := ⟨by decide +kernel, rfl⟩
theorem D_Rg_isSameFont_0 : xd m_Rg_isSameFont 0 (.iconst 0) 1 1 := ⟨by decide +kernel, rfl⟩
theorem D_Rg_isSameFont_1 : xd m_Rg_isSameFont 1 (.istore 4) 2 3 := ⟨by decide +kernel, rfl⟩
theorem D_Rg_isSameFont_3 : xd m_Rg_isSameFont 3 (.iload 4) 2 5 := ⟨by decide +kernel, rfl⟩
theorem D_Rg_isSameFont_5 : xd m_Rg_isSameFont 5 (.iconst 3) 1 6 := ⟨by decide +kernel, rfl⟩
theorem D_Rg_isSameFont_6 : xd m_Rg_isSameFont 6 (.if_icmp .ge 34) 3 9 := ⟨by decide +kernel, rfl⟩
theorem D_Rg_isSameFont_9 : xd m_Rg_isSameFont 9 (.aload_n 0) 1 10 := ⟨by decide +kernel, rfl⟩
theorem D_Rg_isSameFont_10 : xd m_Rg_isSameFont 10 (.iload_n 1) 1 11 := ⟨by decide +kernel, rfl⟩
theorem D_Rg_isSameFont_11 : xd m_Rg_isSameFont 11 (.iconst 1) 1 12 := ⟨by decide +kernel, rfl⟩
theorem D_Rg_isSameFont_12 : xd m_Rg_isSameFont 12 (.iload 4) 2 14 := ⟨by decide +kernel, rfl⟩
theorem D_Rg_isSameFont_14 : xd m_Rg_isSameFont 14 (.iadd) 1 15 := ⟨by decide +kernel, rfl⟩
theorem D_Rg_isSameFont_15 : xd m_Rg_isSameFont 15 (.invokevirtual 80) 3 18 := ⟨by decide +kernel, rfl⟩
theorem D_Rg_isSameFont_18 : xd m_Rg_isSameFont 18 (.aload_n 2) 1 19 := ⟨by decide +kernel, rfl⟩
theorem D_Rg_isSameFont_19 : xd m_Rg_isSameFont 19 (.iload_n 3) 1 20 := ⟨by decide +kernel, rfl⟩
theorem D_Rg_isSameFont_20 : xd m_Rg_isSameFont 20 (.iconst 4) 1 21 := ⟨by decide +kernel, rfl⟩
theorem D_Rg_isSameFont_21 : xd m_Rg_isSameFont 21 (.iload 4) 2 23 := ⟨by decide +kernel, rfl⟩
theorem D_Rg_isSameFont_23 : xd m_Rg_isSameFont 23 (.imul) 1 24 := ⟨by decide +kernel, rfl⟩
theorem D_Rg_isSameFont_24 : xd m_Rg_isSameFont 24 (.iadd) 1 25 := ⟨by decide +kernel, rfl⟩
theorem D_Rg_isSameFont_25 : xd m_Rg_isSameFont 25 (.iconst 4) 1 26 := ⟨by decide +kernel, rfl⟩
theorem D_Rg_isSameFont_26 : xd m_Rg_isSameFont 26 (.invokevirtual 65) 3 29 := ⟨by decide +kernel, rfl⟩
theorem D_Rg_isSameFont_29 : xd m_Rg_isSameFont 29 (.if_icmp .eq 5) 3 32 := ⟨by decide +kernel, rfl⟩
theorem D_Rg_isSameFont_32 : xd m_Rg_isSameFont 32 (.iconst 0) 1 33 := ⟨by decide +kernel, rfl⟩
theorem D_Rg_isSameFont_33 : xd m_Rg_isSameFont 33 (.ireturn) 1 34 := ⟨by decide +kernel, rfl⟩
theorem D_Rg_isSameFont_34 : xd m_Rg_isSameFont 34 (.iinc 4 1) 3 37 := ⟨by decide +kernel, rfl⟩
theorem D_Rg_isSameFont_37 : xd m_Rg_isSameFont 37 (.goto (-34)) 3 40 := ⟨by decide +kernel, rfl⟩
theorem D_Rg_isSameFont_40 : xd m_Rg_isSameFont 40 (.aload_n 2) 1 41 := ⟨by decide +kernel, rfl⟩
theorem D_Rg_isSameFont_41 : xd m_Rg_isSameFont 41 (.iload_n 3) 1 42 := ⟨by decide +kernel, rfl⟩
theorem D_Rg_isSameFont_42 : xd m_Rg_isSameFont 42 (.invokestatic 69) 3 45 := ⟨by decide +kernel, rfl⟩
theorem D_Rg_isSameFont_45 : xd m_Rg_isSameFont 45 (.istore 4) 2 47 := ⟨by decide +kernel, rfl⟩
theorem D_Rg_isSameFont_47 : xd m_Rg_isSameFont 47 (.aload_n 0) 1 48 := ⟨by decide +kernel, rfl⟩
theorem D_Rg_isSameFont_48 : xd m_Rg_isSameFont 48 (.iload_n 1) 1 49 := ⟨by decide +kernel, rfl⟩
theorem D_Rg_isSameFont_49 : xd m_Rg_isSameFont 49 (.iconst 4) 1 50 := ⟨by decide +kernel, rfl⟩
theorem D_Rg_isSameFont_50 : xd m_Rg_isSameFont 50 (.invokevirtual 80) 3 53 := ⟨by decide +kernel, rfl⟩
theorem D_Rg_isSameFont_53 : xd m_Rg_isSameFont 53 (.iload 4) 2 55 := ⟨by decide +kernel, rfl⟩
theorem D_Rg_isSameFont_55 : xd m_Rg_isSameFont 55 (.if_icmp .eq 5) 3 58 := ⟨by decide +kernel, rfl⟩
theorem D_Rg_isSameFont_58 : xd m_Rg_isSameFont 58 (.iconst 0) 1 59 := ⟨by decide +kernel, rfl⟩
theorem D_Rg_isSameFont_59 : xd m_Rg_isSameFont 59 (.ireturn) 1 60 := ⟨by decide +kernel, rfl⟩
theorem D_Rg_isSameFont_60 : xd m_Rg_isSameFont 60 (.iconst 0) 1 61 := ⟨by decide +kernel, rfl⟩
theorem D_Rg_isSameFont_61 : xd m_Rg_isSameFont 61 (.istore 5) 2 63 := ⟨by decide +kernel, rfl⟩
theorem D_Rg_isSameFont_63 : xd m_Rg_isSameFont 63 (.iload 5) 2 65 := ⟨by decide +kernel, rfl⟩
theorem D_Rg_isSameFont_65 : xd m_Rg_isSameFont 65 (.iload 4) 2 67 := ⟨by decide +kernel, rfl⟩
theorem D_Rg_isSameFont_67 : xd m_Rg_isSameFont 67 (.if_icmp .ge 34) 3 70 := ⟨by decide +kernel, rfl⟩
theorem D_Rg_isSameFont_70 : xd m_Rg_isSameFont 70 (.aload_n 0) 1 71 := ⟨by decide +kernel, rfl⟩
theorem D_Rg_isSameFont_71 : xd m_Rg_isSameFont 71 (.iload_n 1) 1 72 := ⟨by decide +kernel, rfl⟩
theorem D_Rg_isSameFont_72 : xd m_Rg_isSameFont 72 (.iconst 5) 1 73 := ⟨by decide +kernel, rfl⟩
theorem D_Rg_isSameFont_73 : xd m_Rg_isSameFont 73 (.iload 5) 2 75 := ⟨by decide +kernel, rfl⟩
theorem D_Rg_isSameFont_75 : xd m_Rg_isSameFont 75 (.iadd) 1 76 := ⟨by decide +kernel, rfl⟩
theorem D_Rg_isSameFont_76 : xd m_Rg_isSameFont 76 (.invokevirtual 80) 3 79 := ⟨by decide +kernel, rfl⟩
theorem D_Rg_isSameFont_79 : xd m_Rg_isSameFont 79 (.aload_n 2) 1 80 := ⟨by decide +kernel, rfl⟩
theorem D_Rg_isSameFont_80 : xd m_Rg_isSameFont 80 (.iload_n 3) 1 81 := ⟨by decide +kernel, rfl⟩
theorem D_Rg_isSameFont_81 : xd m_Rg_isSameFont 81 (.bipush 14) 2 83 := ⟨by decide +kernel, rfl⟩
theorem D_Rg_isSameFont_83 : xd m_Rg_isSameFont 83 (.iadd) 1 84 := ⟨by decide +kernel, rfl⟩
theorem D_Rg_isSameFont_84 : xd m_Rg_isSameFont 84 (.iload 5) 2 86 := ⟨by decide +kernel, rfl⟩
theorem D_Rg_isSameFont_86 : xd m_Rg_isSameFont 86 (.iadd) 1 87 := ⟨by decide +kernel, rfl⟩
theorem D_Rg_isSameFont_87 : xd m_Rg_isSameFont 87 (.invokevirtual 61) 3 90 := ⟨by decide +kernel, rfl⟩
theorem D_Rg_isSameFont_90 : xd m_Rg_isSameFont 90 (.if_icmp .eq 5) 3 93 := ⟨by decide +kernel, rfl⟩
theorem D_Rg_isSameFont_93 : xd m_Rg_isSameFont 93 (.iconst 0) 1 94 := ⟨by decide +kernel, rfl⟩
theorem D_Rg_isSameFont_94 : xd m_Rg_isSameFont 94 (.ireturn) 1 95 := ⟨by decide +kernel, rfl⟩
theorem D_Rg_isSameFont_95 : xd m_Rg_isSameFont 95 (.iinc 5 1) 3 98 := ⟨by decide +kernel, rfl⟩
theorem D_Rg_isSameFont_98 : xd m_Rg_isSameFont 98 (.goto (-35)) 3 101 := ⟨by decide +kernel, rfl⟩
theorem D_Rg_isSameFont_101 : xd m_Rg_isSameFont 101 (.iconst 1) 1 102 := ⟨by decide +kernel, rfl⟩
theorem D_Rg_isSameFont_102 : xd m_Rg_isSameFont 102 (.ireturn) 1 103 := ⟨by decide +kernel, rfl⟩
theorem D_Rg_nameLengthAt_0 : xd m_Rg_nameLengthAt 0 (.aload_n 0) 1 1 := ⟨by decide +kernel, rfl⟩
theorem D_Rg_nameLengthAt_1 : xd m_Rg_nameLengthAt 1 (.iload_n 1) 1 2 := ⟨by decide +kernel, rfl⟩
theorem D_Rg_nameLengthAt_2 : xd m_Rg_nameLengthAt 2 (.bipush 12) 2 4 := ⟨by decide +kernel, rfl⟩
theorem D_Rg_nameLengthAt_4 : xd m_Rg_nameLengthAt 4 (.iadd) 1 5 := ⟨by decide +kernel, rfl⟩
theorem D_Rg_nameLengthAt_5 : xd m_Rg_nameLengthAt 5 (.invokevirtual 61) 3 8 := ⟨by decide +kernel, rfl⟩
theorem D_Rg_nameLengthAt_8 : xd m_Rg_nameLengthAt 8 (.aload_n 0) 1 9 := ⟨by decide +kernel, rfl⟩
theorem D_Rg_nameLengthAt_9 : xd m_Rg_nameLengthAt 9 (.iload_n 1) 1 10 := ⟨by decide +kernel, rfl⟩
theorem D_Rg_nameLengthAt_10 : xd m_Rg_nameLengthAt 10 (.bipush 13) 2 12 := ⟨by decide +kernel, rfl⟩
theorem D_Rg_nameLengthAt_12 : xd m_Rg_nameLengthAt 12 (.iadd) 1 13 := ⟨by decide +kernel, rfl⟩
theorem D_Rg_nameLengthAt_13 : xd m_Rg_nameLengthAt 13 (.invokevirtual 61) 3 16 := ⟨by decide +kernel, rfl⟩
theorem D_Rg_nameLengthAt_16 : xd m_Rg_nameLengthAt 16 (.iadd) 1 17 := ⟨by decide +kernel, rfl⟩
theorem D_Rg_nameLengthAt_17 : xd m_Rg_nameLengthAt 17 (.ireturn) 1 18 := ⟨by decide +kernel, rfl⟩
theorem D_Sh_init_0 : xd m_Sh_init 0 (.aload_n 0) 1 1 := ⟨by decide +kernel, rfl⟩
theorem D_Sh_init_1 : xd m_Sh_init 1 (.invokespecial 3) 3 4 := ⟨by decide +kernel, rfl⟩
theorem D_Sh_init_4 : xd m_Sh_init 4 (.aload_n 0) 1 5 := ⟨by decide +kernel, rfl⟩
theorem D_Sh_init_5 : xd m_Sh_init 5 (.sipush 2500) 3 8 := ⟨by decide +kernel, rfl⟩
theorem D_Sh_init_8 : xd m_Sh_init 8 (.newarray .int) 2 10 := ⟨by decide +kernel, rfl⟩
theorem D_Sh_init_10 : xd m_Sh_init 10 (.putfield 11) 3 13 := ⟨by decide +kernel, rfl⟩
theorem D_Sh_init_13 : xd m_Sh_init 13 (.return_) 1 14 := ⟨by decide +kernel, rfl⟩
theorem D_Sh_isFull_0 : xd m_Sh_isFull 0 (.aload_n 0) 1 1 := ⟨by decide +kernel, rfl⟩
theorem D_Sh_isFull_1 : xd m_Sh_isFull 1 (.getfield 15) 3 4 := ⟨by decide +kernel, rfl⟩
theorem D_Sh_isFull_4 : xd m_Sh_isFull 4 (.sipush 500) 3 7 := ⟨by decide +kernel, rfl⟩
theorem D_Sh_isFull_7 : xd m_Sh_isFull 7 (.if_icmp .lt 7) 3 10 := ⟨by decide +kernel, rfl⟩
theorem D_Sh_isFull_10 : xd m_Sh_isFull 10 (.iconst 1) 1 11 := ⟨by decide +kernel, rfl⟩
theorem D_Sh_isFull_11 : xd m_Sh_isFull 11 (.goto 4) 3 14 := ⟨by decide +kernel, rfl⟩
theorem D_Sh_isFull_14 : xd m_Sh_isFull 14 (.iconst 0) 1 15 := ⟨by decide +kernel, rfl⟩
theorem D_Sh_isFull_15 : xd m_Sh_isFull 15 (.ireturn) 1 16 := ⟨by decide +kernel, rfl⟩
theorem D_Sh_length_0 : xd m_Sh_length 0 (.aload_n 0) 1 1 := ⟨by decide +kernel, rfl⟩
theorem D_Sh_length_1 : xd m_Sh_length 1 (.getfield 15) 3 4 := ⟨by decide +kernel, rfl⟩
theorem D_Sh_length_4 : xd m_Sh_length 4 (.ireturn) 1 5 := ⟨by decide +kernel, rfl⟩
theorem D_Sh_add_0 : xd m_Sh_add 0 (.aload_n 0) 1 1 := ⟨by decide +kernel, rfl⟩
theorem D_Sh_add_1 : xd m_Sh_add 1 (.getfield 15) 3 4 := ⟨by decide +kernel, rfl⟩
theorem D_Sh_add_4 : xd m_Sh_add 4 (.iconst 5) 1 5 := ⟨by decide +kernel, rfl⟩
theorem D_Sh_add_5 : xd m_Sh_add 5 (.imul) 1 6 := ⟨by decide +kernel, rfl⟩
theorem D_Sh_add_6 : xd m_Sh_add 6 (.istore 6) 2 8 := ⟨by decide +kernel, rfl⟩
theorem D_Sh_add_8 : xd m_Sh_add 8 (.iload 6) 2 10 := ⟨by decide +kernel, rfl⟩
theorem D_Sh_add_10 : xd m_Sh_add 10 (.ifCond .lt 75) 3 13 := ⟨by decide +kernel, rfl⟩
theorem D_Sh_add_13 : xd m_Sh_add 13 (.iload 6) 2 15 := ⟨by decide +kernel, rfl⟩
theorem D_Sh_add_15 : xd m_Sh_add 15 (.aload_n 0) 1 16 := ⟨by decide +kernel, rfl⟩
theorem D_Sh_add_16 : xd m_Sh_add 16 (.getfield 11) 3 19 := ⟨by decide +kernel, rfl⟩
theorem D_Sh_add_19 : xd m_Sh_add 19 (.arraylength) 1 20 := ⟨by decide +kernel, rfl⟩
theorem D_Sh_add_20 : xd m_Sh_add 20 (.iconst 5) 1 21 := ⟨by decide +kernel, rfl⟩
theorem D_Sh_add_21 : xd m_Sh_add 21 (.isub) 1 22 := ⟨by decide +kernel, rfl⟩
theorem D_Sh_add_22 : xd m_Sh_add 22 (.if_icmp .gt 63) 3 25 := ⟨by decide +kernel, rfl⟩
theorem D_Sh_add_25 : xd m_Sh_add 25 (.aload_n 0) 1 26 := ⟨by decide +kernel, rfl⟩
theorem D_Sh_add_26 : xd m_Sh_add 26 (.getfield 11) 3 29 := ⟨by decide +kernel, rfl⟩
theorem D_Sh_add_29 : xd m_Sh_add 29 (.iload 6) 2 31 := ⟨by decide +kernel, rfl⟩
theorem D_Sh_add_31 : xd m_Sh_add 31 (.iload_n 1) 1 32 := ⟨by decide +kernel, rfl⟩
theorem D_Sh_add_32 : xd m_Sh_add 32 (.iastore) 1 33 := ⟨by decide +kernel, rfl⟩
theorem D_Sh_add_33 : xd m_Sh_add 33 (.aload_n 0) 1 34 := ⟨by decide +kernel, rfl⟩
theorem D_Sh_add_34 : xd m_Sh_add 34 (.getfield 11) 3 37 := ⟨by decide +kernel, rfl⟩
theorem D_Sh_add_37 : xd m_Sh_add 37 (.iload 6) 2 39 := ⟨by decide +kernel, rfl⟩
theorem D_Sh_add_39 : xd m_Sh_add 39 (.iconst 1) 1 40 := ⟨by decide +kernel, rfl⟩
theorem D_Sh_add_40 : xd m_Sh_add 40 (.iadd) 1 41 := ⟨by decide +kernel, rfl⟩
theorem D_Sh_add_41 : xd m_Sh_add 41 (.iload_n 2) 1 42 := ⟨by decide +kernel, rfl⟩
theorem D_Sh_add_42 : xd m_Sh_add 42 (.iastore) 1 43 := ⟨by decide +kernel, rfl⟩
theorem D_Sh_add_43 : xd m_Sh_add 43 (.aload_n 0) 1 44 := ⟨by decide +kernel, rfl⟩
theorem D_Sh_add_44 : xd m_Sh_add 44 (.getfield 11) 3 47 := ⟨by decide +kernel, rfl⟩
theorem D_Sh_add_47 : xd m_Sh_add 47 (.iload 6) 2 49 := ⟨by decide +kernel, rfl⟩
theorem D_Sh_add_49 : xd m_Sh_add 49 (.iconst 2) 1 50 := ⟨by decide +kernel, rfl⟩
theorem D_Sh_add_50 : xd m_Sh_add 50 (.iadd) 1 51 := ⟨by decide +kernel, rfl⟩
theorem D_Sh_add_51 : xd m_Sh_add 51 (.iload_n 3) 1 52 := ⟨by decide +kernel, rfl⟩
theorem D_Sh_add_52 : xd m_Sh_add 52 (.iastore) 1 53 := ⟨by decide +kernel, rfl⟩
theorem D_Sh_add_53 : xd m_Sh_add 53 (.aload_n 0) 1 54 := ⟨by decide +kernel, rfl⟩
theorem D_Sh_add_54 : xd m_Sh_add 54 (.getfield 11) 3 57 := ⟨by decide +kernel, rfl⟩
theorem D_Sh_add_57 : xd m_Sh_add 57 (.iload 6) 2 59 := ⟨by decide +kernel, rfl⟩
theorem D_Sh_add_59 : xd m_Sh_add 59 (.iconst 3) 1 60 := ⟨by decide +kernel, rfl⟩
theorem D_Sh_add_60 : xd m_Sh_add 60 (.iadd) 1 61 := ⟨by decide +kernel, rfl⟩
theorem D_Sh_add_61 : xd m_Sh_add 61 (.iload 4) 2 63 := ⟨by decide +kernel, rfl⟩
theorem D_Sh_add_63 : xd m_Sh_add 63 (.iastore) 1 64 := ⟨by decide +kernel, rfl⟩
theorem D_Sh_add_64 : xd m_Sh_add 64 (.aload_n 0) 1 65 := ⟨by decide +kernel, rfl⟩
theorem D_Sh_add_65 : xd m_Sh_add 65 (.getfield 11) 3 68 := ⟨by decide +kernel, rfl⟩
theorem D_Sh_add_68 : xd m_Sh_add 68 (.iload 6) 2 70 := ⟨by decide +kernel, rfl⟩
theorem D_Sh_add_70 : xd m_Sh_add 70 (.iconst 4) 1 71 := ⟨by decide +kernel, rfl⟩
theorem D_Sh_add_71 : xd m_Sh_add 71 (.iadd) 1 72 := ⟨by decide +kernel, rfl⟩
theorem D_Sh_add_72 : xd m_Sh_add 72 (.iload 5) 2 74 := ⟨by decide +kernel, rfl⟩
theorem D_Sh_add_74 : xd m_Sh_add 74 (.iastore) 1 75 := ⟨by decide +kernel, rfl⟩
theorem D_Sh_add_75 : xd m_Sh_add 75 (.aload_n 0) 1 76 := ⟨by decide +kernel, rfl⟩
theorem D_Sh_add_76 : xd m_Sh_add 76 (.dup) 1 77 := ⟨by decide +kernel, rfl⟩
theorem D_Sh_add_77 : xd m_Sh_add 77 (.getfield 15) 3 80 := ⟨by decide +kernel, rfl⟩
theorem D_Sh_add_80 : xd m_Sh_add 80 (.iconst 1) 1 81 := ⟨by decide +kernel, rfl⟩
theorem D_Sh_add_81 : xd m_Sh_add 81 (.iadd) 1 82 := ⟨by decide +kernel, rfl⟩
theorem D_Sh_add_82 : xd m_Sh_add 82 (.putfield 15) 3 85 := ⟨by decide +kernel, rfl⟩
theorem D_Sh_add_85 : xd m_Sh_add 85 (.aload_n 0) 1 86 := ⟨by decide +kernel, rfl⟩
theorem D_Sh_add_86 : xd m_Sh_add 86 (.getfield 15) 3 89 := ⟨by decide +kernel, rfl⟩
theorem D_Sh_add_89 : xd m_Sh_add 89 (.ireturn) 1 90 := ⟨by decide +kernel, rfl⟩
theorem D_Sh_part_0 : xd m_Sh_part 0 (.iload_n 1) 1 1 := ⟨by decide +kernel, rfl⟩
theorem D_Sh_part_1 : xd m_Sh_part 1 (.ifCond .lt 31) 3 4 := ⟨by decide +kernel, rfl⟩
theorem D_Sh_part_4 : xd m_Sh_part 4 (.iload_n 1) 1 5 := ⟨by decide +kernel, rfl⟩
theorem D_Sh_part_5 : xd m_Sh_part 5 (.aload_n 0) 1 6 := ⟨by decide +kernel, rfl⟩
theorem D_Sh_part_6 : xd m_Sh_part 6 (.getfield 15) 3 9 := ⟨by decide +kernel, rfl⟩
theorem D_Sh_part_9 : xd m_Sh_part 9 (.if_icmp .ge 23) 3 12 := ⟨by decide +kernel, rfl⟩
theorem D_Sh_part_12 : xd m_Sh_part 12 (.iload_n 1) 1 13 := ⟨by decide +kernel, rfl⟩
theorem D_Sh_part_13 : xd m_Sh_part 13 (.sipush 500) 3 16 := ⟨by decide +kernel, rfl⟩
theorem D_Sh_part_16 : xd m_Sh_part 16 (.if_icmp .ge 16) 3 19 := ⟨by decide +kernel, rfl⟩
theorem D_Sh_part_19 : xd m_Sh_part 19 (.iload_n 2) 1 20 := ⟨by decide +kernel, rfl⟩
theorem D_Sh_part_20 : xd m_Sh_part 20 (.ifCond .lt 12) 3 23 := ⟨by decide +kernel, rfl⟩
theorem D_Sh_part_23 : xd m_Sh_part 23 (.iload_n 2) 1 24 := ⟨by decide +kernel, rfl⟩
theorem D_Sh_part_24 : xd m_Sh_part 24 (.iconst 5) 1 25 := ⟨by decide +kernel, rfl⟩
theorem D_Sh_part_25 : xd m_Sh_part 25 (.if_icmp .ge 7) 3 28 := ⟨by decide +kernel, rfl⟩
theorem D_Sh_part_28 : xd m_Sh_part 28 (.iconst 1) 1 29 := ⟨by decide +kernel, rfl⟩
theorem D_Sh_part_29 : xd m_Sh_part 29 (.goto 4) 3 32 := ⟨by decide +kernel, rfl⟩
theorem D_Sh_part_32 : xd m_Sh_part 32 (.iconst 0) 1 33 := ⟨by decide +kernel, rfl⟩
theorem D_Sh_part_33 : xd m_Sh_part 33 (.istore_n 3) 1 34 := ⟨by decide +kernel, rfl⟩
theorem D_Sh_part_34 : xd m_Sh_part 34 (.iload_n 3) 1 35 := ⟨by decide +kernel, rfl⟩
theorem D_Sh_part_35 : xd m_Sh_part 35 (.ifCond .eq 16) 3 38 := ⟨by decide +kernel, rfl⟩
theorem D_Sh_part_38 : xd m_Sh_part 38 (.aload_n 0) 1 39 := ⟨by decide +kernel, rfl⟩
theorem D_Sh_part_39 : xd m_Sh_part 39 (.getfield 11) 3 42 := ⟨by decide +kernel, rfl⟩
theorem D_Sh_part_42 : xd m_Sh_part 42 (.iload_n 1) 1 43 := ⟨by decide +kernel, rfl⟩
theorem D_Sh_part_43 : xd m_Sh_part 43 (.iconst 5) 1 44 := ⟨by decide +kernel, rfl⟩
theorem D_Sh_part_44 : xd m_Sh_part 44 (.imul) 1 45 := ⟨by decide +kernel, rfl⟩
theorem D_Sh_part_45 : xd m_Sh_part 45 (.iload_n 2) 1 46 := ⟨by decide +kernel, rfl⟩
theorem D_Sh_part_46 : xd m_Sh_part 46 (.iadd) 1 47 := ⟨by decide +kernel, rfl⟩
theorem D_Sh_part_47 : xd m_Sh_part 47 (.iaload) 1 48 := ⟨by decide +kernel, rfl⟩
theorem D_Sh_part_48 : xd m_Sh_part 48 (.goto 4) 3 51 := ⟨by decide +kernel, rfl⟩
theorem D_Sh_part_51 : xd m_Sh_part 51 (.iconst 0) 1 52 := ⟨by decide +kernel, rfl⟩
theorem D_Sh_part_52 : xd m_Sh_part 52 (.ireturn) 1 53 := ⟨by decide +kernel, rfl⟩
theorem D_Sh_isRule_0 : xd m_Sh_isRule 0 (.aload_n 0) 1 1 := ⟨by decide +kernel, rfl⟩
theorem D_Sh_isRule_1 : xd m_Sh_isRule 1 (.iload_n 1) 1 2 := ⟨by decide +kernel, rfl⟩
theorem D_Sh_isRule_2 : xd m_Sh_isRule 2 (.iconst 0) 1 3 := ⟨by decide +kernel, rfl⟩
theorem D_Sh_isRule_3 : xd m_Sh_isRule 3 (.invokevirtual 19) 3 6 := ⟨by decide +kernel, rfl⟩
theorem D_Sh_isRule_6 : xd m_Sh_isRule 6 (.iconst (-1)) 1 7 := ⟨by decide +kernel, rfl⟩
theorem D_Sh_isRule_7 : xd m_Sh_isRule 7 (.if_icmp .ne 7) 3 10 := ⟨by decide +kernel, rfl⟩
theorem D_Sh_isRule_10 : xd m_Sh_isRule 10 (.iconst 1) 1 11 := ⟨by decide +kernel, rfl⟩
theorem D_Sh_isRule_11 : xd m_Sh_isRule 11 (.goto 4) 3 14 := ⟨by decide +kernel, rfl⟩
theorem D_Sh_isRule_14 : xd m_Sh_isRule 14 (.iconst 0) 1 15 := ⟨by decide +kernel, rfl⟩
theorem D_Sh_isRule_15 : xd m_Sh_isRule 15 (.ireturn) 1 16 := ⟨by decide +kernel, rfl⟩
theorem D_Sh_fontOf_0 : xd m_Sh_fontOf 0 (.aload_n 0) 1 1 := ⟨by decide +kernel, rfl⟩
theorem D_Sh_fontOf_1 : xd m_Sh_fontOf 1 (.iload_n 1) 1 2 := ⟨by decide +kernel, rfl⟩
theorem D_Sh_fontOf_2 : xd m_Sh_fontOf 2 (.iconst 0) 1 3 := ⟨by decide +kernel, rfl⟩
theorem D_Sh_fontOf_3 : xd m_Sh_fontOf 3 (.invokevirtual 19) 3 6 := ⟨by decide +kernel, rfl⟩
theorem D_Sh_fontOf_6 : xd m_Sh_fontOf 6 (.ireturn) 1 7 := ⟨by decide +kernel, rfl⟩
theorem D_Sh_characterOrWidth_0 : xd m_Sh_characterOrWidth 0 (.aload_n 0) 1 1 := ⟨by decide +kernel, rfl⟩
theorem D_Sh_characterOrWidth_1 : xd m_Sh_characterOrWidth 1 (.iload_n 1) 1 2 := ⟨by decide +kernel, rfl⟩
theorem D_Sh_characterOrWidth_2 : xd m_Sh_characterOrWidth 2 (.iconst 1) 1 3 := ⟨by decide +kernel, rfl⟩
theorem D_Sh_characterOrWidth_3 : xd m_Sh_characterOrWidth 3 (.invokevirtual 19) 3 6 := ⟨by decide +kernel, rfl⟩
theorem D_Sh_characterOrWidth_6 : xd m_Sh_characterOrWidth 6 (.ireturn) 1 7 := ⟨by decide +kernel, rfl⟩
theorem D_Sh_height_0 : xd m_Sh_height 0 (.aload_n 0) 1 1 := ⟨by decide +kernel, rfl⟩
theorem D_Sh_height_1 : xd m_Sh_height 1 (.iload_n 1) 1 2 := ⟨by decide +kernel, rfl⟩
theorem D_Sh_height_2 : xd m_Sh_height 2 (.iconst 2) 1 3 := ⟨by decide +kernel, rfl⟩
theorem D_Sh_height_3 : xd m_Sh_height 3 (.invokevirtual 19) 3 6 := ⟨by decide +kernel, rfl⟩
theorem D_Sh_height_6 : xd m_Sh_height 6 (.ireturn) 1 7 := ⟨by decide +kernel, rfl⟩
theorem D_Sh_x_0 : xd m_Sh_x 0 (.aload_n 0) 1 1 := ⟨by decide +kernel, rfl⟩
theorem D_Sh_x_1 : xd m_Sh_x 1 (.iload_n 1) 1 2 := ⟨by decide +kernel, rfl⟩
theorem D_Sh_x_2 : xd m_Sh_x 2 (.iconst 3) 1 3 := ⟨by decide +kernel, rfl⟩
theorem D_Sh_x_3 : xd m_Sh_x 3 (.invokevirtual 19) 3 6 := ⟨by decide +kernel, rfl⟩
theorem D_Sh_x_6 : xd m_Sh_x 6 (.ireturn) 1 7 := ⟨by decide +kernel, rfl⟩
theorem D_Sh_y_0 : xd m_Sh_y 0 (.aload_n 0) 1 1 := ⟨by decide +kernel, rfl⟩
theorem D_Sh_y_1 : xd m_Sh_y 1 (.iload_n 1) 1 2 := ⟨by decide +kernel, rfl⟩
theorem D_Sh_y_2 : xd m_Sh_y 2 (.iconst 4) 1 3 := ⟨by decide +kernel, rfl⟩
theorem D_Sh_y_3 : xd m_Sh_y 3 (.invokevirtual 19) 3 6 := ⟨by decide +kernel, rfl⟩
theorem D_Sh_y_6 : xd m_Sh_y 6 (.ireturn) 1 7 := ⟨by decide +kernel, rfl⟩
theorem D_Sh_clear_0 : xd m_Sh_clear 0 (.aload_n 0) 1 1 := ⟨by decide +kernel, rfl⟩
theorem D_Sh_clear_1 : xd m_Sh_clear 1 (.iconst 0) 1 2 := ⟨by decide +kernel, rfl⟩
theorem D_Sh_clear_2 : xd m_Sh_clear 2 (.putfield 15) 3 5 := ⟨by decide +kernel, rfl⟩
theorem D_Sh_clear_5 : xd m_Sh_clear 5 (.return_) 1 6 := ⟨by decide +kernel, rfl⟩
theorem D_Wa_init_0 : xd m_Wa_init 0 (.aload_n 0) 1 1 := ⟨by decide +kernel, rfl⟩
theorem D_Wa_init_1 : xd m_Wa_init 1 (.invokespecial 3) 3 4 := ⟨by decide +kernel, rfl⟩
theorem D_Wa_init_4 : xd m_Wa_init 4 (.aload_n 0) 1 5 := ⟨by decide +kernel, rfl⟩
theorem D_Wa_init_5 : xd m_Wa_init 5 (.sipush 500) 3 8 := ⟨by decide +kernel, rfl⟩
theorem D_Wa_init_8 : xd m_Wa_init 8 (.newarray .int) 2 10 := ⟨by decide +kernel, rfl⟩
theorem D_Wa_init_10 : xd m_Wa_init 10 (.putfield 9) 3 13 := ⟨by decide +kernel, rfl⟩
theorem D_Wa_init_13 : xd m_Wa_init 13 (.aload_n 0) 1 14 := ⟨by decide +kernel, rfl⟩
theorem D_Wa_init_14 : xd m_Wa_init 14 (.iload_n 1) 1 15 := ⟨by decide +kernel, rfl⟩
theorem D_Wa_init_15 : xd m_Wa_init 15 (.putfield 15) 3 18 := ⟨by decide +kernel, rfl⟩
theorem D_Wa_init_18 : xd m_Wa_init 18 (.return_) 1 19 := ⟨by decide +kernel, rfl⟩
theorem D_Wa_clear_0 : xd m_Wa_clear 0 (.aload_n 0) 1 1 := ⟨by decide +kernel, rfl⟩
theorem D_Wa_clear_1 : xd m_Wa_clear 1 (.iconst 0) 1 2 := ⟨by decide +kernel, rfl⟩
theorem D_Wa_clear_2 : xd m_Wa_clear 2 (.putfield 19) 3 5 := ⟨by decide +kernel, rfl⟩
theorem D_Wa_clear_5 : xd m_Wa_clear 5 (.aload_n 0) 1 6 := ⟨by decide +kernel, rfl⟩
theorem D_Wa_clear_6 : xd m_Wa_clear 6 (.iconst 0) 1 7 := ⟨by decide +kernel, rfl⟩
theorem D_Wa_clear_7 : xd m_Wa_clear 7 (.putfield 22) 3 10 := ⟨by decide +kernel, rfl⟩
theorem D_Wa_clear_10 : xd m_Wa_clear 10 (.aload_n 0) 1 11 := ⟨by decide +kernel, rfl⟩
theorem D_Wa_clear_11 : xd m_Wa_clear 11 (.iconst 0) 1 12 := ⟨by decide +kernel, rfl⟩
theorem D_Wa_clear_12 : xd m_Wa_clear 12 (.putfield 25) 3 15 := ⟨by decide +kernel, rfl⟩
theorem D_Wa_clear_15 : xd m_Wa_clear 15 (.return_) 1 16 := ⟨by decide +kernel, rfl⟩
theorem D_Wa_plan_0 : xd m_Wa_plan 0 (.aload_n 0) 1 1 := ⟨by decide +kernel, rfl⟩
theorem D_Wa_plan_1 : xd m_Wa_plan 1 (.getfield 19) 3 4 := ⟨by decide +kernel, rfl⟩
theorem D_Wa_plan_4 : xd m_Wa_plan 4 (.ifCond .lt 35) 3 7 := ⟨by decide +kernel, rfl⟩
theorem D_Wa_plan_7 : xd m_Wa_plan 7 (.aload_n 0) 1 8 := ⟨by decide +kernel, rfl⟩
theorem D_Wa_plan_8 : xd m_Wa_plan 8 (.getfield 19) 3 11 := ⟨by decide +kernel, rfl⟩
theorem D_Wa_plan_11 : xd m_Wa_plan 11 (.aload_n 0) 1 12 := ⟨by decide +kernel, rfl⟩
theorem D_Wa_plan_12 : xd m_Wa_plan 12 (.getfield 9) 3 15 := ⟨by decide +kernel, rfl⟩
theorem D_Wa_plan_15 : xd m_Wa_plan 15 (.arraylength) 1 16 := ⟨by decide +kernel, rfl⟩
theorem D_Wa_plan_16 : xd m_Wa_plan 16 (.if_icmp .ge 23) 3 19 := ⟨by decide +kernel, rfl⟩
theorem D_Wa_plan_19 : xd m_Wa_plan 19 (.aload_n 0) 1 20 := ⟨by decide +kernel, rfl⟩
theorem D_Wa_plan_20 : xd m_Wa_plan 20 (.getfield 9) 3 23 := ⟨by decide +kernel, rfl⟩
theorem D_Wa_plan_23 : xd m_Wa_plan 23 (.aload_n 0) 1 24 := ⟨by decide +kernel, rfl⟩
theorem D_Wa_plan_24 : xd m_Wa_plan 24 (.getfield 19) 3 27 := ⟨by decide +kernel, rfl⟩
theorem D_Wa_plan_27 : xd m_Wa_plan 27 (.iload_n 1) 1 28 := ⟨by decide +kernel, rfl⟩
theorem D_Wa_plan_28 : xd m_Wa_plan 28 (.iastore) 1 29 := ⟨by decide +kernel, rfl⟩
theorem D_Wa_plan_29 : xd m_Wa_plan 29 (.aload_n 0) 1 30 := ⟨by decide +kernel, rfl⟩
theorem D_Wa_plan_30 : xd m_Wa_plan 30 (.dup) 1 31 := ⟨by decide +kernel, rfl⟩
theorem D_Wa_plan_31 : xd m_Wa_plan 31 (.getfield 19) 3 34 := ⟨by decide +kernel, rfl⟩
theorem D_Wa_plan_34 : xd m_Wa_plan 34 (.iconst 1) 1 35 := ⟨by decide +kernel, rfl⟩
theorem D_Wa_plan_35 : xd m_Wa_plan 35 (.iadd) 1 36 := ⟨by decide +kernel, rfl⟩
theorem D_Wa_plan_36 : xd m_Wa_plan 36 (.putfield 19) 3 39 := ⟨by decide +kernel, rfl⟩
theorem D_Wa_plan_39 : xd m_Wa_plan 39 (.return_) 1 40 := ⟨by decide +kernel, rfl⟩
theorem D_Wa_write_0 : xd m_Wa_write 0 (.iload_n 1) 1 1 := ⟨by decide +kernel, rfl⟩
theorem D_Wa_write_1 : xd m_Wa_write 1 (.ifCond .lt 29) 3 4 := ⟨by decide +kernel, rfl⟩
theorem D_Wa_write_4 : xd m_Wa_write 4 (.iload_n 1) 1 5 := ⟨by decide +kernel, rfl⟩
theorem D_Wa_write_5 : xd m_Wa_write 5 (.aload_n 0) 1 6 := ⟨by decide +kernel, rfl⟩
theorem D_Wa_write_6 : xd m_Wa_write 6 (.getfield 19) 3 9 := ⟨by decide +kernel, rfl⟩
theorem D_Wa_write_9 : xd m_Wa_write 9 (.if_icmp .ge 21) 3 12 := ⟨by decide +kernel, rfl⟩
theorem D_Wa_write_12 : xd m_Wa_write 12 (.iload_n 1) 1 13 := ⟨by decide +kernel, rfl⟩
theorem D_Wa_write_13 : xd m_Wa_write 13 (.aload_n 0) 1 14 := ⟨by decide +kernel, rfl⟩
theorem D_Wa_write_14 : xd m_Wa_write 14 (.getfield 9) 3 17 := ⟨by decide +kernel, rfl⟩
theorem D_Wa_write_17 : xd m_Wa_write 17 (.arraylength) 1 18 := ⟨by decide +kernel, rfl⟩
theorem D_Wa_write_18 : xd m_Wa_write 18 (.if_icmp .ge 12) 3 21 := ⟨by decide +kernel, rfl⟩
theorem D_Wa_write_21 : xd m_Wa_write 21 (.aload_n 0) 1 22 := ⟨by decide +kernel, rfl⟩
theorem D_Wa_write_22 : xd m_Wa_write 22 (.getfield 9) 3 25 := ⟨by decide +kernel, rfl⟩
theorem D_Wa_write_25 : xd m_Wa_write 25 (.iload_n 1) 1 26 := ⟨by decide +kernel, rfl⟩
theorem D_Wa_write_26 : xd m_Wa_write 26 (.iaload) 1 27 := ⟨by decide +kernel, rfl⟩
theorem D_Wa_write_27 : xd m_Wa_write 27 (.goto 4) 3 30 := ⟨by decide +kernel, rfl⟩
theorem D_Wa_write_30 : xd m_Wa_write 30 (.iconst 0) 1 31 := ⟨by decide +kernel, rfl⟩
theorem D_Wa_write_31 : xd m_Wa_write 31 (.istore_n 3) 1 32 := ⟨by decide +kernel, rfl⟩
theorem D_Wa_write_32 : xd m_Wa_write 32 (.iload_n 3) 1 33 := ⟨by decide +kernel, rfl⟩
theorem D_Wa_write_33 : xd m_Wa_write 33 (.ifCond .ne 4) 3 36 := ⟨by decide +kernel, rfl⟩
theorem D_Wa_write_36 : xd m_Wa_write 36 (.return_) 1 37 := ⟨by decide +kernel, rfl⟩
theorem D_Wa_write_37 : xd m_Wa_write 37 (.iload_n 3) 1 38 := ⟨by decide +kernel, rfl⟩
theorem D_Wa_write_38 : xd m_Wa_write 38 (.aload_n 0) 1 39 := ⟨by decide +kernel, rfl⟩
theorem D_Wa_write_39 : xd m_Wa_write 39 (.getfield 22) 3 42 := ⟨by decide +kernel, rfl⟩
theorem D_Wa_write_42 : xd m_Wa_write 42 (.if_icmp .ne 16) 3 45 := ⟨by decide +kernel, rfl⟩
theorem D_Wa_write_45 : xd m_Wa_write 45 (.aload_n 2) 1 46 := ⟨by decide +kernel, rfl⟩
theorem D_Wa_write_46 : xd m_Wa_write 46 (.aload_n 0) 1 47 := ⟨by decide +kernel, rfl⟩
theorem D_Wa_write_47 : xd m_Wa_write 47 (.getfield 15) 3 50 := ⟨by decide +kernel, rfl⟩
theorem D_Wa_write_50 : xd m_Wa_write 50 (.iconst 4) 1 51 := ⟨by decide +kernel, rfl⟩
theorem D_Wa_write_51 : xd m_Wa_write 51 (.iadd) 1 52 := ⟨by decide +kernel, rfl⟩
theorem D_Wa_write_52 : xd m_Wa_write 52 (.invokevirtual 28) 3 55 := ⟨by decide +kernel, rfl⟩
theorem D_Wa_write_55 : xd m_Wa_write 55 (.goto 118) 3 58 := ⟨by decide +kernel, rfl⟩
theorem D_Wa_write_58 : xd m_Wa_write 58 (.iload_n 3) 1 59 := ⟨by decide +kernel, rfl⟩
theorem D_Wa_write_59 : xd m_Wa_write 59 (.aload_n 0) 1 60 := ⟨by decide +kernel, rfl⟩
theorem D_Wa_write_60 : xd m_Wa_write 60 (.getfield 25) 3 63 := ⟨by decide +kernel, rfl⟩
theorem D_Wa_write_63 : xd m_Wa_write 63 (.if_icmp .ne 17) 3 66 := ⟨by decide +kernel, rfl⟩
theorem D_Wa_write_66 : xd m_Wa_write 66 (.aload_n 2) 1 67 := ⟨by decide +kernel, rfl⟩
theorem D_Wa_write_67 : xd m_Wa_write 67 (.aload_n 0) 1 68 := ⟨by decide +kernel, rfl⟩
theorem D_Wa_write_68 : xd m_Wa_write 68 (.getfield 15) 3 71 := ⟨by decide +kernel, rfl⟩
theorem D_Wa_write_71 : xd m_Wa_write 71 (.bipush 9) 2 73 := ⟨by decide +kernel, rfl⟩
theorem D_Wa_write_73 : xd m_Wa_write 73 (.iadd) 1 74 := ⟨by decide +kernel, rfl⟩
theorem D_Wa_write_74 : xd m_Wa_write 74 (.invokevirtual 28) 3 77 := ⟨by decide +kernel, rfl⟩
theorem D_Wa_write_77 : xd m_Wa_write 77 (.goto 96) 3 80 := ⟨by decide +kernel, rfl⟩
theorem D_Wa_write_80 : xd m_Wa_write 80 (.aload_n 0) 1 81 := ⟨by decide +kernel, rfl⟩
theorem D_Wa_write_81 : xd m_Wa_write 81 (.iload_n 1) 1 82 := ⟨by decide +kernel, rfl⟩
theorem D_Wa_write_82 : xd m_Wa_write 82 (.iload_n 3) 1 83 := ⟨by decide +kernel, rfl⟩
theorem D_Wa_write_83 : xd m_Wa_write 83 (.invokevirtual 34) 3 86 := ⟨by decide +kernel, rfl⟩
theorem D_Wa_write_86 : xd m_Wa_write 86 (.ifCond .ne 15) 3 89 := ⟨by decide +kernel, rfl⟩
theorem D_Wa_write_89 : xd m_Wa_write 89 (.aload_n 2) 1 90 := ⟨by decide +kernel, rfl⟩
theorem D_Wa_write_90 : xd m_Wa_write 90 (.aload_n 0) 1 91 := ⟨by decide +kernel, rfl⟩
theorem D_Wa_write_91 : xd m_Wa_write 91 (.getfield 15) 3 94 := ⟨by decide +kernel, rfl⟩
theorem D_Wa_write_94 : xd m_Wa_write 94 (.iload_n 3) 1 95 := ⟨by decide +kernel, rfl⟩
theorem D_Wa_write_95 : xd m_Wa_write 95 (.invokevirtual 38) 3 98 := ⟨by decide +kernel, rfl⟩
theorem D_Wa_write_98 : xd m_Wa_write 98 (.goto 75) 3 101 := ⟨by decide +kernel, rfl⟩
theorem D_Wa_write_101 : xd m_Wa_write 101 (.aload_n 0) 1 102 := ⟨by decide +kernel, rfl⟩
theorem D_Wa_write_102 : xd m_Wa_write 102 (.iload_n 1) 1 103 := ⟨by decide +kernel, rfl⟩
theorem D_Wa_write_103 : xd m_Wa_write 103 (.aload_n 0) 1 104 := ⟨by decide +kernel, rfl⟩
theorem D_Wa_write_104 : xd m_Wa_write 104 (.getfield 22) 3 107 := ⟨by decide +kernel, rfl⟩
theorem D_Wa_write_107 : xd m_Wa_write 107 (.invokevirtual 34) 3 110 := ⟨by decide +kernel, rfl⟩
theorem D_Wa_write_110 : xd m_Wa_write 110 (.ifCond .ne 22) 3 113 := ⟨by decide +kernel, rfl⟩
theorem D_Wa_write_113 : xd m_Wa_write 113 (.aload_n 0) 1 114 := ⟨by decide +kernel, rfl⟩
theorem D_Wa_write_114 : xd m_Wa_write 114 (.iload_n 3) 1 115 := ⟨by decide +kernel, rfl⟩
theorem D_Wa_write_115 : xd m_Wa_write 115 (.putfield 22) 3 118 := ⟨by decide +kernel, rfl⟩
theorem D_Wa_write_118 : xd m_Wa_write 118 (.aload_n 2) 1 119 := ⟨by decide +kernel, rfl⟩
theorem D_Wa_write_119 : xd m_Wa_write 119 (.aload_n 0) 1 120 := ⟨by decide +kernel, rfl⟩
theorem D_Wa_write_120 : xd m_Wa_write 120 (.getfield 15) 3 123 := ⟨by decide +kernel, rfl⟩
theorem D_Wa_write_123 : xd m_Wa_write 123 (.iconst 5) 1 124 := ⟨by decide +kernel, rfl⟩
theorem D_Wa_write_124 : xd m_Wa_write 124 (.iadd) 1 125 := ⟨by decide +kernel, rfl⟩
theorem D_Wa_write_125 : xd m_Wa_write 125 (.iload_n 3) 1 126 := ⟨by decide +kernel, rfl⟩
theorem D_Wa_write_126 : xd m_Wa_write 126 (.invokevirtual 38) 3 129 := ⟨by decide +kernel, rfl⟩
theorem D_Wa_write_129 : xd m_Wa_write 129 (.goto 44) 3 132 := ⟨by decide +kernel, rfl⟩
theorem D_Wa_write_132 : xd m_Wa_write 132 (.aload_n 0) 1 133 := ⟨by decide +kernel, rfl⟩
theorem D_Wa_write_133 : xd m_Wa_write 133 (.iload_n 1) 1 134 := ⟨by decide +kernel, rfl⟩
theorem D_Wa_write_134 : xd m_Wa_write 134 (.aload_n 0) 1 135 := ⟨by decide +kernel, rfl⟩
theorem D_Wa_write_135 : xd m_Wa_write 135 (.getfield 25) 3 138 := ⟨by decide +kernel, rfl⟩
theorem D_Wa_write_138 : xd m_Wa_write 138 (.invokevirtual 34) 3 141 := ⟨by decide +kernel, rfl⟩
theorem D_Wa_write_141 : xd m_Wa_write 141 (.ifCond .ne 23) 3 144 := ⟨by decide +kernel, rfl⟩
theorem D_Wa_write_144 : xd m_Wa_write 144 (.aload_n 0) 1 145 := ⟨by decide +kernel, rfl⟩
theorem D_Wa_write_145 : xd m_Wa_write 145 (.iload_n 3) 1 146 := ⟨by decide +kernel, rfl⟩
theorem D_Wa_write_146 : xd m_Wa_write 146 (.putfield 25) 3 149 := ⟨by decide +kernel, rfl⟩
theorem D_Wa_write_149 : xd m_Wa_write 149 (.aload_n 2) 1 150 := ⟨by decide +kernel, rfl⟩
theorem D_Wa_write_150 : xd m_Wa_write 150 (.aload_n 0) 1 151 := ⟨by decide +kernel, rfl⟩
theorem D_Wa_write_151 : xd m_Wa_write 151 (.getfield 15) 3 154 := ⟨by decide +kernel, rfl⟩
theorem D_Wa_write_154 : xd m_Wa_write 154 (.bipush 10) 2 156 := ⟨by decide +kernel, rfl⟩
theorem D_Wa_write_156 : xd m_Wa_write 156 (.iadd) 1 157 := ⟨by decide +kernel, rfl⟩
theorem D_Wa_write_157 : xd m_Wa_write 157 (.iload_n 3) 1 158 := ⟨by decide +kernel, rfl⟩
theorem D_Wa_write_158 : xd m_Wa_write 158 (.invokevirtual 38) 3 161 := ⟨by decide +kernel, rfl⟩
theorem D_Wa_write_161 : xd m_Wa_write 161 (.goto 12) 3 164 := ⟨by decide +kernel, rfl⟩
theorem D_Wa_write_164 : xd m_Wa_write 164 (.aload_n 2) 1 165 := ⟨by decide +kernel, rfl⟩
theorem D_Wa_write_165 : xd m_Wa_write 165 (.aload_n 0) 1 166 := ⟨by decide +kernel, rfl⟩
theorem D_Wa_write_166 : xd m_Wa_write 166 (.getfield 15) 3 169 := ⟨by decide +kernel, rfl⟩
theorem D_Wa_write_169 : xd m_Wa_write 169 (.iload_n 3) 1 170 := ⟨by decide +kernel, rfl⟩
theorem D_Wa_write_170 : xd m_Wa_write 170 (.invokevirtual 38) 3 173 := ⟨by decide +kernel, rfl⟩
theorem D_Wa_write_173 : xd m_Wa_write 173 (.return_) 1 174 := ⟨by decide +kernel, rfl⟩
theorem D_Wa_comesBehind_0 : xd m_Wa_comesBehind 0 (.iload_n 2) 1 1 := ⟨by decide +kernel, rfl⟩
theorem D_Wa_comesBehind_1 : xd m_Wa_comesBehind 1 (.ifCond .eq 7) 3 4 := ⟨by decide +kernel, rfl⟩
theorem D_Wa_comesBehind_4 : xd m_Wa_comesBehind 4 (.iload_n 1) 1 5 := ⟨by decide +kernel, rfl⟩
theorem D_Wa_comesBehind_5 : xd m_Wa_comesBehind 5 (.ifCond .ge 5) 3 8 := ⟨by decide +kernel, rfl⟩
theorem D_Wa_comesBehind_8 : xd m_Wa_comesBehind 8 (.iconst 0) 1 9 := ⟨by decide +kernel, rfl⟩
theorem D_Wa_comesBehind_9 : xd m_Wa_comesBehind 9 (.ireturn) 1 10 := ⟨by decide +kernel, rfl⟩
theorem D_Wa_comesBehind_10 : xd m_Wa_comesBehind 10 (.iload_n 1) 1 11 := ⟨by decide +kernel, rfl⟩
theorem D_Wa_comesBehind_11 : xd m_Wa_comesBehind 11 (.iconst 1) 1 12 := ⟨by decide +kernel, rfl⟩
theorem D_Wa_comesBehind_12 : xd m_Wa_comesBehind 12 (.iadd) 1 13 := ⟨by decide +kernel, rfl⟩
theorem D_Wa_comesBehind_13 : xd m_Wa_comesBehind 13 (.istore_n 3) 1 14 := ⟨by decide +kernel, rfl⟩
theorem D_Wa_comesBehind_14 : xd m_Wa_comesBehind 14 (.iload_n 3) 1 15 := ⟨by decide +kernel, rfl⟩
theorem D_Wa_comesBehind_15 : xd m_Wa_comesBehind 15 (.aload_n 0) 1 16 := ⟨by decide +kernel, rfl⟩
theorem D_Wa_comesBehind_16 : xd m_Wa_comesBehind 16 (.getfield 19) 3 19 := ⟨by decide +kernel, rfl⟩
theorem D_Wa_comesBehind_19 : xd m_Wa_comesBehind 19 (.if_icmp .ge 30) 3 22 := ⟨by decide +kernel, rfl⟩
theorem D_Wa_comesBehind_22 : xd m_Wa_comesBehind 22 (.iload_n 3) 1 23 := ⟨by decide +kernel, rfl⟩
theorem D_Wa_comesBehind_23 : xd m_Wa_comesBehind 23 (.aload_n 0) 1 24 := ⟨by decide +kernel, rfl⟩
theorem D_Wa_comesBehind_24 : xd m_Wa_comesBehind 24 (.getfield 9) 3 27 := ⟨by decide +kernel, rfl⟩
theorem D_Wa_comesBehind_27 : xd m_Wa_comesBehind 27 (.arraylength) 1 28 := ⟨by decide +kernel, rfl⟩
theorem D_Wa_comesBehind_28 : xd m_Wa_comesBehind 28 (.if_icmp .ge 21) 3 31 := ⟨by decide +kernel, rfl⟩
theorem D_Wa_comesBehind_31 : xd m_Wa_comesBehind 31 (.aload_n 0) 1 32 := ⟨by decide +kernel, rfl⟩
theorem D_Wa_comesBehind_32 : xd m_Wa_comesBehind 32 (.getfield 9) 3 35 := ⟨by decide +kernel, rfl⟩
theorem D_Wa_comesBehind_35 : xd m_Wa_comesBehind 35 (.iload_n 3) 1 36 := ⟨by decide +kernel, rfl⟩
theorem D_Wa_comesBehind_36 : xd m_Wa_comesBehind 36 (.iaload) 1 37 := ⟨by decide +kernel, rfl⟩
theorem D_Wa_comesBehind_37 : xd m_Wa_comesBehind 37 (.iload_n 2) 1 38 := ⟨by decide +kernel, rfl⟩
theorem D_Wa_comesBehind_38 : xd m_Wa_comesBehind 38 (.if_icmp .ne 5) 3 41 := ⟨by decide +kernel, rfl⟩
theorem D_Wa_comesBehind_41 : xd m_Wa_comesBehind 41 (.iconst 1) 1 42 := ⟨by decide +kernel, rfl⟩
theorem D_Wa_comesBehind_42 : xd m_Wa_comesBehind 42 (.ireturn) 1 43 := ⟨by decide +kernel, rfl⟩
theorem D_Wa_comesBehind_43 : xd m_Wa_comesBehind 43 (.iinc 3 1) 3 46 := ⟨by decide +kernel, rfl⟩
theorem D_Wa_comesBehind_46 : xd m_Wa_comesBehind 46 (.goto (-32)) 3 49 := ⟨by decide +kernel, rfl⟩
theorem D_Wa_comesBehind_49 : xd m_Wa_comesBehind 49 (.iconst 0) 1 50 := ⟨by decide +kernel, rfl⟩
theorem D_Wa_comesBehind_50 : xd m_Wa_comesBehind 50 (.ireturn) 1 51 := ⟨by decide +kernel, rfl⟩
theorem D_Wi_init_0 : xd m_Wi_init 0 (.aload_n 0) 1 1 := ⟨by decide +kernel, rfl⟩
theorem D_Wi_init_1 : xd m_Wi_init 1 (.invokespecial 3) 3 4 := ⟨by decide +kernel, rfl⟩
theorem D_Wi_init_4 : xd m_Wi_init 4 (.aload_n 0) 1 5 := ⟨by decide +kernel, rfl⟩
theorem D_Wi_init_5 : xd m_Wi_init 5 (.ldc 9) 2 7 := ⟨by decide +kernel, rfl⟩
theorem D_Wi_init_7 : xd m_Wi_init 7 (.newarray .int) 2 9 := ⟨by decide +kernel, rfl⟩
theorem D_Wi_init_9 : xd m_Wi_init 9 (.putfield 10) 3 12 := ⟨by decide +kernel, rfl⟩
theorem D_Wi_init_12 : xd m_Wi_init 12 (.return_) 1 13 := ⟨by decide +kernel, rfl⟩
theorem D_Wi_of_0 : xd m_Wi_of 0 (.iload_n 1) 1 1 := ⟨by decide +kernel, rfl⟩
theorem D_Wi_of_1 : xd m_Wi_of 1 (.invokestatic 16) 3 4 := ⟨by decide +kernel, rfl⟩
theorem D_Wi_of_4 : xd m_Wi_of 4 (.ifCond .eq 25) 3 7 := ⟨by decide +kernel, rfl⟩
theorem D_Wi_of_7 : xd m_Wi_of 7 (.iload_n 2) 1 8 := ⟨by decide +kernel, rfl⟩
theorem D_Wi_of_8 : xd m_Wi_of 8 (.invokestatic 16) 3 11 := ⟨by decide +kernel, rfl⟩
theorem D_Wi_of_11 : xd m_Wi_of 11 (.ifCond .eq 18) 3 14 := ⟨by decide +kernel, rfl⟩
theorem D_Wi_of_14 : xd m_Wi_of 14 (.aload_n 0) 1 15 := ⟨by decide +kernel, rfl⟩
theorem D_Wi_of_15 : xd m_Wi_of 15 (.getfield 10) 3 18 := ⟨by decide +kernel, rfl⟩
theorem D_Wi_of_18 : xd m_Wi_of 18 (.iload_n 1) 1 19 := ⟨by decide +kernel, rfl⟩
theorem D_Wi_of_19 : xd m_Wi_of 19 (.sipush 256) 3 22 := ⟨by decide +kernel, rfl⟩
theorem D_Wi_of_22 : xd m_Wi_of 22 (.imul) 1 23 := ⟨by decide +kernel, rfl⟩
theorem D_Wi_of_23 : xd m_Wi_of 23 (.iload_n 2) 1 24 := ⟨by decide +kernel, rfl⟩
theorem D_Wi_of_24 : xd m_Wi_of 24 (.iadd) 1 25 := ⟨by decide +kernel, rfl⟩
theorem D_Wi_of_25 : xd m_Wi_of 25 (.iaload) 1 26 := ⟨by decide +kernel, rfl⟩
theorem D_Wi_of_26 : xd m_Wi_of 26 (.goto 4) 3 29 := ⟨by decide +kernel, rfl⟩
theorem D_Wi_of_29 : xd m_Wi_of 29 (.iconst 0) 1 30 := ⟨by decide +kernel, rfl⟩
theorem D_Wi_of_30 : xd m_Wi_of 30 (.ireturn) 1 31 := ⟨by decide +kernel, rfl⟩
theorem D_Wi_change_0 : xd m_Wi_change 0 (.iload_n 1) 1 1 := ⟨by decide +kernel, rfl⟩
theorem D_Wi_change_1 : xd m_Wi_change 1 (.invokestatic 16) 3 4 := ⟨by decide +kernel, rfl⟩
theorem D_Wi_change_4 : xd m_Wi_change 4 (.ifCond .eq 23) 3 7 := ⟨by decide +kernel, rfl⟩
theorem D_Wi_change_7 : xd m_Wi_change 7 (.iload_n 2) 1 8 := ⟨by decide +kernel, rfl⟩
theorem D_Wi_change_8 : xd m_Wi_change 8 (.invokestatic 16) 3 11 := ⟨by decide +kernel, rfl⟩
theorem D_Wi_change_11 : xd m_Wi_change 11 (.ifCond .eq 16) 3 14 := ⟨by decide +kernel, rfl⟩
theorem D_Wi_change_14 : xd m_Wi_change 14 (.aload_n 0) 1 15 := ⟨by decide +kernel, rfl⟩
theorem D_Wi_change_15 : xd m_Wi_change 15 (.getfield 10) 3 18 := ⟨by decide +kernel, rfl⟩
theorem D_Wi_change_18 : xd m_Wi_change 18 (.iload_n 1) 1 19 := ⟨by decide +kernel, rfl⟩
theorem D_Wi_change_19 : xd m_Wi_change 19 (.sipush 256) 3 22 := ⟨by decide +kernel, rfl⟩
theorem D_Wi_change_22 : xd m_Wi_change 22 (.imul) 1 23 := ⟨by decide +kernel, rfl⟩
theorem D_Wi_change_23 : xd m_Wi_change 23 (.iload_n 2) 1 24 := ⟨by decide +kernel, rfl⟩
theorem D_Wi_change_24 : xd m_Wi_change 24 (.iadd) 1 25 := ⟨by decide +kernel, rfl⟩
theorem D_Wi_change_25 : xd m_Wi_change 25 (.iload_n 3) 1 26 := ⟨by decide +kernel, rfl⟩
theorem D_Wi_change_26 : xd m_Wi_change 26 (.iastore) 1 27 := ⟨by decide +kernel, rfl⟩
theorem D_Wi_change_27 : xd m_Wi_change 27 (.return_) 1 28 := ⟨by decide +kernel, rfl⟩
theorem D_Wr_init_0 : xd m_Wr_init 0 (.aload_n 0) 1 1 := ⟨by decide +kernel, rfl⟩
theorem D_Wr_init_1 : xd m_Wr_init 1 (.invokespecial 3) 3 4 := ⟨by decide +kernel, rfl⟩
theorem D_Wr_init_4 : xd m_Wr_init 4 (.aload_n 0) 1 5 := ⟨by decide +kernel, rfl⟩
theorem D_Wr_init_5 : xd m_Wr_init 5 (.new 9) 3 8 := ⟨by decide +kernel, rfl⟩
theorem D_Wr_init_8 : xd m_Wr_init 8 (.dup) 1 9 := ⟨by decide +kernel, rfl⟩
theorem D_Wr_init_9 : xd m_Wr_init 9 (.invokespecial 11) 3 12 := ⟨by decide +kernel, rfl⟩
theorem D_Wr_init_12 : xd m_Wr_init 12 (.putfield 12) 3 15 := ⟨by decide +kernel, rfl⟩
theorem D_Wr_init_15 : xd m_Wr_init 15 (.aload_n 0) 1 16 := ⟨by decide +kernel, rfl⟩
theorem D_Wr_init_16 : xd m_Wr_init 16 (.new 18) 3 19 := ⟨by decide +kernel, rfl⟩
theorem D_Wr_init_19 : xd m_Wr_init 19 (.dup) 1 20 := ⟨by decide +kernel, rfl⟩
theorem D_Wr_init_20 : xd m_Wr_init 20 (.sipush 143) 3 23 := ⟨by decide +kernel, rfl⟩
theorem D_Wr_init_23 : xd m_Wr_init 23 (.invokespecial 20) 3 26 := ⟨by decide +kernel, rfl⟩
theorem D_Wr_init_26 : xd m_Wr_init 26 (.putfield 23) 3 29 := ⟨by decide +kernel, rfl⟩
theorem D_Wr_init_29 : xd m_Wr_init 29 (.aload_n 0) 1 30 := ⟨by decide +kernel, rfl⟩
theorem D_Wr_init_30 : xd m_Wr_init 30 (.new 18) 3 33 := ⟨by decide +kernel, rfl⟩
theorem D_Wr_init_33 : xd m_Wr_init 33 (.dup) 1 34 := ⟨by decide +kernel, rfl⟩
theorem D_Wr_init_34 : xd m_Wr_init 34 (.sipush 157) 3 37 := ⟨by decide +kernel, rfl⟩
theorem D_Wr_init_37 : xd m_Wr_init 37 (.invokespecial 20) 3 40 := ⟨by decide +kernel, rfl⟩
theorem D_Wr_init_40 : xd m_Wr_init 40 (.putfield 27) 3 43 := ⟨by decide +kernel, rfl⟩
theorem D_Wr_init_43 : xd m_Wr_init 43 (.aload_n 0) 1 44 := ⟨by decide +kernel, rfl⟩
theorem D_Wr_init_44 : xd m_Wr_init 44 (.sipush 256) 3 47 := ⟨by decide +kernel, rfl⟩
theorem D_Wr_init_47 : xd m_Wr_init 47 (.newarray .boolean) 2 49 := ⟨by decide +kernel, rfl⟩
theorem D_Wr_init_49 : xd m_Wr_init 49 (.putfield 30) 3 52 := ⟨by decide +kernel, rfl⟩
theorem D_Wr_init_52 : xd m_Wr_init 52 (.aload_n 0) 1 53 := ⟨by decide +kernel, rfl⟩
theorem D_Wr_init_53 : xd m_Wr_init 53 (.sipush 256) 3 56 := ⟨by decide +kernel, rfl⟩
theorem D_Wr_init_56 : xd m_Wr_init 56 (.newarray .int) 2 58 := ⟨by decide +kernel, rfl⟩
theorem D_Wr_init_58 : xd m_Wr_init 58 (.putfield 34) 3 61 := ⟨by decide +kernel, rfl⟩
theorem D_Wr_init_61 : xd m_Wr_init 61 (.aload_n 0) 1 62 := ⟨by decide +kernel, rfl⟩
theorem D_Wr_init_62 : xd m_Wr_init 62 (.iconst (-1)) 1 63 := ⟨by decide +kernel, rfl⟩
theorem D_Wr_init_63 : xd m_Wr_init 63 (.putfield 38) 3 66 := ⟨by decide +kernel, rfl⟩
theorem D_Wr_init_66 : xd m_Wr_init 66 (.aload_n 0) 1 67 := ⟨by decide +kernel, rfl⟩
theorem D_Wr_init_67 : xd m_Wr_init 67 (.aload_n 1) 1 68 := ⟨by decide +kernel, rfl⟩
theorem D_Wr_init_68 : xd m_Wr_init 68 (.putfield 42) 3 71 := ⟨by decide +kernel, rfl⟩
theorem D_Wr_init_71 : xd m_Wr_init 71 (.aload_n 0) 1 72 := ⟨by decide +kernel, rfl⟩
theorem D_Wr_init_72 : xd m_Wr_init 72 (.aload_n 2) 1 73 := ⟨by decide +kernel, rfl⟩
theorem D_Wr_init_73 : xd m_Wr_init 73 (.putfield 46) 3 76 := ⟨by decide +kernel, rfl⟩
theorem D_Wr_init_76 : xd m_Wr_init 76 (.return_) 1 77 := ⟨by decide +kernel, rfl⟩
theorem D_Wr_bytes_0 : xd m_Wr_bytes 0 (.aload_n 0) 1 1 := ⟨by decide +kernel, rfl⟩
theorem D_Wr_bytes_1 : xd m_Wr_bytes 1 (.getfield 12) 3 4 := ⟨by decide +kernel, rfl⟩
theorem D_Wr_bytes_4 : xd m_Wr_bytes 4 (.areturn) 1 5 := ⟨by decide +kernel, rfl⟩
theorem D_Wr_isClosed_0 : xd m_Wr_isClosed 0 (.aload_n 0) 1 1 := ⟨by decide +kernel, rfl⟩
theorem D_Wr_isClosed_1 : xd m_Wr_isClosed 1 (.getfield 50) 3 4 := ⟨by decide +kernel, rfl⟩
theorem D_Wr_isClosed_4 : xd m_Wr_isClosed 4 (.ireturn) 1 5 := ⟨by decide +kernel, rfl⟩
theorem D_Wr_pageCount_0 : xd m_Wr_pageCount 0 (.aload_n 0) 1 1 := ⟨by decide +kernel, rfl⟩
theorem D_Wr_pageCount_1 : xd m_Wr_pageCount 1 (.getfield 54) 3 4 := ⟨by decide +kernel, rfl⟩
theorem D_Wr_pageCount_4 : xd m_Wr_pageCount 4 (.ireturn) 1 5 := ⟨by decide +kernel, rfl⟩
theorem D_Wr_hasTold_0 : xd m_Wr_hasTold 0 (.iload_n 1) 1 1 := ⟨by decide +kernel, rfl⟩
theorem D_Wr_hasTold_1 : xd m_Wr_hasTold 1 (.invokestatic 57) 3 4 := ⟨by decide +kernel, rfl⟩
theorem D_Wr_hasTold_4 : xd m_Wr_hasTold 4 (.ifCond .eq 16) 3 7 := ⟨by decide +kernel, rfl⟩
theorem D_Wr_hasTold_7 : xd m_Wr_hasTold 7 (.aload_n 0) 1 8 := ⟨by decide +kernel, rfl⟩
theorem D_Wr_hasTold_8 : xd m_Wr_hasTold 8 (.getfield 30) 3 11 := ⟨by decide +kernel, rfl⟩
theorem D_Wr_hasTold_11 : xd m_Wr_hasTold 11 (.iload_n 1) 1 12 := ⟨by decide +kernel, rfl⟩
theorem D_Wr_hasTold_12 : xd m_Wr_hasTold 12 (.baload) 1 13 := ⟨by decide +kernel, rfl⟩
theorem D_Wr_hasTold_13 : xd m_Wr_hasTold 13 (.ifCond .eq 7) 3 16 := ⟨by decide +kernel, rfl⟩
theorem D_Wr_hasTold_16 : xd m_Wr_hasTold 16 (.iconst 1) 1 17 := ⟨by decide +kernel, rfl⟩
theorem D_Wr_hasTold_17 : xd m_Wr_hasTold 17 (.goto 4) 3 20 := ⟨by decide +kernel, rfl⟩
theorem D_Wr_hasTold_20 : xd m_Wr_hasTold 20 (.iconst 0) 1 21 := ⟨by decide +kernel, rfl⟩
theorem D_Wr_hasTold_21 : xd m_Wr_hasTold 21 (.ireturn) 1 22 := ⟨by decide +kernel, rfl⟩
theorem D_Wr_restart_0 : xd m_Wr_restart 0 (.aload_n 0) 1 1 := ⟨by decide +kernel, rfl⟩
theorem D_Wr_restart_1 : xd m_Wr_restart 1 (.iconst 0) 1 2 := ⟨by decide +kernel, rfl⟩
theorem D_Wr_restart_2 : xd m_Wr_restart 2 (.iconst 0) 1 3 := ⟨by decide +kernel, rfl⟩
theorem D_Wr_restart_3 : xd m_Wr_restart 3 (.invokevirtual 61) 3 6 := ⟨by decide +kernel, rfl⟩
theorem D_Wr_restart_6 : xd m_Wr_restart 6 (.aload_n 0) 1 7 := ⟨by decide +kernel, rfl⟩
theorem D_Wr_restart_7 : xd m_Wr_restart 7 (.iload_n 1) 1 8 := ⟨by decide +kernel, rfl⟩
theorem D_Wr_restart_8 : xd m_Wr_restart 8 (.putfield 65) 3 11 := ⟨by decide +kernel, rfl⟩
theorem D_Wr_restart_11 : xd m_Wr_restart 11 (.aload_n 0) 1 12 := ⟨by decide +kernel, rfl⟩
theorem D_Wr_restart_12 : xd m_Wr_restart 12 (.iload_n 2) 1 13 := ⟨by decide +kernel, rfl⟩
theorem D_Wr_restart_13 : xd m_Wr_restart 13 (.putfield 68) 3 16 := ⟨by decide +kernel, rfl⟩
theorem D_Wr_restart_16 : xd m_Wr_restart 16 (.aload_n 0) 1 17 := ⟨by decide +kernel, rfl⟩
theorem D_Wr_restart_17 : xd m_Wr_restart 17 (.iconst 0) 1 18 := ⟨by decide +kernel, rfl⟩
theorem D_Wr_restart_18 : xd m_Wr_restart 18 (.putfield 50) 3 21 := ⟨by decide +kernel, rfl⟩
theorem D_Wr_restart_21 : xd m_Wr_restart 21 (.aload_n 0) 1 22 := ⟨by decide +kernel, rfl⟩
theorem D_Wr_restart_22 : xd m_Wr_restart 22 (.iconst 0) 1 23 := ⟨by decide +kernel, rfl⟩
theorem D_Wr_restart_23 : xd m_Wr_restart 23 (.putfield 54) 3 26 := ⟨by decide +kernel, rfl⟩
theorem D_Wr_restart_26 : xd m_Wr_restart 26 (.aload_n 0) 1 27 := ⟨by decide +kernel, rfl⟩
theorem D_Wr_restart_27 : xd m_Wr_restart 27 (.iconst (-1)) 1 28 := ⟨by decide +kernel, rfl⟩
theorem D_Wr_restart_28 : xd m_Wr_restart 28 (.putfield 38) 3 31 := ⟨by decide +kernel, rfl⟩
theorem D_Wr_restart_31 : xd m_Wr_restart 31 (.aload_n 0) 1 32 := ⟨by decide +kernel, rfl⟩
theorem D_Wr_restart_32 : xd m_Wr_restart 32 (.iconst 0) 1 33 := ⟨by decide +kernel, rfl⟩
theorem D_Wr_restart_33 : xd m_Wr_restart 33 (.putfield 71) 3 36 := ⟨by decide +kernel, rfl⟩
theorem D_Wr_restart_36 : xd m_Wr_restart 36 (.aload_n 0) 1 37 := ⟨by decide +kernel, rfl⟩
theorem D_Wr_restart_37 : xd m_Wr_restart 37 (.iconst 0) 1 38 := ⟨by decide +kernel, rfl⟩
theorem D_Wr_restart_38 : xd m_Wr_restart 38 (.putfield 74) 3 41 := ⟨by decide +kernel, rfl⟩
theorem D_Wr_restart_41 : xd m_Wr_restart 41 (.return_) 1 42 := ⟨by decide +kernel, rfl⟩
theorem D_Wr_goBack_0 : xd m_Wr_goBack 0 (.aload_n 0) 1 1 := ⟨by decide +kernel, rfl⟩
theorem D_Wr_goBack_1 : xd m_Wr_goBack 1 (.getfield 12) 3 4 := ⟨by decide +kernel, rfl⟩
theorem D_Wr_goBack_4 : xd m_Wr_goBack 4 (.iload_n 1) 1 5 := ⟨by decide +kernel, rfl⟩
theorem D_Wr_goBack_5 : xd m_Wr_goBack 5 (.invokevirtual 77) 3 8 := ⟨by decide +kernel, rfl⟩
theorem D_Wr_goBack_8 : xd m_Wr_goBack 8 (.iload_n 2) 1 9 := ⟨by decide +kernel, rfl⟩
theorem D_Wr_goBack_9 : xd m_Wr_goBack 9 (.istore_n 3) 1 10 := ⟨by decide +kernel, rfl⟩
theorem D_Wr_goBack_10 : xd m_Wr_goBack 10 (.iload_n 3) 1 11 := ⟨by decide +kernel, rfl⟩
theorem D_Wr_goBack_11 : xd m_Wr_goBack 11 (.ifCond .lt 48) 3 14 := ⟨by decide +kernel, rfl⟩
theorem D_Wr_goBack_14 : xd m_Wr_goBack 14 (.iload_n 3) 1 15 := ⟨by decide +kernel, rfl⟩
theorem D_Wr_goBack_15 : xd m_Wr_goBack 15 (.aload_n 0) 1 16 := ⟨by decide +kernel, rfl⟩
theorem D_Wr_goBack_16 : xd m_Wr_goBack 16 (.getfield 80) 3 19 := ⟨by decide +kernel, rfl⟩
theorem D_Wr_goBack_19 : xd m_Wr_goBack 19 (.if_icmp .ge 40) 3 22 := ⟨by decide +kernel, rfl⟩
theorem D_Wr_goBack_22 : xd m_Wr_goBack 22 (.iload_n 3) 1 23 := ⟨by decide +kernel, rfl⟩
theorem D_Wr_goBack_23 : xd m_Wr_goBack 23 (.sipush 256) 3 26 := ⟨by decide +kernel, rfl⟩
theorem D_Wr_goBack_26 : xd m_Wr_goBack 26 (.if_icmp .ge 33) 3 29 := ⟨by decide +kernel, rfl⟩
theorem D_Wr_goBack_29 : xd m_Wr_goBack 29 (.aload_n 0) 1 30 := ⟨by decide +kernel, rfl⟩
theorem D_Wr_goBack_30 : xd m_Wr_goBack 30 (.getfield 34) 3 33 := ⟨by decide +kernel, rfl⟩
theorem D_Wr_goBack_33 : xd m_Wr_goBack 33 (.iload_n 3) 1 34 := ⟨by decide +kernel, rfl⟩
theorem D_Wr_goBack_34 : xd m_Wr_goBack 34 (.iaload) 1 35 := ⟨by decide +kernel, rfl⟩
theorem D_Wr_goBack_35 : xd m_Wr_goBack 35 (.istore 4) 2 37 := ⟨by decide +kernel, rfl⟩
theorem D_Wr_goBack_37 : xd m_Wr_goBack 37 (.iload 4) 2 39 := ⟨by decide +kernel, rfl⟩
theorem D_Wr_goBack_39 : xd m_Wr_goBack 39 (.invokestatic 57) 3 42 := ⟨by decide +kernel, rfl⟩
theorem D_Wr_goBack_42 : xd m_Wr_goBack 42 (.ifCond .eq 11) 3 45 := ⟨by decide +kernel, rfl⟩
theorem D_Wr_goBack_45 : xd m_Wr_goBack 45 (.aload_n 0) 1 46 := ⟨by decide +kernel, rfl⟩
theorem D_Wr_goBack_46 : xd m_Wr_goBack 46 (.getfield 30) 3 49 := ⟨by decide +kernel, rfl⟩
theorem D_Wr_goBack_49 : xd m_Wr_goBack 49 (.iload 4) 2 51 := ⟨by decide +kernel, rfl⟩
theorem D_Wr_goBack_51 : xd m_Wr_goBack 51 (.iconst 0) 1 52 := ⟨by decide +kernel, rfl⟩
theorem D_Wr_goBack_52 : xd m_Wr_goBack 52 (.bastore) 1 53 := ⟨by decide +kernel, rfl⟩
theorem D_Wr_goBack_53 : xd m_Wr_goBack 53 (.iinc 3 1) 3 56 := ⟨by decide +kernel, rfl⟩
theorem D_Wr_goBack_56 : xd m_Wr_goBack 56 (.goto (-46)) 3 59 := ⟨by decide +kernel, rfl⟩
theorem D_Wr_goBack_59 : xd m_Wr_goBack 59 (.aload_n 0) 1 60 := ⟨by decide +kernel, rfl⟩
theorem D_Wr_goBack_60 : xd m_Wr_goBack 60 (.iload_n 2) 1 61 := ⟨by decide +kernel, rfl⟩
theorem D_Wr_goBack_61 : xd m_Wr_goBack 61 (.putfield 80) 3 64 := ⟨by decide +kernel, rfl⟩
theorem D_Wr_goBack_64 : xd m_Wr_goBack 64 (.return_) 1 65 := ⟨by decide +kernel, rfl⟩
theorem D_Wr_planPage_0 : xd m_Wr_planPage 0 (.aload_n 0) 1 1 := ⟨by decide +kernel, rfl⟩
theorem D_Wr_planPage_1 : xd m_Wr_planPage 1 (.getfield 23) 3 4 := ⟨by decide +kernel, rfl⟩
theorem D_Wr_planPage_4 : xd m_Wr_planPage 4 (.invokevirtual 83) 3 7 := ⟨by decide +kernel, rfl⟩
theorem D_Wr_planPage_7 : xd m_Wr_planPage 7 (.aload_n 0) 1 8 := ⟨by decide +kernel, rfl⟩
theorem D_Wr_planPage_8 : xd m_Wr_planPage 8 (.getfield 27) 3 11 := ⟨by decide +kernel, rfl⟩
theorem D_Wr_planPage_11 : xd m_Wr_planPage 11 (.invokevirtual 83) 3 14 := ⟨by decide +kernel, rfl⟩
theorem D_Wr_planPage_14 : xd m_Wr_planPage 14 (.aload_n 0) 1 15 := ⟨by decide +kernel, rfl⟩
theorem D_Wr_planPage_15 : xd m_Wr_planPage 15 (.aload_n 0) 1 16 := ⟨by decide +kernel, rfl⟩
theorem D_Wr_planPage_16 : xd m_Wr_planPage 16 (.getfield 71) 3 19 := ⟨by decide +kernel, rfl⟩
theorem D_Wr_planPage_19 : xd m_Wr_planPage 19 (.putfield 86) 3 22 := ⟨by decide +kernel, rfl⟩
theorem D_Wr_planPage_22 : xd m_Wr_planPage 22 (.aload_n 0) 1 23 := ⟨by decide +kernel, rfl⟩
theorem D_Wr_planPage_23 : xd m_Wr_planPage 23 (.aload_n 0) 1 24 := ⟨by decide +kernel, rfl⟩
theorem D_Wr_planPage_24 : xd m_Wr_planPage 24 (.getfield 74) 3 27 := ⟨by decide +kernel, rfl⟩
theorem D_Wr_planPage_27 : xd m_Wr_planPage 27 (.putfield 89) 3 30 := ⟨by decide +kernel, rfl⟩
theorem D_Wr_planPage_30 : xd m_Wr_planPage 30 (.iconst 0) 1 31 := ⟨by decide +kernel, rfl⟩
theorem D_Wr_planPage_31 : xd m_Wr_planPage 31 (.istore_n 2) 1 32 := ⟨by decide +kernel, rfl⟩
theorem D_Wr_planPage_32 : xd m_Wr_planPage 32 (.iconst 0) 1 33 := ⟨by decide +kernel, rfl⟩
theorem D_Wr_planPage_33 : xd m_Wr_planPage 33 (.istore_n 3) 1 34 := ⟨by decide +kernel, rfl⟩
theorem D_Wr_planPage_34 : xd m_Wr_planPage 34 (.iconst 0) 1 35 := ⟨by decide +kernel, rfl⟩
theorem D_Wr_planPage_35 : xd m_Wr_planPage 35 (.istore 4) 2 37 := ⟨by decide +kernel, rfl⟩
theorem D_Wr_planPage_37 : xd m_Wr_planPage 37 (.iload 4) 2 39 := ⟨by decide +kernel, rfl⟩
theorem D_Wr_planPage_39 : xd m_Wr_planPage 39 (.aload_n 1) 1 40 := ⟨by decide +kernel, rfl⟩
theorem D_Wr_planPage_40 : xd m_Wr_planPage 40 (.invokevirtual 92) 3 43 := ⟨by decide +kernel, rfl⟩
theorem D_Wr_planPage_43 : xd m_Wr_planPage 43 (.if_icmp .ge 117) 3 46 := ⟨by decide +kernel, rfl⟩
theorem D_Wr_planPage_46 : xd m_Wr_planPage 46 (.aload_n 1) 1 47 := ⟨by decide +kernel, rfl⟩
theorem D_Wr_planPage_47 : xd m_Wr_planPage 47 (.iload 4) 2 49 := ⟨by decide +kernel, rfl⟩
theorem D_Wr_planPage_49 : xd m_Wr_planPage 49 (.invokevirtual 98) 3 52 := ⟨by decide +kernel, rfl⟩
theorem D_Wr_planPage_52 : xd m_Wr_planPage 52 (.istore 5) 2 54 := ⟨by decide +kernel, rfl⟩
theorem D_Wr_planPage_54 : xd m_Wr_planPage 54 (.aload_n 1) 1 55 := ⟨by decide +kernel, rfl⟩
theorem D_Wr_planPage_55 : xd m_Wr_planPage 55 (.iload 4) 2 57 := ⟨by decide +kernel, rfl⟩
theorem D_Wr_planPage_57 : xd m_Wr_planPage 57 (.invokevirtual 102) 3 60 := ⟨by decide +kernel, rfl⟩
theorem D_Wr_planPage_60 : xd m_Wr_planPage 60 (.istore 6) 2 62 := ⟨by decide +kernel, rfl⟩
theorem D_Wr_planPage_62 : xd m_Wr_planPage 62 (.iload 5) 2 64 := ⟨by decide +kernel, rfl⟩
theorem D_Wr_planPage_64 : xd m_Wr_planPage 64 (.i2l) 1 65 := ⟨by decide +kernel, rfl⟩
theorem D_Wr_planPage_65 : xd m_Wr_planPage 65 (.iload_n 2) 1 66 := ⟨by decide +kernel, rfl⟩
theorem D_Wr_planPage_66 : xd m_Wr_planPage 66 (.i2l) 1 67 := ⟨by decide +kernel, rfl⟩
theorem D_Wr_planPage_67 : xd m_Wr_planPage 67 (.lsub) 1 68 := ⟨by decide +kernel, rfl⟩
theorem D_Wr_planPage_68 : xd m_Wr_planPage 68 (.lstore 7) 2 70 := ⟨by decide +kernel, rfl⟩
theorem D_Wr_planPage_70 : xd m_Wr_planPage 70 (.iload 5) 2 72 := ⟨by decide +kernel, rfl⟩
theorem D_Wr_planPage_72 : xd m_Wr_planPage 72 (.i2l) 1 73 := ⟨by decide +kernel, rfl⟩
theorem D_Wr_planPage_73 : xd m_Wr_planPage 73 (.aload_n 0) 1 74 := ⟨by decide +kernel, rfl⟩
theorem D_Wr_planPage_74 : xd m_Wr_planPage 74 (.aload_n 1) 1 75 := ⟨by decide +kernel, rfl⟩
theorem D_Wr_planPage_75 : xd m_Wr_planPage 75 (.iload 4) 2 77 := ⟨by decide +kernel, rfl⟩
theorem D_Wr_planPage_77 : xd m_Wr_planPage 77 (.invokevirtual 105) 3 80 := ⟨by decide +kernel, rfl⟩
theorem D_Wr_planPage_80 : xd m_Wr_planPage 80 (.i2l) 1 81 := ⟨by decide +kernel, rfl⟩
theorem D_Wr_planPage_81 : xd m_Wr_planPage 81 (.ladd) 1 82 := ⟨by decide +kernel, rfl⟩
theorem D_Wr_planPage_82 : xd m_Wr_planPage 82 (.lstore 9) 2 84 := ⟨by decide +kernel, rfl⟩
theorem D_Wr_planPage_84 : xd m_Wr_planPage 84 (.lload 7) 2 86 := ⟨by decide +kernel, rfl⟩
theorem D_Wr_planPage_86 : xd m_Wr_planPage 86 (.invokestatic 109) 3 89 := ⟨by decide +kernel, rfl⟩
theorem D_Wr_planPage_89 : xd m_Wr_planPage 89 (.ifCond .eq 11) 3 92 := ⟨by decide +kernel, rfl⟩
theorem D_Wr_planPage_92 : xd m_Wr_planPage 92 (.lload 9) 2 94 := ⟨by decide +kernel, rfl⟩
theorem D_Wr_planPage_94 : xd m_Wr_planPage 94 (.invokestatic 109) 3 97 := ⟨by decide +kernel, rfl⟩
theorem D_Wr_planPage_97 : xd m_Wr_planPage 97 (.ifCond .ne 5) 3 100 := ⟨by decide +kernel, rfl⟩
theorem D_Wr_planPage_100 : xd m_Wr_planPage 100 (.iconst 0) 1 101 := ⟨by decide +kernel, rfl⟩
theorem D_Wr_planPage_101 : xd m_Wr_planPage 101 (.ireturn) 1 102 := ⟨by decide +kernel, rfl⟩
theorem D_Wr_planPage_102 : xd m_Wr_planPage 102 (.aload_n 0) 1 103 := ⟨by decide +kernel, rfl⟩
theorem D_Wr_planPage_103 : xd m_Wr_planPage 103 (.getfield 23) 3 106 := ⟨by decide +kernel, rfl⟩
theorem D_Wr_planPage_106 : xd m_Wr_planPage 106 (.lload 7) 2 108 := ⟨by decide +kernel, rfl⟩
theorem D_Wr_planPage_108 : xd m_Wr_planPage 108 (.l2i) 1 109 := ⟨by decide +kernel, rfl⟩
theorem D_Wr_planPage_109 : xd m_Wr_planPage 109 (.invokevirtual 113) 3 112 := ⟨by decide +kernel, rfl⟩
theorem D_Wr_planPage_112 : xd m_Wr_planPage 112 (.aload_n 0) 1 113 := ⟨by decide +kernel, rfl⟩
theorem D_Wr_planPage_113 : xd m_Wr_planPage 113 (.getfield 27) 3 116 := ⟨by decide +kernel, rfl⟩
theorem D_Wr_planPage_116 : xd m_Wr_planPage 116 (.iload 6) 2 118 := ⟨by decide +kernel, rfl⟩
theorem D_Wr_planPage_118 : xd m_Wr_planPage 118 (.iload_n 3) 1 119 := ⟨by decide +kernel, rfl⟩
theorem D_Wr_planPage_119 : xd m_Wr_planPage 119 (.isub) 1 120 := ⟨by decide +kernel, rfl⟩
theorem D_Wr_planPage_120 : xd m_Wr_planPage 120 (.invokevirtual 113) 3 123 := ⟨by decide +kernel, rfl⟩
theorem D_Wr_planPage_123 : xd m_Wr_planPage 123 (.lload 9) 2 125 := ⟨by decide +kernel, rfl⟩
theorem D_Wr_planPage_125 : xd m_Wr_planPage 125 (.l2i) 1 126 := ⟨by decide +kernel, rfl⟩
theorem D_Wr_planPage_126 : xd m_Wr_planPage 126 (.istore_n 2) 1 127 := ⟨by decide +kernel, rfl⟩
theorem D_Wr_planPage_127 : xd m_Wr_planPage 127 (.iload 6) 2 129 := ⟨by decide +kernel, rfl⟩
theorem D_Wr_planPage_129 : xd m_Wr_planPage 129 (.istore_n 3) 1 130 := ⟨by decide +kernel, rfl⟩
theorem D_Wr_planPage_130 : xd m_Wr_planPage 130 (.aload_n 0) 1 131 := ⟨by decide +kernel, rfl⟩
theorem D_Wr_planPage_131 : xd m_Wr_planPage 131 (.aload_n 0) 1 132 := ⟨by decide +kernel, rfl⟩
theorem D_Wr_planPage_132 : xd m_Wr_planPage 132 (.getfield 86) 3 135 := ⟨by decide +kernel, rfl⟩
theorem D_Wr_planPage_135 : xd m_Wr_planPage 135 (.iload_n 3) 1 136 := ⟨by decide +kernel, rfl⟩
theorem D_Wr_planPage_136 : xd m_Wr_planPage 136 (.invokestatic 116) 3 139 := ⟨by decide +kernel, rfl⟩
theorem D_Wr_planPage_139 : xd m_Wr_planPage 139 (.putfield 86) 3 142 := ⟨by decide +kernel, rfl⟩
theorem D_Wr_planPage_142 : xd m_Wr_planPage 142 (.aload_n 0) 1 143 := ⟨by decide +kernel, rfl⟩
theorem D_Wr_planPage_143 : xd m_Wr_planPage 143 (.aload_n 0) 1 144 := ⟨by decide +kernel, rfl⟩
theorem D_Wr_planPage_144 : xd m_Wr_planPage 144 (.getfield 89) 3 147 := ⟨by decide +kernel, rfl⟩
theorem D_Wr_planPage_147 : xd m_Wr_planPage 147 (.iload_n 2) 1 148 := ⟨by decide +kernel, rfl⟩
theorem D_Wr_planPage_148 : xd m_Wr_planPage 148 (.invokestatic 116) 3 151 := ⟨by decide +kernel, rfl⟩
theorem D_Wr_planPage_151 : xd m_Wr_planPage 151 (.putfield 89) 3 154 := ⟨by decide +kernel, rfl⟩
theorem D_Wr_planPage_154 : xd m_Wr_planPage 154 (.iinc 4 1) 3 157 := ⟨by decide +kernel, rfl⟩
theorem D_Wr_planPage_157 : xd m_Wr_planPage 157 (.goto (-120)) 3 160 := ⟨by decide +kernel, rfl⟩
theorem D_Wr_planPage_160 : xd m_Wr_planPage 160 (.iconst 1) 1 161 := ⟨by decide +kernel, rfl⟩
theorem D_Wr_planPage_161 : xd m_Wr_planPage 161 (.ireturn) 1 162 := ⟨by decide +kernel, rfl⟩
theorem D_Wr_growth_0 : xd m_Wr_growth 0 (.aload_n 1) 1 1 := ⟨by decide +kernel, rfl⟩
theorem D_Wr_growth_1 : xd m_Wr_growth 1 (.iload_n 2) 1 2 := ⟨by decide +kernel, rfl⟩
theorem D_Wr_growth_2 : xd m_Wr_growth 2 (.invokevirtual 122) 3 5 := ⟨by decide +kernel, rfl⟩
theorem D_Wr_growth_5 : xd m_Wr_growth 5 (.ifCond .eq 7) 3 8 := ⟨by decide +kernel, rfl⟩
theorem D_Wr_growth_8 : xd m_Wr_growth 8 (.iconst 0) 1 9 := ⟨by decide +kernel, rfl⟩
theorem D_Wr_growth_9 : xd m_Wr_growth 9 (.goto 20) 3 12 := ⟨by decide +kernel, rfl⟩
theorem D_Wr_growth_12 : xd m_Wr_growth 12 (.aload_n 0) 1 13 := ⟨by decide +kernel, rfl⟩
theorem D_Wr_growth_13 : xd m_Wr_growth 13 (.getfield 46) 3 16 := ⟨by decide +kernel, rfl⟩
theorem D_Wr_growth_16 : xd m_Wr_growth 16 (.aload_n 1) 1 17 := ⟨by decide +kernel, rfl⟩
theorem D_Wr_growth_17 : xd m_Wr_growth 17 (.iload_n 2) 1 18 := ⟨by decide +kernel, rfl⟩
theorem D_Wr_growth_18 : xd m_Wr_growth 18 (.invokevirtual 125) 3 21 := ⟨by decide +kernel, rfl⟩
theorem D_Wr_growth_21 : xd m_Wr_growth 21 (.aload_n 1) 1 22 := ⟨by decide +kernel, rfl⟩
theorem D_Wr_growth_22 : xd m_Wr_growth 22 (.iload_n 2) 1 23 := ⟨by decide +kernel, rfl⟩
theorem D_Wr_growth_23 : xd m_Wr_growth 23 (.invokevirtual 128) 3 26 := ⟨by decide +kernel, rfl⟩
theorem D_Wr_growth_26 : xd m_Wr_growth 26 (.invokevirtual 131) 3 29 := ⟨by decide +kernel, rfl⟩
theorem D_Wr_growth_29 : xd m_Wr_growth 29 (.ireturn) 1 30 := ⟨by decide +kernel, rfl⟩
theorem D_Wr_writePage_0 : xd m_Wr_writePage 0 (.aload_n 0) 1 1 := ⟨by decide +kernel, rfl⟩
theorem D_Wr_writePage_1 : xd m_Wr_writePage 1 (.getfield 12) 3 4 := ⟨by decide +kernel, rfl⟩
theorem D_Wr_writePage_4 : xd m_Wr_writePage 4 (.invokevirtual 136) 3 7 := ⟨by decide +kernel, rfl⟩
theorem D_Wr_writePage_7 : xd m_Wr_writePage 7 (.istore_n 3) 1 8 := ⟨by decide +kernel, rfl⟩
theorem D_Wr_writePage_8 : xd m_Wr_writePage 8 (.aload_n 0) 1 9 := ⟨by decide +kernel, rfl⟩
theorem D_Wr_writePage_9 : xd m_Wr_writePage 9 (.getfield 80) 3 12 := ⟨by decide +kernel, rfl⟩
theorem D_Wr_writePage_12 : xd m_Wr_writePage 12 (.istore 4) 2 14 := ⟨by decide +kernel, rfl⟩
theorem D_Wr_writePage_14 : xd m_Wr_writePage 14 (.aload_n 0) 1 15 := ⟨by decide +kernel, rfl⟩
theorem D_Wr_writePage_15 : xd m_Wr_writePage 15 (.invokevirtual 137) 3 18 := ⟨by decide +kernel, rfl⟩
theorem D_Wr_writePage_18 : xd m_Wr_writePage 18 (.aload_n 0) 1 19 := ⟨by decide +kernel, rfl⟩
theorem D_Wr_writePage_19 : xd m_Wr_writePage 19 (.getfield 12) 3 22 := ⟨by decide +kernel, rfl⟩
theorem D_Wr_writePage_22 : xd m_Wr_writePage 22 (.invokevirtual 136) 3 25 := ⟨by decide +kernel, rfl⟩
theorem D_Wr_writePage_25 : xd m_Wr_writePage 25 (.istore 5) 2 27 := ⟨by decide +kernel, rfl⟩
theorem D_Wr_writePage_27 : xd m_Wr_writePage 27 (.aload_n 0) 1 28 := ⟨by decide +kernel, rfl⟩
theorem D_Wr_writePage_28 : xd m_Wr_writePage 28 (.getfield 12) 3 31 := ⟨by decide +kernel, rfl⟩
theorem D_Wr_writePage_31 : xd m_Wr_writePage 31 (.sipush 139) 3 34 := ⟨by decide +kernel, rfl⟩
theorem D_Wr_writePage_34 : xd m_Wr_writePage 34 (.invokevirtual 140) 3 37 := ⟨by decide +kernel, rfl⟩
theorem D_Wr_writePage_37 : xd m_Wr_writePage 37 (.iconst 0) 1 38 := ⟨by decide +kernel, rfl⟩
theorem D_Wr_writePage_38 : xd m_Wr_writePage 38 (.istore 6) 2 40 := ⟨by decide +kernel, rfl⟩
theorem D_Wr_writePage_40 : xd m_Wr_writePage 40 (.iload 6) 2 42 := ⟨by decide +kernel, rfl⟩
theorem D_Wr_writePage_42 : xd m_Wr_writePage 42 (.aload_n 2) 1 43 := ⟨by decide +kernel, rfl⟩
theorem D_Wr_writePage_43 : xd m_Wr_writePage 43 (.arraylength) 1 44 := ⟨by decide +kernel, rfl⟩
theorem D_Wr_writePage_44 : xd m_Wr_writePage 44 (.if_icmp .ge 21) 3 47 := ⟨by decide +kernel, rfl⟩
theorem D_Wr_writePage_47 : xd m_Wr_writePage 47 (.aload_n 0) 1 48 := ⟨by decide +kernel, rfl⟩
theorem D_Wr_writePage_48 : xd m_Wr_writePage 48 (.getfield 12) 3 51 := ⟨by decide +kernel, rfl⟩
theorem D_Wr_writePage_51 : xd m_Wr_writePage 51 (.aload_n 2) 1 52 := ⟨by decide +kernel, rfl⟩
theorem D_Wr_writePage_52 : xd m_Wr_writePage 52 (.iload 6) 2 54 := ⟨by decide +kernel, rfl⟩
theorem D_Wr_writePage_54 : xd m_Wr_writePage 54 (.iaload) 1 55 := ⟨by decide +kernel, rfl⟩
theorem D_Wr_writePage_55 : xd m_Wr_writePage 55 (.iconst 4) 1 56 := ⟨by decide +kernel, rfl⟩
theorem D_Wr_writePage_56 : xd m_Wr_writePage 56 (.invokevirtual 143) 3 59 := ⟨by decide +kernel, rfl⟩
theorem D_Wr_writePage_59 : xd m_Wr_writePage 59 (.iinc 6 1) 3 62 := ⟨by decide +kernel, rfl⟩
theorem D_Wr_writePage_62 : xd m_Wr_writePage 62 (.goto (-22)) 3 65 := ⟨by decide +kernel, rfl⟩
theorem D_Wr_writePage_65 : xd m_Wr_writePage 65 (.aload_n 0) 1 66 := ⟨by decide +kernel, rfl⟩
theorem D_Wr_writePage_66 : xd m_Wr_writePage 66 (.getfield 12) 3 69 := ⟨by decide +kernel, rfl⟩
theorem D_Wr_writePage_69 : xd m_Wr_writePage 69 (.aload_n 0) 1 70 := ⟨by decide +kernel, rfl⟩
theorem D_Wr_writePage_70 : xd m_Wr_writePage 70 (.getfield 38) 3 73 := ⟨by decide +kernel, rfl⟩
theorem D_Wr_writePage_73 : xd m_Wr_writePage 73 (.iconst 4) 1 74 := ⟨by decide +kernel, rfl⟩
theorem D_Wr_writePage_74 : xd m_Wr_writePage 74 (.invokevirtual 143) 3 77 := ⟨by decide +kernel, rfl⟩
theorem D_Wr_writePage_77 : xd m_Wr_writePage 77 (.aload_n 0) 1 78 := ⟨by decide +kernel, rfl⟩
theorem D_Wr_writePage_78 : xd m_Wr_writePage 78 (.getfield 12) 3 81 := ⟨by decide +kernel, rfl⟩
theorem D_Wr_writePage_81 : xd m_Wr_writePage 81 (.sipush 141) 3 84 := ⟨by decide +kernel, rfl⟩
theorem D_Wr_writePage_84 : xd m_Wr_writePage 84 (.invokevirtual 140) 3 87 := ⟨by decide +kernel, rfl⟩
theorem D_Wr_writePage_87 : xd m_Wr_writePage 87 (.aload_n 0) 1 88 := ⟨by decide +kernel, rfl⟩
theorem D_Wr_writePage_88 : xd m_Wr_writePage 88 (.aload_n 1) 1 89 := ⟨by decide +kernel, rfl⟩
theorem D_Wr_writePage_89 : xd m_Wr_writePage 89 (.invokevirtual 146) 3 92 := ⟨by decide +kernel, rfl⟩
theorem D_Wr_writePage_92 : xd m_Wr_writePage 92 (.aload_n 0) 1 93 := ⟨by decide +kernel, rfl⟩
theorem D_Wr_writePage_93 : xd m_Wr_writePage 93 (.getfield 12) 3 96 := ⟨by decide +kernel, rfl⟩
theorem D_Wr_writePage_96 : xd m_Wr_writePage 96 (.sipush 142) 3 99 := ⟨by decide +kernel, rfl⟩
theorem D_Wr_writePage_99 : xd m_Wr_writePage 99 (.invokevirtual 140) 3 102 := ⟨by decide +kernel, rfl⟩
theorem D_Wr_writePage_102 : xd m_Wr_writePage 102 (.aload_n 0) 1 103 := ⟨by decide +kernel, rfl⟩
theorem D_Wr_writePage_103 : xd m_Wr_writePage 103 (.getfield 12) 3 106 := ⟨by decide +kernel, rfl⟩
theorem D_Wr_writePage_106 : xd m_Wr_writePage 106 (.sipush 140) 3 109 := ⟨by decide +kernel, rfl⟩
theorem D_Wr_writePage_109 : xd m_Wr_writePage 109 (.invokevirtual 140) 3 112 := ⟨by decide +kernel, rfl⟩
theorem D_Wr_writePage_112 : xd m_Wr_writePage 112 (.aload_n 0) 1 113 := ⟨by decide +kernel, rfl⟩
theorem D_Wr_writePage_113 : xd m_Wr_writePage 113 (.getfield 12) 3 116 := ⟨by decide +kernel, rfl⟩
theorem D_Wr_writePage_116 : xd m_Wr_writePage 116 (.invokevirtual 136) 3 119 := ⟨by decide +kernel, rfl⟩
theorem D_Wr_writePage_119 : xd m_Wr_writePage 119 (.ldc 150) 2 121 := ⟨by decide +kernel, rfl⟩
theorem D_Wr_writePage_121 : xd m_Wr_writePage 121 (.if_icmp .le 12) 3 124 := ⟨by decide +kernel, rfl⟩
theorem D_Wr_writePage_124 : xd m_Wr_writePage 124 (.aload_n 0) 1 125 := ⟨by decide +kernel, rfl⟩
theorem D_Wr_writePage_125 : xd m_Wr_writePage 125 (.iload_n 3) 1 126 := ⟨by decide +kernel, rfl⟩
theorem D_Wr_writePage_126 : xd m_Wr_writePage 126 (.iload 4) 2 128 := ⟨by decide +kernel, rfl⟩
theorem D_Wr_writePage_128 : xd m_Wr_writePage 128 (.invokevirtual 61) 3 131 := ⟨by decide +kernel, rfl⟩
theorem D_Wr_writePage_131 : xd m_Wr_writePage 131 (.iconst 0) 1 132 := ⟨by decide +kernel, rfl⟩
theorem D_Wr_writePage_132 : xd m_Wr_writePage 132 (.ireturn) 1 133 := ⟨by decide +kernel, rfl⟩
theorem D_Wr_writePage_133 : xd m_Wr_writePage 133 (.aload_n 0) 1 134 := ⟨by decide +kernel, rfl⟩
theorem D_Wr_writePage_134 : xd m_Wr_writePage 134 (.iload 5) 2 136 := ⟨by decide +kernel, rfl⟩
theorem D_Wr_writePage_136 : xd m_Wr_writePage 136 (.putfield 38) 3 139 := ⟨by decide +kernel, rfl⟩
theorem D_Wr_writePage_139 : xd m_Wr_writePage 139 (.aload_n 0) 1 140 := ⟨by decide +kernel, rfl⟩
theorem D_Wr_writePage_140 : xd m_Wr_writePage 140 (.dup) 1 141 := ⟨by decide +kernel, rfl⟩
theorem D_Wr_writePage_141 : xd m_Wr_writePage 141 (.getfield 54) 3 144 := ⟨by decide +kernel, rfl⟩
theorem D_Wr_writePage_144 : xd m_Wr_writePage 144 (.iconst 1) 1 145 := ⟨by decide +kernel, rfl⟩
theorem D_Wr_writePage_145 : xd m_Wr_writePage 145 (.iadd) 1 146 := ⟨by decide +kernel, rfl⟩
theorem D_Wr_writePage_146 : xd m_Wr_writePage 146 (.putfield 54) 3 149 := ⟨by decide +kernel, rfl⟩
theorem D_Wr_writePage_149 : xd m_Wr_writePage 149 (.aload_n 0) 1 150 := ⟨by decide +kernel, rfl⟩
theorem D_Wr_writePage_150 : xd m_Wr_writePage 150 (.aload_n 0) 1 151 := ⟨by decide +kernel, rfl⟩
theorem D_Wr_writePage_151 : xd m_Wr_writePage 151 (.getfield 86) 3 154 := ⟨by decide +kernel, rfl⟩
theorem D_Wr_writePage_154 : xd m_Wr_writePage 154 (.putfield 71) 3 157 := ⟨by decide +kernel, rfl⟩
theorem D_Wr_writePage_157 : xd m_Wr_writePage 157 (.aload_n 0) 1 158 := ⟨by decide +kernel, rfl⟩
theorem D_Wr_writePage_158 : xd m_Wr_writePage 158 (.aload_n 0) 1 159 := ⟨by decide +kernel, rfl⟩
theorem D_Wr_writePage_159 : xd m_Wr_writePage 159 (.getfield 89) 3 162 := ⟨by decide +kernel, rfl⟩
theorem D_Wr_writePage_162 : xd m_Wr_writePage 162 (.putfield 74) 3 165 := ⟨by decide +kernel, rfl⟩
theorem D_Wr_writePage_165 : xd m_Wr_writePage 165 (.iconst 1) 1 166 := ⟨by decide +kernel, rfl⟩
theorem D_Wr_writePage_166 : xd m_Wr_writePage 166 (.ireturn) 1 167 := ⟨by decide +kernel, rfl⟩
theorem D_Wr_writeStart_0 : xd m_Wr_writeStart 0 (.aload_n 0) 1 1 := ⟨by decide +kernel, rfl⟩
theorem D_Wr_writeStart_1 : xd m_Wr_writeStart 1 (.getfield 12) 3 4 := ⟨by decide +kernel, rfl⟩
theorem D_Wr_writeStart_4 : xd m_Wr_writeStart 4 (.invokevirtual 136) 3 7 := ⟨by decide +kernel, rfl⟩
theorem D_Wr_writeStart_7 : xd m_Wr_writeStart 7 (.ifCond .le 4) 3 10 := ⟨by decide +kernel, rfl⟩
theorem D_Wr_writeStart_10 : xd m_Wr_writeStart 10 (.return_) 1 11 := ⟨by decide +kernel, rfl⟩
theorem D_Wr_writeStart_11 : xd m_Wr_writeStart 11 (.aload_n 0) 1 12 := ⟨by decide +kernel, rfl⟩
theorem D_Wr_writeStart_12 : xd m_Wr_writeStart 12 (.getfield 12) 3 15 := ⟨by decide +kernel, rfl⟩
theorem D_Wr_writeStart_15 : xd m_Wr_writeStart 15 (.sipush 247) 3 18 := ⟨by decide +kernel, rfl⟩
theorem D_Wr_writeStart_18 : xd m_Wr_writeStart 18 (.invokevirtual 140) 3 21 := ⟨by decide +kernel, rfl⟩
theorem D_Wr_writeStart_21 : xd m_Wr_writeStart 21 (.aload_n 0) 1 22 := ⟨by decide +kernel, rfl⟩
theorem D_Wr_writeStart_22 : xd m_Wr_writeStart 22 (.getfield 12) 3 25 := ⟨by decide +kernel, rfl⟩
theorem D_Wr_writeStart_25 : xd m_Wr_writeStart 25 (.iconst 2) 1 26 := ⟨by decide +kernel, rfl⟩
theorem D_Wr_writeStart_26 : xd m_Wr_writeStart 26 (.invokevirtual 140) 3 29 := ⟨by decide +kernel, rfl⟩
theorem D_Wr_writeStart_29 : xd m_Wr_writeStart 29 (.aload_n 0) 1 30 := ⟨by decide +kernel, rfl⟩
theorem D_Wr_writeStart_30 : xd m_Wr_writeStart 30 (.invokevirtual 151) 3 33 := ⟨by decide +kernel, rfl⟩
theorem D_Wr_writeStart_33 : xd m_Wr_writeStart 33 (.aload_n 0) 1 34 := ⟨by decide +kernel, rfl⟩
theorem D_Wr_writeStart_34 : xd m_Wr_writeStart 34 (.getfield 12) 3 37 := ⟨by decide +kernel, rfl⟩
theorem D_Wr_writeStart_37 : xd m_Wr_writeStart 37 (.aload_n 0) 1 38 := ⟨by decide +kernel, rfl⟩
theorem D_Wr_writeStart_38 : xd m_Wr_writeStart 38 (.getfield 68) 3 41 := ⟨by decide +kernel, rfl⟩
theorem D_Wr_writeStart_41 : xd m_Wr_writeStart 41 (.invokevirtual 140) 3 44 := ⟨by decide +kernel, rfl⟩
theorem D_Wr_writeStart_44 : xd m_Wr_writeStart 44 (.iconst 0) 1 45 := ⟨by decide +kernel, rfl⟩
theorem D_Wr_writeStart_45 : xd m_Wr_writeStart 45 (.istore_n 1) 1 46 := ⟨by decide +kernel, rfl⟩
theorem D_Wr_writeStart_46 : xd m_Wr_writeStart 46 (.iload_n 1) 1 47 := ⟨by decide +kernel, rfl⟩
theorem D_Wr_writeStart_47 : xd m_Wr_writeStart 47 (.aload_n 0) 1 48 := ⟨by decide +kernel, rfl⟩
theorem D_Wr_writeStart_48 : xd m_Wr_writeStart 48 (.getfield 68) 3 51 := ⟨by decide +kernel, rfl⟩
theorem D_Wr_writeStart_51 : xd m_Wr_writeStart 51 (.if_icmp .ge 20) 3 54 := ⟨by decide +kernel, rfl⟩
theorem D_Wr_writeStart_54 : xd m_Wr_writeStart 54 (.aload_n 0) 1 55 := ⟨by decide +kernel, rfl⟩
theorem D_Wr_writeStart_55 : xd m_Wr_writeStart 55 (.getfield 12) 3 58 := ⟨by decide +kernel, rfl⟩
theorem D_Wr_writeStart_58 : xd m_Wr_writeStart 58 (.aload_n 0) 1 59 := ⟨by decide +kernel, rfl⟩
theorem D_Wr_writeStart_59 : xd m_Wr_writeStart 59 (.getfield 65) 3 62 := ⟨by decide +kernel, rfl⟩
theorem D_Wr_writeStart_62 : xd m_Wr_writeStart 62 (.invokevirtual 140) 3 65 := ⟨by decide +kernel, rfl⟩
theorem D_Wr_writeStart_65 : xd m_Wr_writeStart 65 (.iinc 1 1) 3 68 := ⟨by decide +kernel, rfl⟩
theorem D_Wr_writeStart_68 : xd m_Wr_writeStart 68 (.goto (-22)) 3 71 := ⟨by decide +kernel, rfl⟩
theorem D_Wr_writeStart_71 : xd m_Wr_writeStart 71 (.return_) 1 72 := ⟨by decide +kernel, rfl⟩
theorem D_Wr_writeScale_0 : xd m_Wr_writeScale 0 (.aload_n 0) 1 1 := ⟨by decide +kernel, rfl⟩
theorem D_Wr_writeScale_1 : xd m_Wr_writeScale 1 (.getfield 12) 3 4 := ⟨by decide +kernel, rfl⟩
theorem D_Wr_writeScale_4 : xd m_Wr_writeScale 4 (.ldc 154) 2 6 := ⟨by decide +kernel, rfl⟩
theorem D_Wr_writeScale_6 : xd m_Wr_writeScale 6 (.iconst 4) 1 7 := ⟨by decide +kernel, rfl⟩
theorem D_Wr_writeScale_7 : xd m_Wr_writeScale 7 (.invokevirtual 143) 3 10 := ⟨by decide +kernel, rfl⟩
theorem D_Wr_writeScale_10 : xd m_Wr_writeScale 10 (.aload_n 0) 1 11 := ⟨by decide +kernel, rfl⟩
theorem D_Wr_writeScale_11 : xd m_Wr_writeScale 11 (.getfield 12) 3 14 := ⟨by decide +kernel, rfl⟩
theorem D_Wr_writeScale_14 : xd m_Wr_writeScale 14 (.ldc 155) 2 16 := ⟨by decide +kernel, rfl⟩
theorem D_Wr_writeScale_16 : xd m_Wr_writeScale 16 (.iconst 4) 1 17 := ⟨by decide +kernel, rfl⟩
theorem D_Wr_writeScale_17 : xd m_Wr_writeScale 17 (.invokevirtual 143) 3 20 := ⟨by decide +kernel, rfl⟩
theorem D_Wr_writeScale_20 : xd m_Wr_writeScale 20 (.aload_n 0) 1 21 := ⟨by decide +kernel, rfl⟩
theorem D_Wr_writeScale_21 : xd m_Wr_writeScale 21 (.getfield 12) 3 24 := ⟨by decide +kernel, rfl⟩
theorem D_Wr_writeScale_24 : xd m_Wr_writeScale 24 (.sipush 1000) 3 27 := ⟨by decide +kernel, rfl⟩
theorem D_Wr_writeScale_27 : xd m_Wr_writeScale 27 (.iconst 4) 1 28 := ⟨by decide +kernel, rfl⟩
theorem D_Wr_writeScale_28 : xd m_Wr_writeScale 28 (.invokevirtual 143) 3 31 := ⟨by decide +kernel, rfl⟩
theorem D_Wr_writeScale_31 : xd m_Wr_writeScale 31 (.return_) 1 32 := ⟨by decide +kernel, rfl⟩
theorem D_Wr_writeMarks_0 : xd m_Wr_writeMarks 0 (.iconst (-1)) 1 1 := ⟨by decide +kernel, rfl⟩
theorem D_Wr_writeMarks_1 : xd m_Wr_writeMarks 1 (.istore_n 2) 1 2 := ⟨by decide +kernel, rfl⟩
theorem D_Wr_writeMarks_2 : xd m_Wr_writeMarks 2 (.iconst 0) 1 3 := ⟨by decide +kernel, rfl⟩
theorem D_Wr_writeMarks_3 : xd m_Wr_writeMarks 3 (.istore_n 3) 1 4 := ⟨by decide +kernel, rfl⟩
theorem D_Wr_writeMarks_4 : xd m_Wr_writeMarks 4 (.iload_n 3) 1 5 := ⟨by decide +kernel, rfl⟩
theorem D_Wr_writeMarks_5 : xd m_Wr_writeMarks 5 (.aload_n 1) 1 6 := ⟨by decide +kernel, rfl⟩
theorem D_Wr_writeMarks_6 : xd m_Wr_writeMarks 6 (.invokevirtual 92) 3 9 := ⟨by decide +kernel, rfl⟩
theorem D_Wr_writeMarks_9 : xd m_Wr_writeMarks 9 (.if_icmp .ge 109) 3 12 := ⟨by decide +kernel, rfl⟩
theorem D_Wr_writeMarks_12 : xd m_Wr_writeMarks 12 (.aload_n 0) 1 13 := ⟨by decide +kernel, rfl⟩
theorem D_Wr_writeMarks_13 : xd m_Wr_writeMarks 13 (.getfield 27) 3 16 := ⟨by decide +kernel, rfl⟩
theorem D_Wr_writeMarks_16 : xd m_Wr_writeMarks 16 (.iload_n 3) 1 17 := ⟨by decide +kernel, rfl⟩
theorem D_Wr_writeMarks_17 : xd m_Wr_writeMarks 17 (.aload_n 0) 1 18 := ⟨by decide +kernel, rfl⟩
theorem D_Wr_writeMarks_18 : xd m_Wr_writeMarks 18 (.getfield 12) 3 21 := ⟨by decide +kernel, rfl⟩
theorem D_Wr_writeMarks_21 : xd m_Wr_writeMarks 21 (.invokevirtual 156) 3 24 := ⟨by decide +kernel, rfl⟩
theorem D_Wr_writeMarks_24 : xd m_Wr_writeMarks 24 (.aload_n 0) 1 25 := ⟨by decide +kernel, rfl⟩
theorem D_Wr_writeMarks_25 : xd m_Wr_writeMarks 25 (.getfield 23) 3 28 := ⟨by decide +kernel, rfl⟩
theorem D_Wr_writeMarks_28 : xd m_Wr_writeMarks 28 (.iload_n 3) 1 29 := ⟨by decide +kernel, rfl⟩
theorem D_Wr_writeMarks_29 : xd m_Wr_writeMarks 29 (.aload_n 0) 1 30 := ⟨by decide +kernel, rfl⟩
theorem D_Wr_writeMarks_30 : xd m_Wr_writeMarks 30 (.getfield 12) 3 33 := ⟨by decide +kernel, rfl⟩
theorem D_Wr_writeMarks_33 : xd m_Wr_writeMarks 33 (.invokevirtual 156) 3 36 := ⟨by decide +kernel, rfl⟩
theorem D_Wr_writeMarks_36 : xd m_Wr_writeMarks 36 (.aload_n 1) 1 37 := ⟨by decide +kernel, rfl⟩
theorem D_Wr_writeMarks_37 : xd m_Wr_writeMarks 37 (.iload_n 3) 1 38 := ⟨by decide +kernel, rfl⟩
theorem D_Wr_writeMarks_38 : xd m_Wr_writeMarks 38 (.invokevirtual 122) 3 41 := ⟨by decide +kernel, rfl⟩
theorem D_Wr_writeMarks_41 : xd m_Wr_writeMarks 41 (.ifCond .eq 42) 3 44 := ⟨by decide +kernel, rfl⟩
theorem D_Wr_writeMarks_44 : xd m_Wr_writeMarks 44 (.aload_n 0) 1 45 := ⟨by decide +kernel, rfl⟩
theorem D_Wr_writeMarks_45 : xd m_Wr_writeMarks 45 (.getfield 12) 3 48 := ⟨by decide +kernel, rfl⟩
theorem D_Wr_writeMarks_48 : xd m_Wr_writeMarks 48 (.sipush 137) 3 51 := ⟨by decide +kernel, rfl⟩
theorem D_Wr_writeMarks_51 : xd m_Wr_writeMarks 51 (.invokevirtual 140) 3 54 := ⟨by decide +kernel, rfl⟩
theorem D_Wr_writeMarks_54 : xd m_Wr_writeMarks 54 (.aload_n 0) 1 55 := ⟨by decide +kernel, rfl⟩
theorem D_Wr_writeMarks_55 : xd m_Wr_writeMarks 55 (.getfield 12) 3 58 := ⟨by decide +kernel, rfl⟩
theorem D_Wr_writeMarks_58 : xd m_Wr_writeMarks 58 (.aload_n 1) 1 59 := ⟨by decide +kernel, rfl⟩
theorem D_Wr_writeMarks_59 : xd m_Wr_writeMarks 59 (.iload_n 3) 1 60 := ⟨by decide +kernel, rfl⟩
theorem D_Wr_writeMarks_60 : xd m_Wr_writeMarks 60 (.invokevirtual 160) 3 63 := ⟨by decide +kernel, rfl⟩
theorem D_Wr_writeMarks_63 : xd m_Wr_writeMarks 63 (.iconst 4) 1 64 := ⟨by decide +kernel, rfl⟩
theorem D_Wr_writeMarks_64 : xd m_Wr_writeMarks 64 (.invokevirtual 143) 3 67 := ⟨by decide +kernel, rfl⟩
theorem D_Wr_writeMarks_67 : xd m_Wr_writeMarks 67 (.aload_n 0) 1 68 := ⟨by decide +kernel, rfl⟩
theorem D_Wr_writeMarks_68 : xd m_Wr_writeMarks 68 (.getfield 12) 3 71 := ⟨by decide +kernel, rfl⟩
theorem D_Wr_writeMarks_71 : xd m_Wr_writeMarks 71 (.aload_n 1) 1 72 := ⟨by decide +kernel, rfl⟩
theorem D_Wr_writeMarks_72 : xd m_Wr_writeMarks 72 (.iload_n 3) 1 73 := ⟨by decide +kernel, rfl⟩
theorem D_Wr_writeMarks_73 : xd m_Wr_writeMarks 73 (.invokevirtual 128) 3 76 := ⟨by decide +kernel, rfl⟩
theorem D_Wr_writeMarks_76 : xd m_Wr_writeMarks 76 (.iconst 4) 1 77 := ⟨by decide +kernel, rfl⟩
theorem D_Wr_writeMarks_77 : xd m_Wr_writeMarks 77 (.invokevirtual 143) 3 80 := ⟨by decide +kernel, rfl⟩
theorem D_Wr_writeMarks_80 : xd m_Wr_writeMarks 80 (.goto 32) 3 83 := ⟨by decide +kernel, rfl⟩
theorem D_Wr_writeMarks_83 : xd m_Wr_writeMarks 83 (.aload_n 1) 1 84 := ⟨by decide +kernel, rfl⟩
theorem D_Wr_writeMarks_84 : xd m_Wr_writeMarks 84 (.iload_n 3) 1 85 := ⟨by decide +kernel, rfl⟩
theorem D_Wr_writeMarks_85 : xd m_Wr_writeMarks 85 (.invokevirtual 125) 3 88 := ⟨by decide +kernel, rfl⟩
theorem D_Wr_writeMarks_88 : xd m_Wr_writeMarks 88 (.iload_n 2) 1 89 := ⟨by decide +kernel, rfl⟩
theorem D_Wr_writeMarks_89 : xd m_Wr_writeMarks 89 (.if_icmp .eq 14) 3 92 := ⟨by decide +kernel, rfl⟩
theorem D_Wr_writeMarks_92 : xd m_Wr_writeMarks 92 (.aload_n 1) 1 93 := ⟨by decide +kernel, rfl⟩
theorem D_Wr_writeMarks_93 : xd m_Wr_writeMarks 93 (.iload_n 3) 1 94 := ⟨by decide +kernel, rfl⟩
theorem D_Wr_writeMarks_94 : xd m_Wr_writeMarks 94 (.invokevirtual 125) 3 97 := ⟨by decide +kernel, rfl⟩
theorem D_Wr_writeMarks_97 : xd m_Wr_writeMarks 97 (.istore_n 2) 1 98 := ⟨by decide +kernel, rfl⟩
theorem D_Wr_writeMarks_98 : xd m_Wr_writeMarks 98 (.aload_n 0) 1 99 := ⟨by decide +kernel, rfl⟩
theorem D_Wr_writeMarks_99 : xd m_Wr_writeMarks 99 (.iload_n 2) 1 100 := ⟨by decide +kernel, rfl⟩
theorem D_Wr_writeMarks_100 : xd m_Wr_writeMarks 100 (.invokevirtual 163) 3 103 := ⟨by decide +kernel, rfl⟩
theorem D_Wr_writeMarks_103 : xd m_Wr_writeMarks 103 (.aload_n 0) 1 104 := ⟨by decide +kernel, rfl⟩
theorem D_Wr_writeMarks_104 : xd m_Wr_writeMarks 104 (.aload_n 1) 1 105 := ⟨by decide +kernel, rfl⟩
theorem D_Wr_writeMarks_105 : xd m_Wr_writeMarks 105 (.iload_n 3) 1 106 := ⟨by decide +kernel, rfl⟩
theorem D_Wr_writeMarks_106 : xd m_Wr_writeMarks 106 (.invokevirtual 128) 3 109 := ⟨by decide +kernel, rfl⟩
theorem D_Wr_writeMarks_109 : xd m_Wr_writeMarks 109 (.invokevirtual 166) 3 112 := ⟨by decide +kernel, rfl⟩
theorem D_Wr_writeMarks_112 : xd m_Wr_writeMarks 112 (.iinc 3 1) 3 115 := ⟨by decide +kernel, rfl⟩
theorem D_Wr_writeMarks_115 : xd m_Wr_writeMarks 115 (.goto (-111)) 3 118 := ⟨by decide +kernel, rfl⟩
theorem D_Wr_writeMarks_118 : xd m_Wr_writeMarks 118 (.return_) 1 119 := ⟨by decide +kernel, rfl⟩
theorem D_Wr_writeFont_0 : xd m_Wr_writeFont 0 (.aload_n 0) 1 1 := ⟨by decide +kernel, rfl⟩
theorem D_Wr_writeFont_1 : xd m_Wr_writeFont 1 (.iload_n 1) 1 2 := ⟨by decide +kernel, rfl⟩
theorem D_Wr_writeFont_2 : xd m_Wr_writeFont 2 (.invokevirtual 169) 3 5 := ⟨by decide +kernel, rfl⟩
theorem D_Wr_writeFont_5 : xd m_Wr_writeFont 5 (.ifCond .ne 20) 3 8 := ⟨by decide +kernel, rfl⟩
theorem D_Wr_writeFont_8 : xd m_Wr_writeFont 8 (.aload_n 0) 1 9 := ⟨by decide +kernel, rfl⟩
theorem D_Wr_writeFont_9 : xd m_Wr_writeFont 9 (.getfield 42) 3 12 := ⟨by decide +kernel, rfl⟩
theorem D_Wr_writeFont_12 : xd m_Wr_writeFont 12 (.iload_n 1) 1 13 := ⟨by decide +kernel, rfl⟩
theorem D_Wr_writeFont_13 : xd m_Wr_writeFont 13 (.aload_n 0) 1 14 := ⟨by decide +kernel, rfl⟩
theorem D_Wr_writeFont_14 : xd m_Wr_writeFont 14 (.getfield 12) 3 17 := ⟨by decide +kernel, rfl⟩
theorem D_Wr_writeFont_17 : xd m_Wr_writeFont 17 (.invokevirtual 172) 3 20 := ⟨by decide +kernel, rfl⟩
theorem D_Wr_writeFont_20 : xd m_Wr_writeFont 20 (.aload_n 0) 1 21 := ⟨by decide +kernel, rfl⟩
theorem D_Wr_writeFont_21 : xd m_Wr_writeFont 21 (.iload_n 1) 1 22 := ⟨by decide +kernel, rfl⟩
theorem D_Wr_writeFont_22 : xd m_Wr_writeFont 22 (.invokevirtual 177) 3 25 := ⟨by decide +kernel, rfl⟩
theorem D_Wr_writeFont_25 : xd m_Wr_writeFont 25 (.iload_n 1) 1 26 := ⟨by decide +kernel, rfl⟩
theorem D_Wr_writeFont_26 : xd m_Wr_writeFont 26 (.bipush 64) 2 28 := ⟨by decide +kernel, rfl⟩
theorem D_Wr_writeFont_28 : xd m_Wr_writeFont 28 (.if_icmp .ge 18) 3 31 := ⟨by decide +kernel, rfl⟩
theorem D_Wr_writeFont_31 : xd m_Wr_writeFont 31 (.aload_n 0) 1 32 := ⟨by decide +kernel, rfl⟩
theorem D_Wr_writeFont_32 : xd m_Wr_writeFont 32 (.getfield 12) 3 35 := ⟨by decide +kernel, rfl⟩
theorem D_Wr_writeFont_35 : xd m_Wr_writeFont 35 (.sipush 171) 3 38 := ⟨by decide +kernel, rfl⟩
theorem D_Wr_writeFont_38 : xd m_Wr_writeFont 38 (.iload_n 1) 1 39 := ⟨by decide +kernel, rfl⟩
theorem D_Wr_writeFont_39 : xd m_Wr_writeFont 39 (.iadd) 1 40 := ⟨by decide +kernel, rfl⟩
theorem D_Wr_writeFont_40 : xd m_Wr_writeFont 40 (.invokevirtual 140) 3 43 := ⟨by decide +kernel, rfl⟩
theorem D_Wr_writeFont_43 : xd m_Wr_writeFont 43 (.goto 21) 3 46 := ⟨by decide +kernel, rfl⟩
theorem D_Wr_writeFont_46 : xd m_Wr_writeFont 46 (.aload_n 0) 1 47 := ⟨by decide +kernel, rfl⟩
theorem D_Wr_writeFont_47 : xd m_Wr_writeFont 47 (.getfield 12) 3 50 := ⟨by decide +kernel, rfl⟩
theorem D_Wr_writeFont_50 : xd m_Wr_writeFont 50 (.sipush 235) 3 53 := ⟨by decide +kernel, rfl⟩
theorem D_Wr_writeFont_53 : xd m_Wr_writeFont 53 (.invokevirtual 140) 3 56 := ⟨by decide +kernel, rfl⟩
theorem D_Wr_writeFont_56 : xd m_Wr_writeFont 56 (.aload_n 0) 1 57 := ⟨by decide +kernel, rfl⟩
theorem D_Wr_writeFont_57 : xd m_Wr_writeFont 57 (.getfield 12) 3 60 := ⟨by decide +kernel, rfl⟩
theorem D_Wr_writeFont_60 : xd m_Wr_writeFont 60 (.iload_n 1) 1 61 := ⟨by decide +kernel, rfl⟩
theorem D_Wr_writeFont_61 : xd m_Wr_writeFont 61 (.invokevirtual 140) 3 64 := ⟨by decide +kernel, rfl⟩
theorem D_Wr_writeFont_64 : xd m_Wr_writeFont 64 (.return_) 1 65 := ⟨by decide +kernel, rfl⟩
theorem D_Wr_remember_0 : xd m_Wr_remember 0 (.iload_n 1) 1 1 := ⟨by decide +kernel, rfl⟩
theorem D_Wr_remember_1 : xd m_Wr_remember 1 (.invokestatic 57) 3 4 := ⟨by decide +kernel, rfl⟩
theorem D_Wr_remember_4 : xd m_Wr_remember 4 (.ifCond .eq 49) 3 7 := ⟨by decide +kernel, rfl⟩
theorem D_Wr_remember_7 : xd m_Wr_remember 7 (.aload_n 0) 1 8 := ⟨by decide +kernel, rfl⟩
theorem D_Wr_remember_8 : xd m_Wr_remember 8 (.getfield 80) 3 11 := ⟨by decide +kernel, rfl⟩
theorem D_Wr_remember_11 : xd m_Wr_remember 11 (.ifCond .lt 42) 3 14 := ⟨by decide +kernel, rfl⟩
theorem D_Wr_remember_14 : xd m_Wr_remember 14 (.aload_n 0) 1 15 := ⟨by decide +kernel, rfl⟩
theorem D_Wr_remember_15 : xd m_Wr_remember 15 (.getfield 80) 3 18 := ⟨by decide +kernel, rfl⟩
theorem D_Wr_remember_18 : xd m_Wr_remember 18 (.aload_n 0) 1 19 := ⟨by decide +kernel, rfl⟩
theorem D_Wr_remember_19 : xd m_Wr_remember 19 (.getfield 34) 3 22 := ⟨by decide +kernel, rfl⟩
theorem D_Wr_remember_22 : xd m_Wr_remember 22 (.arraylength) 1 23 := ⟨by decide +kernel, rfl⟩
theorem D_Wr_remember_23 : xd m_Wr_remember 23 (.if_icmp .ge 30) 3 26 := ⟨by decide +kernel, rfl⟩
theorem D_Wr_remember_26 : xd m_Wr_remember 26 (.aload_n 0) 1 27 := ⟨by decide +kernel, rfl⟩
theorem D_Wr_remember_27 : xd m_Wr_remember 27 (.getfield 30) 3 30 := ⟨by decide +kernel, rfl⟩
theorem D_Wr_remember_30 : xd m_Wr_remember 30 (.iload_n 1) 1 31 := ⟨by decide +kernel, rfl⟩
theorem D_Wr_remember_31 : xd m_Wr_remember 31 (.iconst 1) 1 32 := ⟨by decide +kernel, rfl⟩
theorem D_Wr_remember_32 : xd m_Wr_remember 32 (.bastore) 1 33 := ⟨by decide +kernel, rfl⟩
theorem D_Wr_remember_33 : xd m_Wr_remember 33 (.aload_n 0) 1 34 := ⟨by decide +kernel, rfl⟩
theorem D_Wr_remember_34 : xd m_Wr_remember 34 (.getfield 34) 3 37 := ⟨by decide +kernel, rfl⟩
theorem D_Wr_remember_37 : xd m_Wr_remember 37 (.aload_n 0) 1 38 := ⟨by decide +kernel, rfl⟩
theorem D_Wr_remember_38 : xd m_Wr_remember 38 (.getfield 80) 3 41 := ⟨by decide +kernel, rfl⟩
theorem D_Wr_remember_41 : xd m_Wr_remember 41 (.iload_n 1) 1 42 := ⟨by decide +kernel, rfl⟩
theorem D_Wr_remember_42 : xd m_Wr_remember 42 (.iastore) 1 43 := ⟨by decide +kernel, rfl⟩
theorem D_Wr_remember_43 : xd m_Wr_remember 43 (.aload_n 0) 1 44 := ⟨by decide +kernel, rfl⟩
theorem D_Wr_remember_44 : xd m_Wr_remember 44 (.dup) 1 45 := ⟨by decide +kernel, rfl⟩
theorem D_Wr_remember_45 : xd m_Wr_remember 45 (.getfield 80) 3 48 := ⟨by decide +kernel, rfl⟩
theorem D_Wr_remember_48 : xd m_Wr_remember 48 (.iconst 1) 1 49 := ⟨by decide +kernel, rfl⟩
theorem D_Wr_remember_49 : xd m_Wr_remember 49 (.iadd) 1 50 := ⟨by decide +kernel, rfl⟩
theorem D_Wr_remember_50 : xd m_Wr_remember 50 (.putfield 80) 3 53 := ⟨by decide +kernel, rfl⟩
theorem D_Wr_remember_53 : xd m_Wr_remember 53 (.return_) 1 54 := ⟨by decide +kernel, rfl⟩
theorem D_Wr_writeCharacter_0 : xd m_Wr_writeCharacter 0 (.iload_n 1) 1 1 := ⟨by decide +kernel, rfl⟩
theorem D_Wr_writeCharacter_1 : xd m_Wr_writeCharacter 1 (.sipush 128) 3 4 := ⟨by decide +kernel, rfl⟩
theorem D_Wr_writeCharacter_4 : xd m_Wr_writeCharacter 4 (.if_icmp .lt 13) 3 7 := ⟨by decide +kernel, rfl⟩
theorem D_Wr_writeCharacter_7 : xd m_Wr_writeCharacter 7 (.aload_n 0) 1 8 := ⟨by decide +kernel, rfl⟩
theorem D_Wr_writeCharacter_8 : xd m_Wr_writeCharacter 8 (.getfield 12) 3 11 := ⟨by decide +kernel, rfl⟩
theorem D_Wr_writeCharacter_11 : xd m_Wr_writeCharacter 11 (.sipush 128) 3 14 := ⟨by decide +kernel, rfl⟩
theorem D_Wr_writeCharacter_14 : xd m_Wr_writeCharacter 14 (.invokevirtual 140) 3 17 := ⟨by decide +kernel, rfl⟩
theorem D_Wr_writeCharacter_17 : xd m_Wr_writeCharacter 17 (.aload_n 0) 1 18 := ⟨by decide +kernel, rfl⟩
theorem D_Wr_writeCharacter_18 : xd m_Wr_writeCharacter 18 (.getfield 12) 3 21 := ⟨by decide +kernel, rfl⟩
theorem D_Wr_writeCharacter_21 : xd m_Wr_writeCharacter 21 (.iload_n 1) 1 22 := ⟨by decide +kernel, rfl⟩
theorem D_Wr_writeCharacter_22 : xd m_Wr_writeCharacter 22 (.invokevirtual 140) 3 25 := ⟨by decide +kernel, rfl⟩
theorem D_Wr_writeCharacter_25 : xd m_Wr_writeCharacter 25 (.return_) 1 26 := ⟨by decide +kernel, rfl⟩
theorem D_Wr_writeEnd_0 : xd m_Wr_writeEnd 0 (.aload_n 0) 1 1 := ⟨by decide +kernel, rfl⟩
theorem D_Wr_writeEnd_1 : xd m_Wr_writeEnd 1 (.invokevirtual 137) 3 4 := ⟨by decide +kernel, rfl⟩
theorem D_Wr_writeEnd_4 : xd m_Wr_writeEnd 4 (.aload_n 0) 1 5 := ⟨by decide +kernel, rfl⟩
theorem D_Wr_writeEnd_5 : xd m_Wr_writeEnd 5 (.getfield 12) 3 8 := ⟨by decide +kernel, rfl⟩
theorem D_Wr_writeEnd_8 : xd m_Wr_writeEnd 8 (.invokevirtual 136) 3 11 := ⟨by decide +kernel, rfl⟩
theorem D_Wr_writeEnd_11 : xd m_Wr_writeEnd 11 (.istore_n 1) 1 12 := ⟨by decide +kernel, rfl⟩
theorem D_Wr_writeEnd_12 : xd m_Wr_writeEnd 12 (.aload_n 0) 1 13 := ⟨by decide +kernel, rfl⟩
theorem D_Wr_writeEnd_13 : xd m_Wr_writeEnd 13 (.getfield 12) 3 16 := ⟨by decide +kernel, rfl⟩
theorem D_Wr_writeEnd_16 : xd m_Wr_writeEnd 16 (.sipush 248) 3 19 := ⟨by decide +kernel, rfl⟩
theorem D_Wr_writeEnd_19 : xd m_Wr_writeEnd 19 (.invokevirtual 140) 3 22 := ⟨by decide +kernel, rfl⟩
theorem D_Wr_writeEnd_22 : xd m_Wr_writeEnd 22 (.aload_n 0) 1 23 := ⟨by decide +kernel, rfl⟩
theorem D_Wr_writeEnd_23 : xd m_Wr_writeEnd 23 (.getfield 12) 3 26 := ⟨by decide +kernel, rfl⟩
theorem D_Wr_writeEnd_26 : xd m_Wr_writeEnd 26 (.aload_n 0) 1 27 := ⟨by decide +kernel, rfl⟩
theorem D_Wr_writeEnd_27 : xd m_Wr_writeEnd 27 (.getfield 38) 3 30 := ⟨by decide +kernel, rfl⟩
theorem D_Wr_writeEnd_30 : xd m_Wr_writeEnd 30 (.iconst 4) 1 31 := ⟨by decide +kernel, rfl⟩
theorem D_Wr_writeEnd_31 : xd m_Wr_writeEnd 31 (.invokevirtual 143) 3 34 := ⟨by decide +kernel, rfl⟩
theorem D_Wr_writeEnd_34 : xd m_Wr_writeEnd 34 (.aload_n 0) 1 35 := ⟨by decide +kernel, rfl⟩
theorem D_Wr_writeEnd_35 : xd m_Wr_writeEnd 35 (.invokevirtual 151) 3 38 := ⟨by decide +kernel, rfl⟩
theorem D_Wr_writeEnd_38 : xd m_Wr_writeEnd 38 (.aload_n 0) 1 39 := ⟨by decide +kernel, rfl⟩
theorem D_Wr_writeEnd_39 : xd m_Wr_writeEnd 39 (.getfield 12) 3 42 := ⟨by decide +kernel, rfl⟩
theorem D_Wr_writeEnd_42 : xd m_Wr_writeEnd 42 (.aload_n 0) 1 43 := ⟨by decide +kernel, rfl⟩
theorem D_Wr_writeEnd_43 : xd m_Wr_writeEnd 43 (.getfield 71) 3 46 := ⟨by decide +kernel, rfl⟩
theorem D_Wr_writeEnd_46 : xd m_Wr_writeEnd 46 (.iconst 4) 1 47 := ⟨by decide +kernel, rfl⟩
theorem D_Wr_writeEnd_47 : xd m_Wr_writeEnd 47 (.invokevirtual 143) 3 50 := ⟨by decide +kernel, rfl⟩
theorem D_Wr_writeEnd_50 : xd m_Wr_writeEnd 50 (.aload_n 0) 1 51 := ⟨by decide +kernel, rfl⟩
theorem D_Wr_writeEnd_51 : xd m_Wr_writeEnd 51 (.getfield 12) 3 54 := ⟨by decide +kernel, rfl⟩
theorem D_Wr_writeEnd_54 : xd m_Wr_writeEnd 54 (.aload_n 0) 1 55 := ⟨by decide +kernel, rfl⟩
theorem D_Wr_writeEnd_55 : xd m_Wr_writeEnd 55 (.getfield 74) 3 58 := ⟨by decide +kernel, rfl⟩
theorem D_Wr_writeEnd_58 : xd m_Wr_writeEnd 58 (.iconst 4) 1 59 := ⟨by decide +kernel, rfl⟩
theorem D_Wr_writeEnd_59 : xd m_Wr_writeEnd 59 (.invokevirtual 143) 3 62 := ⟨by decide +kernel, rfl⟩
theorem D_Wr_writeEnd_62 : xd m_Wr_writeEnd 62 (.aload_n 0) 1 63 := ⟨by decide +kernel, rfl⟩
theorem D_Wr_writeEnd_63 : xd m_Wr_writeEnd 63 (.getfield 12) 3 66 := ⟨by decide +kernel, rfl⟩
theorem D_Wr_writeEnd_66 : xd m_Wr_writeEnd 66 (.aload_n 0) 1 67 := ⟨by decide +kernel, rfl⟩
theorem D_Wr_writeEnd_67 : xd m_Wr_writeEnd 67 (.getfield 54) 3 70 := ⟨by decide +kernel, rfl⟩
theorem D_Wr_writeEnd_70 : xd m_Wr_writeEnd 70 (.ifCond .le 7) 3 73 := ⟨by decide +kernel, rfl⟩
theorem D_Wr_writeEnd_73 : xd m_Wr_writeEnd 73 (.iconst 1) 1 74 := ⟨by decide +kernel, rfl⟩
theorem D_Wr_writeEnd_74 : xd m_Wr_writeEnd 74 (.goto 4) 3 77 := ⟨by decide +kernel, rfl⟩
theorem D_Wr_writeEnd_77 : xd m_Wr_writeEnd 77 (.iconst 0) 1 78 := ⟨by decide +kernel, rfl⟩
theorem D_Wr_writeEnd_78 : xd m_Wr_writeEnd 78 (.iconst 2) 1 79 := ⟨by decide +kernel, rfl⟩
theorem D_Wr_writeEnd_79 : xd m_Wr_writeEnd 79 (.invokevirtual 143) 3 82 := ⟨by decide +kernel, rfl⟩
theorem D_Wr_writeEnd_82 : xd m_Wr_writeEnd 82 (.aload_n 0) 1 83 := ⟨by decide +kernel, rfl⟩
theorem D_Wr_writeEnd_83 : xd m_Wr_writeEnd 83 (.getfield 12) 3 86 := ⟨by decide +kernel, rfl⟩
theorem D_Wr_writeEnd_86 : xd m_Wr_writeEnd 86 (.aload_n 0) 1 87 := ⟨by decide +kernel, rfl⟩
theorem D_Wr_writeEnd_87 : xd m_Wr_writeEnd 87 (.getfield 54) 3 90 := ⟨by decide +kernel, rfl⟩
theorem D_Wr_writeEnd_90 : xd m_Wr_writeEnd 90 (.iconst 2) 1 91 := ⟨by decide +kernel, rfl⟩
theorem D_Wr_writeEnd_91 : xd m_Wr_writeEnd 91 (.invokevirtual 143) 3 94 := ⟨by decide +kernel, rfl⟩
theorem D_Wr_writeEnd_94 : xd m_Wr_writeEnd 94 (.aload_n 0) 1 95 := ⟨by decide +kernel, rfl⟩
theorem D_Wr_writeEnd_95 : xd m_Wr_writeEnd 95 (.getfield 80) 3 98 := ⟨by decide +kernel, rfl⟩
theorem D_Wr_writeEnd_98 : xd m_Wr_writeEnd 98 (.iconst 1) 1 99 := ⟨by decide +kernel, rfl⟩
theorem D_Wr_writeEnd_99 : xd m_Wr_writeEnd 99 (.isub) 1 100 := ⟨by decide +kernel, rfl⟩
theorem D_Wr_writeEnd_100 : xd m_Wr_writeEnd 100 (.istore_n 2) 1 101 := ⟨by decide +kernel, rfl⟩
theorem D_Wr_writeEnd_101 : xd m_Wr_writeEnd 101 (.iload_n 2) 1 102 := ⟨by decide +kernel, rfl⟩
theorem D_Wr_writeEnd_102 : xd m_Wr_writeEnd 102 (.ifCond .lt 35) 3 105 := ⟨by decide +kernel, rfl⟩
theorem D_Wr_writeEnd_105 : xd m_Wr_writeEnd 105 (.iload_n 2) 1 106 := ⟨by decide +kernel, rfl⟩
theorem D_Wr_writeEnd_106 : xd m_Wr_writeEnd 106 (.aload_n 0) 1 107 := ⟨by decide +kernel, rfl⟩
theorem D_Wr_writeEnd_107 : xd m_Wr_writeEnd 107 (.getfield 34) 3 110 := ⟨by decide +kernel, rfl⟩
theorem D_Wr_writeEnd_110 : xd m_Wr_writeEnd 110 (.arraylength) 1 111 := ⟨by decide +kernel, rfl⟩
theorem D_Wr_writeEnd_111 : xd m_Wr_writeEnd 111 (.if_icmp .ge 26) 3 114 := ⟨by decide +kernel, rfl⟩
theorem D_Wr_writeEnd_114 : xd m_Wr_writeEnd 114 (.aload_n 0) 1 115 := ⟨by decide +kernel, rfl⟩
theorem D_Wr_writeEnd_115 : xd m_Wr_writeEnd 115 (.getfield 42) 3 118 := ⟨by decide +kernel, rfl⟩
theorem D_Wr_writeEnd_118 : xd m_Wr_writeEnd 118 (.aload_n 0) 1 119 := ⟨by decide +kernel, rfl⟩
theorem D_Wr_writeEnd_119 : xd m_Wr_writeEnd 119 (.getfield 34) 3 122 := ⟨by decide +kernel, rfl⟩
theorem D_Wr_writeEnd_122 : xd m_Wr_writeEnd 122 (.iload_n 2) 1 123 := ⟨by decide +kernel, rfl⟩
theorem D_Wr_writeEnd_123 : xd m_Wr_writeEnd 123 (.iaload) 1 124 := ⟨by decide +kernel, rfl⟩
theorem D_Wr_writeEnd_124 : xd m_Wr_writeEnd 124 (.aload_n 0) 1 125 := ⟨by decide +kernel, rfl⟩
theorem D_Wr_writeEnd_125 : xd m_Wr_writeEnd 125 (.getfield 12) 3 128 := ⟨by decide +kernel, rfl⟩
theorem D_Wr_writeEnd_128 : xd m_Wr_writeEnd 128 (.invokevirtual 172) 3 131 := ⟨by decide +kernel, rfl⟩
theorem D_Wr_writeEnd_131 : xd m_Wr_writeEnd 131 (.iinc 2 (-1)) 3 134 := ⟨by decide +kernel, rfl⟩
theorem D_Wr_writeEnd_134 : xd m_Wr_writeEnd 134 (.goto (-33)) 3 137 := ⟨by decide +kernel, rfl⟩
theorem D_Wr_writeEnd_137 : xd m_Wr_writeEnd 137 (.aload_n 0) 1 138 := ⟨by decide +kernel, rfl⟩
theorem D_Wr_writeEnd_138 : xd m_Wr_writeEnd 138 (.getfield 12) 3 141 := ⟨by decide +kernel, rfl⟩
theorem D_Wr_writeEnd_141 : xd m_Wr_writeEnd 141 (.sipush 249) 3 144 := ⟨by decide +kernel, rfl⟩
theorem D_Wr_writeEnd_144 : xd m_Wr_writeEnd 144 (.invokevirtual 140) 3 147 := ⟨by decide +kernel, rfl⟩
theorem D_Wr_writeEnd_147 : xd m_Wr_writeEnd 147 (.aload_n 0) 1 148 := ⟨by decide +kernel, rfl⟩
theorem D_Wr_writeEnd_148 : xd m_Wr_writeEnd 148 (.getfield 12) 3 151 := ⟨by decide +kernel, rfl⟩
theorem D_Wr_writeEnd_151 : xd m_Wr_writeEnd 151 (.iload_n 1) 1 152 := ⟨by decide +kernel, rfl⟩
theorem D_Wr_writeEnd_152 : xd m_Wr_writeEnd 152 (.iconst 4) 1 153 := ⟨by decide +kernel, rfl⟩
theorem D_Wr_writeEnd_153 : xd m_Wr_writeEnd 153 (.invokevirtual 143) 3 156 := ⟨by decide +kernel, rfl⟩
theorem D_Wr_writeEnd_156 : xd m_Wr_writeEnd 156 (.aload_n 0) 1 157 := ⟨by decide +kernel, rfl⟩
theorem D_Wr_writeEnd_157 : xd m_Wr_writeEnd 157 (.getfield 12) 3 160 := ⟨by decide +kernel, rfl⟩
theorem D_Wr_writeEnd_160 : xd m_Wr_writeEnd 160 (.iconst 2) 1 161 := ⟨by decide +kernel, rfl⟩
theorem D_Wr_writeEnd_161 : xd m_Wr_writeEnd 161 (.invokevirtual 140) 3 164 := ⟨by decide +kernel, rfl⟩
theorem D_Wr_writeEnd_164 : xd m_Wr_writeEnd 164 (.iconst 0) 1 165 := ⟨by decide +kernel, rfl⟩
theorem D_Wr_writeEnd_165 : xd m_Wr_writeEnd 165 (.istore_n 2) 1 166 := ⟨by decide +kernel, rfl⟩
theorem D_Wr_writeEnd_166 : xd m_Wr_writeEnd 166 (.iload_n 2) 1 167 := ⟨by decide +kernel, rfl⟩
theorem D_Wr_writeEnd_167 : xd m_Wr_writeEnd 167 (.bipush 7) 2 169 := ⟨by decide +kernel, rfl⟩
theorem D_Wr_writeEnd_169 : xd m_Wr_writeEnd 169 (.if_icmp .ge 36) 3 172 := ⟨by decide +kernel, rfl⟩
theorem D_Wr_writeEnd_172 : xd m_Wr_writeEnd 172 (.iload_n 2) 1 173 := ⟨by decide +kernel, rfl⟩
theorem D_Wr_writeEnd_173 : xd m_Wr_writeEnd 173 (.iconst 4) 1 174 := ⟨by decide +kernel, rfl⟩
theorem D_Wr_writeEnd_174 : xd m_Wr_writeEnd 174 (.if_icmp .lt 15) 3 177 := ⟨by decide +kernel, rfl⟩
theorem D_Wr_writeEnd_177 : xd m_Wr_writeEnd 177 (.aload_n 0) 1 178 := ⟨by decide +kernel, rfl⟩
theorem D_Wr_writeEnd_178 : xd m_Wr_writeEnd 178 (.getfield 12) 3 181 := ⟨by decide +kernel, rfl⟩
theorem D_Wr_writeEnd_181 : xd m_Wr_writeEnd 181 (.invokevirtual 136) 3 184 := ⟨by decide +kernel, rfl⟩
theorem D_Wr_writeEnd_184 : xd m_Wr_writeEnd 184 (.iconst 4) 1 185 := ⟨by decide +kernel, rfl⟩
theorem D_Wr_writeEnd_185 : xd m_Wr_writeEnd 185 (.irem) 1 186 := ⟨by decide +kernel, rfl⟩
theorem D_Wr_writeEnd_186 : xd m_Wr_writeEnd 186 (.ifCond .eq 19) 3 189 := ⟨by decide +kernel, rfl⟩
theorem D_Wr_writeEnd_189 : xd m_Wr_writeEnd 189 (.aload_n 0) 1 190 := ⟨by decide +kernel, rfl⟩
theorem D_Wr_writeEnd_190 : xd m_Wr_writeEnd 190 (.getfield 12) 3 193 := ⟨by decide +kernel, rfl⟩
theorem D_Wr_writeEnd_193 : xd m_Wr_writeEnd 193 (.sipush 223) 3 196 := ⟨by decide +kernel, rfl⟩
theorem D_Wr_writeEnd_196 : xd m_Wr_writeEnd 196 (.invokevirtual 140) 3 199 := ⟨by decide +kernel, rfl⟩
theorem D_Wr_writeEnd_199 : xd m_Wr_writeEnd 199 (.iinc 2 1) 3 202 := ⟨by decide +kernel, rfl⟩
theorem D_Wr_writeEnd_202 : xd m_Wr_writeEnd 202 (.goto (-36)) 3 205 := ⟨by decide +kernel, rfl⟩
theorem D_Wr_writeEnd_205 : xd m_Wr_writeEnd 205 (.aload_n 0) 1 206 := ⟨by decide +kernel, rfl⟩
theorem D_Wr_writeEnd_206 : xd m_Wr_writeEnd 206 (.iconst 1) 1 207 := ⟨by decide +kernel, rfl⟩
theorem D_Wr_writeEnd_207 : xd m_Wr_writeEnd 207 (.putfield 50) 3 210 := ⟨by decide +kernel, rfl⟩
theorem D_Wr_writeEnd_210 : xd m_Wr_writeEnd 210 (.aload_n 0) 1 211 := ⟨by decide +kernel, rfl⟩
theorem D_Wr_writeEnd_211 : xd m_Wr_writeEnd 211 (.getfield 12) 3 214 := ⟨by decide +kernel, rfl⟩
theorem D_Wr_writeEnd_214 : xd m_Wr_writeEnd 214 (.invokevirtual 136) 3 217 := ⟨by decide +kernel, rfl⟩
theorem D_Wr_writeEnd_217 : xd m_Wr_writeEnd 217 (.ireturn) 1 218 := ⟨by decide +kernel, rfl⟩
end
section
def m_La_law : MethodName × ByteArray × Nat × Option FieldType × List (Nat × Nat × Nat × Nat) := (⟨"DviBytesLaw", "law", "([I)Z"⟩, code, 7, (some .boolean), [])
theorem D_Mo_init_0 : xd m_Mo_init 0 (.aload_n 0) 1 1 := ⟨by decide +kernel, rfl⟩
theorem D_Mo_init_1 : xd m_Mo_init 1 (.invokespecial 1) 3 4 := ⟨by decide +kernel, rfl⟩
theorem D_Mo_init_4 : xd m_Mo_init 4 (.aload_n 0) 1 5 := ⟨by decide +kernel, rfl⟩
theorem D_Mo_init_5 : xd m_Mo_init 5 (.sipush 256) 3 8 := ⟨by decide +kernel, rfl⟩
theorem D_Mo_init_8 : xd m_Mo_init 8 (.newarray .boolean) 2 10 := ⟨by decide +kernel, rfl⟩
theorem D_Mo_init_10 : xd m_Mo_init 10 (.putfield 7) 3 13 := ⟨by decide +kernel, rfl⟩
theorem D_Mo_init_13 : xd m_Mo_init 13 (.aload_n 0) 1 14 := ⟨by decide +kernel, rfl⟩
theorem D_Mo_init_14 : xd m_Mo_init 14 (.sipush 256) 3 17 := ⟨by decide +kernel, rfl⟩
theorem D_Mo_init_17 : xd m_Mo_init 17 (.newarray .int) 2 19 := ⟨by decide +kernel, rfl⟩
theorem D_Mo_init_19 : xd m_Mo_init 19 (.putfield 13) 3 22 := ⟨by decide +kernel, rfl⟩
theorem D_Mo_init_22 : xd m_Mo_init 22 (.aload_n 0) 1 23 := ⟨by decide +kernel, rfl⟩
theorem D_Mo_init_23 : xd m_Mo_init 23 (.sipush 256) 3 26 := ⟨by decide +kernel, rfl⟩
theorem D_Mo_init_26 : xd m_Mo_init 26 (.newarray .int) 2 28 := ⟨by decide +kernel, rfl⟩
theorem D_Mo_init_28 : xd m_Mo_init 28 (.putfield 17) 3 31 := ⟨by decide +kernel, rfl⟩
theorem D_Mo_init_31 : xd m_Mo_init 31 (.aload_n 0) 1 32 := ⟨by decide +kernel, rfl⟩
theorem D_Mo_init_32 : xd m_Mo_init 32 (.sipush 256) 3 35 := ⟨by decide +kernel, rfl⟩
theorem D_Mo_init_35 : xd m_Mo_init 35 (.newarray .int) 2 37 := ⟨by decide +kernel, rfl⟩
theorem D_Mo_init_37 : xd m_Mo_init 37 (.putfield 20) 3 40 := ⟨by decide +kernel, rfl⟩
theorem D_Mo_init_40 : xd m_Mo_init 40 (.aload_n 0) 1 41 := ⟨by decide +kernel, rfl⟩
theorem D_Mo_init_41 : xd m_Mo_init 41 (.sipush 256) 3 44 := ⟨by decide +kernel, rfl⟩
theorem D_Mo_init_44 : xd m_Mo_init 44 (.newarray .int) 2 46 := ⟨by decide +kernel, rfl⟩
theorem D_Mo_init_46 : xd m_Mo_init 46 (.putfield 23) 3 49 := ⟨by decide +kernel, rfl⟩
theorem D_Mo_init_49 : xd m_Mo_init 49 (.aload_n 0) 1 50 := ⟨by decide +kernel, rfl⟩
theorem D_Mo_init_50 : xd m_Mo_init 50 (.sipush 4096) 3 53 := ⟨by decide +kernel, rfl⟩
theorem D_Mo_init_53 : xd m_Mo_init 53 (.newarray .byte) 2 55 := ⟨by decide +kernel, rfl⟩
theorem D_Mo_init_55 : xd m_Mo_init 55 (.putfield 26) 3 58 := ⟨by decide +kernel, rfl⟩
theorem D_Mo_init_58 : xd m_Mo_init 58 (.aload_n 0) 1 59 := ⟨by decide +kernel, rfl⟩
theorem D_Mo_init_59 : xd m_Mo_init 59 (.ldc 30) 2 61 := ⟨by decide +kernel, rfl⟩
theorem D_Mo_init_61 : xd m_Mo_init 61 (.newarray .int) 2 63 := ⟨by decide +kernel, rfl⟩
theorem D_Mo_init_63 : xd m_Mo_init 63 (.putfield 31) 3 66 := ⟨by decide +kernel, rfl⟩
theorem D_Mo_init_66 : xd m_Mo_init 66 (.aload_n 0) 1 67 := ⟨by decide +kernel, rfl⟩
theorem D_Mo_init_67 : xd m_Mo_init 67 (.bipush 10) 2 69 := ⟨by decide +kernel, rfl⟩
theorem D_Mo_init_69 : xd m_Mo_init 69 (.newarray .int) 2 71 := ⟨by decide +kernel, rfl⟩
theorem D_Mo_init_71 : xd m_Mo_init 71 (.putfield 34) 3 74 := ⟨by decide +kernel, rfl⟩
theorem D_Mo_init_74 : xd m_Mo_init 74 (.aload_n 0) 1 75 := ⟨by decide +kernel, rfl⟩
theorem D_Mo_init_75 : xd m_Mo_init 75 (.ldc 37) 2 77 := ⟨by decide +kernel, rfl⟩
theorem D_Mo_init_77 : xd m_Mo_init 77 (.newarray .byte) 2 79 := ⟨by decide +kernel, rfl⟩
theorem D_Mo_init_79 : xd m_Mo_init 79 (.putfield 38) 3 82 := ⟨by decide +kernel, rfl⟩
theorem D_Mo_init_82 : xd m_Mo_init 82 (.aload_n 0) 1 83 := ⟨by decide +kernel, rfl⟩
theorem D_Mo_init_83 : xd m_Mo_init 83 (.iconst (-1)) 1 84 := ⟨by decide +kernel, rfl⟩
theorem D_Mo_init_84 : xd m_Mo_init 84 (.putfield 41) 3 87 := ⟨by decide +kernel, rfl⟩
theorem D_Mo_init_87 : xd m_Mo_init 87 (.aload_n 0) 1 88 := ⟨by decide +kernel, rfl⟩
theorem D_Mo_init_88 : xd m_Mo_init 88 (.sipush 256) 3 91 := ⟨by decide +kernel, rfl⟩
theorem D_Mo_init_91 : xd m_Mo_init 91 (.newarray .int) 2 93 := ⟨by decide +kernel, rfl⟩
theorem D_Mo_init_93 : xd m_Mo_init 93 (.putfield 45) 3 96 := ⟨by decide +kernel, rfl⟩
theorem D_Mo_init_96 : xd m_Mo_init 96 (.aload_n 0) 1 97 := ⟨by decide +kernel, rfl⟩
theorem D_Mo_init_97 : xd m_Mo_init 97 (.sipush 500) 3 100 := ⟨by decide +kernel, rfl⟩
theorem D_Mo_init_100 : xd m_Mo_init 100 (.newarray .int) 2 102 := ⟨by decide +kernel, rfl⟩
theorem D_Mo_init_102 : xd m_Mo_init 102 (.putfield 48) 3 105 := ⟨by decide +kernel, rfl⟩
theorem D_Mo_init_105 : xd m_Mo_init 105 (.aload_n 0) 1 106 := ⟨by decide +kernel, rfl⟩
theorem D_Mo_init_106 : xd m_Mo_init 106 (.sipush 500) 3 109 := ⟨by decide +kernel, rfl⟩
theorem D_Mo_init_109 : xd m_Mo_init 109 (.newarray .int) 2 111 := ⟨by decide +kernel, rfl⟩
theorem D_Mo_init_111 : xd m_Mo_init 111 (.putfield 51) 3 114 := ⟨by decide +kernel, rfl⟩
theorem D_Mo_init_114 : xd m_Mo_init 114 (.aload_n 0) 1 115 := ⟨by decide +kernel, rfl⟩
theorem D_Mo_init_115 : xd m_Mo_init 115 (.sipush 500) 3 118 := ⟨by decide +kernel, rfl⟩
theorem D_Mo_init_118 : xd m_Mo_init 118 (.newarray .int) 2 120 := ⟨by decide +kernel, rfl⟩
theorem D_Mo_init_120 : xd m_Mo_init 120 (.putfield 54) 3 123 := ⟨by decide +kernel, rfl⟩
theorem D_Mo_init_123 : xd m_Mo_init 123 (.aload_n 0) 1 124 := ⟨by decide +kernel, rfl⟩
theorem D_Mo_init_124 : xd m_Mo_init 124 (.sipush 500) 3 127 := ⟨by decide +kernel, rfl⟩
theorem D_Mo_init_127 : xd m_Mo_init 127 (.newarray .int) 2 129 := ⟨by decide +kernel, rfl⟩
theorem D_Mo_init_129 : xd m_Mo_init 129 (.putfield 57) 3 132 := ⟨by decide +kernel, rfl⟩
theorem D_Mo_init_132 : xd m_Mo_init 132 (.aload_n 0) 1 133 := ⟨by decide +kernel, rfl⟩
theorem D_Mo_init_133 : xd m_Mo_init 133 (.sipush 500) 3 136 := ⟨by decide +kernel, rfl⟩
theorem D_Mo_init_136 : xd m_Mo_init 136 (.newarray .int) 2 138 := ⟨by decide +kernel, rfl⟩
theorem D_Mo_init_138 : xd m_Mo_init 138 (.putfield 60) 3 141 := ⟨by decide +kernel, rfl⟩
theorem D_Mo_init_141 : xd m_Mo_init 141 (.aload_n 0) 1 142 := ⟨by decide +kernel, rfl⟩
theorem D_Mo_init_142 : xd m_Mo_init 142 (.sipush 500) 3 145 := ⟨by decide +kernel, rfl⟩
theorem D_Mo_init_145 : xd m_Mo_init 145 (.newarray .int) 2 147 := ⟨by decide +kernel, rfl⟩
theorem D_Mo_init_147 : xd m_Mo_init 147 (.putfield 63) 3 150 := ⟨by decide +kernel, rfl⟩
theorem D_Mo_init_150 : xd m_Mo_init 150 (.aload_n 0) 1 151 := ⟨by decide +kernel, rfl⟩
theorem D_Mo_init_151 : xd m_Mo_init 151 (.sipush 500) 3 154 := ⟨by decide +kernel, rfl⟩
theorem D_Mo_init_154 : xd m_Mo_init 154 (.newarray .int) 2 156 := ⟨by decide +kernel, rfl⟩
theorem D_Mo_init_156 : xd m_Mo_init 156 (.putfield 66) 3 159 := ⟨by decide +kernel, rfl⟩
theorem D_Mo_init_159 : xd m_Mo_init 159 (.aload_n 0) 1 160 := ⟨by decide +kernel, rfl⟩
theorem D_Mo_init_160 : xd m_Mo_init 160 (.sipush 500) 3 163 := ⟨by decide +kernel, rfl⟩
theorem D_Mo_init_163 : xd m_Mo_init 163 (.newarray .int) 2 165 := ⟨by decide +kernel, rfl⟩
theorem D_Mo_init_165 : xd m_Mo_init 165 (.putfield 69) 3 168 := ⟨by decide +kernel, rfl⟩
theorem D_Mo_init_168 : xd m_Mo_init 168 (.aload_n 0) 1 169 := ⟨by decide +kernel, rfl⟩
theorem D_Mo_init_169 : xd m_Mo_init 169 (.ldc 72) 2 171 := ⟨by decide +kernel, rfl⟩
theorem D_Mo_init_171 : xd m_Mo_init 171 (.newarray .byte) 2 173 := ⟨by decide +kernel, rfl⟩
theorem D_Mo_init_173 : xd m_Mo_init 173 (.putfield 73) 3 176 := ⟨by decide +kernel, rfl⟩
theorem D_Mo_init_176 : xd m_Mo_init 176 (.aload_n 0) 1 177 := ⟨by decide +kernel, rfl⟩
theorem D_Mo_init_177 : xd m_Mo_init 177 (.ldc 72) 2 179 := ⟨by decide +kernel, rfl⟩
theorem D_Mo_init_179 : xd m_Mo_init 179 (.newarray .byte) 2 181 := ⟨by decide +kernel, rfl⟩
theorem D_Mo_init_181 : xd m_Mo_init 181 (.putfield 76) 3 184 := ⟨by decide +kernel, rfl⟩
theorem D_Mo_init_184 : xd m_Mo_init 184 (.aload_n 0) 1 185 := ⟨by decide +kernel, rfl⟩
theorem D_Mo_init_185 : xd m_Mo_init 185 (.sipush 12000) 3 188 := ⟨by decide +kernel, rfl⟩
theorem D_Mo_init_188 : xd m_Mo_init 188 (.newarray .int) 2 190 := ⟨by decide +kernel, rfl⟩
theorem D_Mo_init_190 : xd m_Mo_init 190 (.putfield 79) 3 193 := ⟨by decide +kernel, rfl⟩
theorem D_Mo_init_193 : xd m_Mo_init 193 (.aload_n 0) 1 194 := ⟨by decide +kernel, rfl⟩
theorem D_Mo_init_194 : xd m_Mo_init 194 (.sipush 13000) 3 197 := ⟨by decide +kernel, rfl⟩
theorem D_Mo_init_197 : xd m_Mo_init 197 (.newarray .int) 2 199 := ⟨by decide +kernel, rfl⟩
theorem D_Mo_init_199 : xd m_Mo_init 199 (.putfield 82) 3 202 := ⟨by decide +kernel, rfl⟩
theorem D_Mo_init_202 : xd m_Mo_init 202 (.aload_n 0) 1 203 := ⟨by decide +kernel, rfl⟩
theorem D_Mo_init_203 : xd m_Mo_init 203 (.sipush 256) 3 206 := ⟨by decide +kernel, rfl⟩
theorem D_Mo_init_206 : xd m_Mo_init 206 (.newarray .int) 2 208 := ⟨by decide +kernel, rfl⟩
theorem D_Mo_init_208 : xd m_Mo_init 208 (.putfield 85) 3 211 := ⟨by decide +kernel, rfl⟩
theorem D_Mo_init_211 : xd m_Mo_init 211 (.aload_n 0) 1 212 := ⟨by decide +kernel, rfl⟩
theorem D_Mo_init_212 : xd m_Mo_init 212 (.sipush 256) 3 215 := ⟨by decide +kernel, rfl⟩
theorem D_Mo_init_215 : xd m_Mo_init 215 (.newarray .int) 2 217 := ⟨by decide +kernel, rfl⟩
theorem D_Mo_init_217 : xd m_Mo_init 217 (.putfield 88) 3 220 := ⟨by decide +kernel, rfl⟩
theorem D_Mo_init_220 : xd m_Mo_init 220 (.aload_n 0) 1 221 := ⟨by decide +kernel, rfl⟩
theorem D_Mo_init_221 : xd m_Mo_init 221 (.sipush 606) 3 224 := ⟨by decide +kernel, rfl⟩
theorem D_Mo_init_224 : xd m_Mo_init 224 (.newarray .int) 2 226 := ⟨by decide +kernel, rfl⟩
theorem D_Mo_init_226 : xd m_Mo_init 226 (.putfield 91) 3 229 := ⟨by decide +kernel, rfl⟩
theorem D_Mo_init_229 : xd m_Mo_init 229 (.aload_n 0) 1 230 := ⟨by decide +kernel, rfl⟩
theorem D_Mo_init_230 : xd m_Mo_init 230 (.bipush 6) 2 232 := ⟨by decide +kernel, rfl⟩
theorem D_Mo_init_232 : xd m_Mo_init 232 (.newarray .int) 2 234 := ⟨by decide +kernel, rfl⟩
theorem D_Mo_init_234 : xd m_Mo_init 234 (.putfield 94) 3 237 := ⟨by decide +kernel, rfl⟩
theorem D_Mo_init_237 : xd m_Mo_init 237 (.return_) 1 238 := ⟨by decide +kernel, rfl⟩
theorem D_Mo_thrown_0 : xd m_Mo_thrown 0 (.aload_n 0) 1 1 := ⟨by decide +kernel, rfl⟩
theorem D_Mo_thrown_1 : xd m_Mo_thrown 1 (.getfield 97) 3 4 := ⟨by decide +kernel, rfl⟩
theorem D_Mo_thrown_4 : xd m_Mo_thrown 4 (.ireturn) 1 5 := ⟨by decide +kernel, rfl⟩
theorem D_Mo_isByte_0 : xd m_Mo_isByte 0 (.iload_n 0) 1 1 := ⟨by decide +kernel, rfl⟩
theorem D_Mo_isByte_1 : xd m_Mo_isByte 1 (.ifCond .lt 14) 3 4 := ⟨by decide +kernel, rfl⟩
theorem D_Mo_isByte_4 : xd m_Mo_isByte 4 (.iload_n 0) 1 5 := ⟨by decide +kernel, rfl⟩
theorem D_Mo_isByte_5 : xd m_Mo_isByte 5 (.sipush 255) 3 8 := ⟨by decide +kernel, rfl⟩
theorem D_Mo_isByte_8 : xd m_Mo_isByte 8 (.if_icmp .gt 7) 3 11 := ⟨by decide +kernel, rfl⟩
theorem D_Mo_isByte_11 : xd m_Mo_isByte 11 (.iconst 1) 1 12 := ⟨by decide +kernel, rfl⟩
theorem D_Mo_isByte_12 : xd m_Mo_isByte 12 (.goto 4) 3 15 := ⟨by decide +kernel, rfl⟩
theorem D_Mo_isByte_15 : xd m_Mo_isByte 15 (.iconst 0) 1 16 := ⟨by decide +kernel, rfl⟩
theorem D_Mo_isByte_16 : xd m_Mo_isByte 16 (.ireturn) 1 17 := ⟨by decide +kernel, rfl⟩
theorem D_Mo_isTold_0 : xd m_Mo_isTold 0 (.iconst 0) 1 1 := ⟨by decide +kernel, rfl⟩
theorem D_Mo_isTold_1 : xd m_Mo_isTold 1 (.istore_n 2) 1 2 := ⟨by decide +kernel, rfl⟩
theorem D_Mo_isTold_2 : xd m_Mo_isTold 2 (.iconst 0) 1 3 := ⟨by decide +kernel, rfl⟩
theorem D_Mo_isTold_3 : xd m_Mo_isTold 3 (.istore_n 3) 1 4 := ⟨by decide +kernel, rfl⟩
theorem D_Mo_isTold_4 : xd m_Mo_isTold 4 (.iload_n 3) 1 5 := ⟨by decide +kernel, rfl⟩
theorem D_Mo_isTold_5 : xd m_Mo_isTold 5 (.aload_n 0) 1 6 := ⟨by decide +kernel, rfl⟩
theorem D_Mo_isTold_6 : xd m_Mo_isTold 6 (.getfield 100) 3 9 := ⟨by decide +kernel, rfl⟩
theorem D_Mo_isTold_9 : xd m_Mo_isTold 9 (.if_icmp .ge 29) 3 12 := ⟨by decide +kernel, rfl⟩
theorem D_Mo_isTold_12 : xd m_Mo_isTold 12 (.iload_n 2) 1 13 := ⟨by decide +kernel, rfl⟩
theorem D_Mo_isTold_13 : xd m_Mo_isTold 13 (.ifCond .ne 13) 3 16 := ⟨by decide +kernel, rfl⟩
theorem D_Mo_isTold_16 : xd m_Mo_isTold 16 (.aload_n 0) 1 17 := ⟨by decide +kernel, rfl⟩
theorem D_Mo_isTold_17 : xd m_Mo_isTold 17 (.getfield 45) 3 20 := ⟨by decide +kernel, rfl⟩
theorem D_Mo_isTold_20 : xd m_Mo_isTold 20 (.iload_n 3) 1 21 := ⟨by decide +kernel, rfl⟩
theorem D_Mo_isTold_21 : xd m_Mo_isTold 21 (.iaload) 1 22 := ⟨by decide +kernel, rfl⟩
theorem D_Mo_isTold_22 : xd m_Mo_isTold 22 (.iload_n 1) 1 23 := ⟨by decide +kernel, rfl⟩
theorem D_Mo_isTold_23 : xd m_Mo_isTold 23 (.if_icmp .ne 7) 3 26 := ⟨by decide +kernel, rfl⟩
theorem D_Mo_isTold_26 : xd m_Mo_isTold 26 (.iconst 1) 1 27 := ⟨by decide +kernel, rfl⟩
theorem D_Mo_isTold_27 : xd m_Mo_isTold 27 (.goto 4) 3 30 := ⟨by decide +kernel, rfl⟩
theorem D_Mo_isTold_30 : xd m_Mo_isTold 30 (.iconst 0) 1 31 := ⟨by decide +kernel, rfl⟩
theorem D_Mo_isTold_31 : xd m_Mo_isTold 31 (.istore_n 2) 1 32 := ⟨by decide +kernel, rfl⟩
theorem D_Mo_isTold_32 : xd m_Mo_isTold 32 (.iinc 3 1) 3 35 := ⟨by decide +kernel, rfl⟩
theorem D_Mo_isTold_35 : xd m_Mo_isTold 35 (.goto (-31)) 3 38 := ⟨by decide +kernel, rfl⟩
theorem D_Mo_isTold_38 : xd m_Mo_isTold 38 (.iload_n 2) 1 39 := ⟨by decide +kernel, rfl⟩
theorem D_Mo_isTold_39 : xd m_Mo_isTold 39 (.ireturn) 1 40 := ⟨by decide +kernel, rfl⟩
theorem D_Mo_letter_0 : xd m_Mo_letter 0 (.iload 4) 2 2 := ⟨by decide +kernel, rfl⟩
theorem D_Mo_letter_2 : xd m_Mo_letter 2 (.bipush 8) 2 4 := ⟨by decide +kernel, rfl⟩
theorem D_Mo_letter_4 : xd m_Mo_letter 4 (.if_icmp .ge 13) 3 7 := ⟨by decide +kernel, rfl⟩
theorem D_Mo_letter_7 : xd m_Mo_letter 7 (.lload_n 0) 1 8 := ⟨by decide +kernel, rfl⟩
theorem D_Mo_letter_8 : xd m_Mo_letter 8 (.bipush 8) 2 10 := ⟨by decide +kernel, rfl⟩
theorem D_Mo_letter_10 : xd m_Mo_letter 10 (.iload 4) 2 12 := ⟨by decide +kernel, rfl⟩
theorem D_Mo_letter_12 : xd m_Mo_letter 12 (.imul) 1 13 := ⟨by decide +kernel, rfl⟩
theorem D_Mo_letter_13 : xd m_Mo_letter 13 (.lshr) 1 14 := ⟨by decide +kernel, rfl⟩
theorem D_Mo_letter_14 : xd m_Mo_letter 14 (.goto 13) 3 17 := ⟨by decide +kernel, rfl⟩
theorem D_Mo_letter_17 : xd m_Mo_letter 17 (.lload_n 2) 1 18 := ⟨by decide +kernel, rfl⟩
theorem D_Mo_letter_18 : xd m_Mo_letter 18 (.bipush 8) 2 20 := ⟨by decide +kernel, rfl⟩
theorem D_Mo_letter_20 : xd m_Mo_letter 20 (.iload 4) 2 22 := ⟨by decide +kernel, rfl⟩
theorem D_Mo_letter_22 : xd m_Mo_letter 22 (.bipush 8) 2 24 := ⟨by decide +kernel, rfl⟩
theorem D_Mo_letter_24 : xd m_Mo_letter 24 (.isub) 1 25 := ⟨by decide +kernel, rfl⟩
theorem D_Mo_letter_25 : xd m_Mo_letter 25 (.imul) 1 26 := ⟨by decide +kernel, rfl⟩
theorem D_Mo_letter_26 : xd m_Mo_letter 26 (.lshr) 1 27 := ⟨by decide +kernel, rfl⟩
theorem D_Mo_letter_27 : xd m_Mo_letter 27 (.ldc2_w 103) 3 30 := ⟨by decide +kernel, rfl⟩
theorem D_Mo_letter_30 : xd m_Mo_letter 30 (.land) 1 31 := ⟨by decide +kernel, rfl⟩
theorem D_Mo_letter_31 : xd m_Mo_letter 31 (.l2i) 1 32 := ⟨by decide +kernel, rfl⟩
theorem D_Mo_letter_32 : xd m_Mo_letter 32 (.ireturn) 1 33 := ⟨by decide +kernel, rfl⟩
theorem D_Mo_font_0 : xd m_Mo_font 0 (.iload_n 1) 1 1 := ⟨by decide +kernel, rfl⟩
theorem D_Mo_font_1 : xd m_Mo_font 1 (.invokestatic 105) 3 4 := ⟨by decide +kernel, rfl⟩
theorem D_Mo_font_4 : xd m_Mo_font 4 (.ifCond .eq 20) 3 7 := ⟨by decide +kernel, rfl⟩
theorem D_Mo_font_7 : xd m_Mo_font 7 (.iload 9) 2 9 := ⟨by decide +kernel, rfl⟩
theorem D_Mo_font_9 : xd m_Mo_font 9 (.iconst 1) 1 10 := ⟨by decide +kernel, rfl⟩
theorem D_Mo_font_10 : xd m_Mo_font 10 (.if_icmp .lt 14) 3 13 := ⟨by decide +kernel, rfl⟩
theorem D_Mo_font_13 : xd m_Mo_font 13 (.iload 9) 2 15 := ⟨by decide +kernel, rfl⟩
theorem D_Mo_font_15 : xd m_Mo_font 15 (.bipush 16) 2 17 := ⟨by decide +kernel, rfl⟩
theorem D_Mo_font_17 : xd m_Mo_font 17 (.if_icmp .gt 7) 3 20 := ⟨by decide +kernel, rfl⟩
theorem D_Mo_font_20 : xd m_Mo_font 20 (.iconst 1) 1 21 := ⟨by decide +kernel, rfl⟩
theorem D_Mo_font_21 : xd m_Mo_font 21 (.goto 4) 3 24 := ⟨by decide +kernel, rfl⟩
theorem D_Mo_font_24 : xd m_Mo_font 24 (.iconst 0) 1 25 := ⟨by decide +kernel, rfl⟩
theorem D_Mo_font_25 : xd m_Mo_font 25 (.istore 10) 2 27 := ⟨by decide +kernel, rfl⟩
theorem D_Mo_font_27 : xd m_Mo_font 27 (.iconst 0) 1 28 := ⟨by decide +kernel, rfl⟩
theorem D_Mo_font_28 : xd m_Mo_font 28 (.istore 11) 2 30 := ⟨by decide +kernel, rfl⟩
theorem D_Mo_font_30 : xd m_Mo_font 30 (.iload 11) 2 32 := ⟨by decide +kernel, rfl⟩
theorem D_Mo_font_32 : xd m_Mo_font 32 (.iload 9) 2 34 := ⟨by decide +kernel, rfl⟩
theorem D_Mo_font_34 : xd m_Mo_font 34 (.if_icmp .ge 49) 3 37 := ⟨by decide +kernel, rfl⟩
theorem D_Mo_font_37 : xd m_Mo_font 37 (.iload 10) 2 39 := ⟨by decide +kernel, rfl⟩
theorem D_Mo_font_39 : xd m_Mo_font 39 (.ifCond .eq 44) 3 42 := ⟨by decide +kernel, rfl⟩
theorem D_Mo_font_42 : xd m_Mo_font 42 (.lload 5) 2 44 := ⟨by decide +kernel, rfl⟩
theorem D_Mo_font_44 : xd m_Mo_font 44 (.lload 7) 2 46 := ⟨by decide +kernel, rfl⟩
theorem D_Mo_font_46 : xd m_Mo_font 46 (.iload 11) 2 48 := ⟨by decide +kernel, rfl⟩
theorem D_Mo_font_48 : xd m_Mo_font 48 (.invokestatic 109) 3 51 := ⟨by decide +kernel, rfl⟩
theorem D_Mo_font_51 : xd m_Mo_font 51 (.bipush 33) 2 53 := ⟨by decide +kernel, rfl⟩
theorem D_Mo_font_53 : xd m_Mo_font 53 (.if_icmp .lt 21) 3 56 := ⟨by decide +kernel, rfl⟩
theorem D_Mo_font_56 : xd m_Mo_font 56 (.lload 5) 2 58 := ⟨by decide +kernel, rfl⟩
theorem D_Mo_font_58 : xd m_Mo_font 58 (.lload 7) 2 60 := ⟨by decide +kernel, rfl⟩
theorem D_Mo_font_60 : xd m_Mo_font 60 (.iload 11) 2 62 := ⟨by decide +kernel, rfl⟩
theorem D_Mo_font_62 : xd m_Mo_font 62 (.invokestatic 109) 3 65 := ⟨by decide +kernel, rfl⟩
theorem D_Mo_font_65 : xd m_Mo_font 65 (.bipush 126) 2 67 := ⟨by decide +kernel, rfl⟩
theorem D_Mo_font_67 : xd m_Mo_font 67 (.if_icmp .gt 7) 3 70 := ⟨by decide +kernel, rfl⟩
theorem D_Mo_font_70 : xd m_Mo_font 70 (.iconst 1) 1 71 := ⟨by decide +kernel, rfl⟩
theorem D_Mo_font_71 : xd m_Mo_font 71 (.goto 4) 3 74 := ⟨by decide +kernel, rfl⟩
theorem D_Mo_font_74 : xd m_Mo_font 74 (.iconst 0) 1 75 := ⟨by decide +kernel, rfl⟩
theorem D_Mo_font_75 : xd m_Mo_font 75 (.istore 10) 2 77 := ⟨by decide +kernel, rfl⟩
theorem D_Mo_font_77 : xd m_Mo_font 77 (.iinc 11 1) 3 80 := ⟨by decide +kernel, rfl⟩
theorem D_Mo_font_80 : xd m_Mo_font 80 (.goto (-50)) 3 83 := ⟨by decide +kernel, rfl⟩
theorem D_Mo_font_83 : xd m_Mo_font 83 (.aload_n 0) 1 84 := ⟨by decide +kernel, rfl⟩
theorem D_Mo_font_84 : xd m_Mo_font 84 (.iload 10) 2 86 := ⟨by decide +kernel, rfl⟩
theorem D_Mo_font_86 : xd m_Mo_font 86 (.ifCond .ne 7) 3 89 := ⟨by decide +kernel, rfl⟩
theorem D_Mo_font_89 : xd m_Mo_font 89 (.iconst 1) 1 90 := ⟨by decide +kernel, rfl⟩
theorem D_Mo_font_90 : xd m_Mo_font 90 (.goto 16) 3 93 := ⟨by decide +kernel, rfl⟩
theorem D_Mo_font_93 : xd m_Mo_font 93 (.aload_n 0) 1 94 := ⟨by decide +kernel, rfl⟩
theorem D_Mo_font_94 : xd m_Mo_font 94 (.iload_n 1) 1 95 := ⟨by decide +kernel, rfl⟩
theorem D_Mo_font_95 : xd m_Mo_font 95 (.invokevirtual 113) 3 98 := ⟨by decide +kernel, rfl⟩
theorem D_Mo_font_98 : xd m_Mo_font 98 (.ifCond .eq 7) 3 101 := ⟨by decide +kernel, rfl⟩
theorem D_Mo_font_101 : xd m_Mo_font 101 (.iconst 2) 1 102 := ⟨by decide +kernel, rfl⟩
theorem D_Mo_font_102 : xd m_Mo_font 102 (.goto 4) 3 105 := ⟨by decide +kernel, rfl⟩
theorem D_Mo_font_105 : xd m_Mo_font 105 (.iconst 0) 1 106 := ⟨by decide +kernel, rfl⟩
theorem D_Mo_font_106 : xd m_Mo_font 106 (.putfield 97) 3 109 := ⟨by decide +kernel, rfl⟩
theorem D_Mo_font_109 : xd m_Mo_font 109 (.aload_n 0) 1 110 := ⟨by decide +kernel, rfl⟩
theorem D_Mo_font_110 : xd m_Mo_font 110 (.getfield 97) 3 113 := ⟨by decide +kernel, rfl⟩
theorem D_Mo_font_113 : xd m_Mo_font 113 (.ifCond .le 4) 3 116 := ⟨by decide +kernel, rfl⟩
theorem D_Mo_font_116 : xd m_Mo_font 116 (.return_) 1 117 := ⟨by decide +kernel, rfl⟩
theorem D_Mo_font_117 : xd m_Mo_font 117 (.aload_n 0) 1 118 := ⟨by decide +kernel, rfl⟩
theorem D_Mo_font_118 : xd m_Mo_font 118 (.getfield 7) 3 121 := ⟨by decide +kernel, rfl⟩
theorem D_Mo_font_121 : xd m_Mo_font 121 (.iload_n 1) 1 122 := ⟨by decide +kernel, rfl⟩
theorem D_Mo_font_122 : xd m_Mo_font 122 (.iconst 1) 1 123 := ⟨by decide +kernel, rfl⟩
theorem D_Mo_font_123 : xd m_Mo_font 123 (.bastore) 1 124 := ⟨by decide +kernel, rfl⟩
theorem D_Mo_font_124 : xd m_Mo_font 124 (.aload_n 0) 1 125 := ⟨by decide +kernel, rfl⟩
theorem D_Mo_font_125 : xd m_Mo_font 125 (.getfield 13) 3 128 := ⟨by decide +kernel, rfl⟩
theorem D_Mo_font_128 : xd m_Mo_font 128 (.iload_n 1) 1 129 := ⟨by decide +kernel, rfl⟩
theorem D_Mo_font_129 : xd m_Mo_font 129 (.iload_n 2) 1 130 := ⟨by decide +kernel, rfl⟩
theorem D_Mo_font_130 : xd m_Mo_font 130 (.iastore) 1 131 := ⟨by decide +kernel, rfl⟩
theorem D_Mo_font_131 : xd m_Mo_font 131 (.aload_n 0) 1 132 := ⟨by decide +kernel, rfl⟩
theorem D_Mo_font_132 : xd m_Mo_font 132 (.getfield 17) 3 135 := ⟨by decide +kernel, rfl⟩
theorem D_Mo_font_135 : xd m_Mo_font 135 (.iload_n 1) 1 136 := ⟨by decide +kernel, rfl⟩
theorem D_Mo_font_136 : xd m_Mo_font 136 (.iload_n 3) 1 137 := ⟨by decide +kernel, rfl⟩
theorem D_Mo_font_137 : xd m_Mo_font 137 (.iastore) 1 138 := ⟨by decide +kernel, rfl⟩
theorem D_Mo_font_138 : xd m_Mo_font 138 (.aload_n 0) 1 139 := ⟨by decide +kernel, rfl⟩
theorem D_Mo_font_139 : xd m_Mo_font 139 (.getfield 20) 3 142 := ⟨by decide +kernel, rfl⟩
theorem D_Mo_font_142 : xd m_Mo_font 142 (.iload_n 1) 1 143 := ⟨by decide +kernel, rfl⟩
theorem D_Mo_font_143 : xd m_Mo_font 143 (.iload 4) 2 145 := ⟨by decide +kernel, rfl⟩
theorem D_Mo_font_145 : xd m_Mo_font 145 (.iastore) 1 146 := ⟨by decide +kernel, rfl⟩
theorem D_Mo_font_146 : xd m_Mo_font 146 (.aload_n 0) 1 147 := ⟨by decide +kernel, rfl⟩
theorem D_Mo_font_147 : xd m_Mo_font 147 (.getfield 23) 3 150 := ⟨by decide +kernel, rfl⟩
theorem D_Mo_font_150 : xd m_Mo_font 150 (.iload_n 1) 1 151 := ⟨by decide +kernel, rfl⟩
theorem D_Mo_font_151 : xd m_Mo_font 151 (.iload 9) 2 153 := ⟨by decide +kernel, rfl⟩
theorem D_Mo_font_153 : xd m_Mo_font 153 (.iastore) 1 154 := ⟨by decide +kernel, rfl⟩
theorem D_Mo_font_154 : xd m_Mo_font 154 (.iconst 0) 1 155 := ⟨by decide +kernel, rfl⟩
theorem D_Mo_font_155 : xd m_Mo_font 155 (.istore 11) 2 157 := ⟨by decide +kernel, rfl⟩
theorem D_Mo_font_157 : xd m_Mo_font 157 (.iload 11) 2 159 := ⟨by decide +kernel, rfl⟩
theorem D_Mo_font_159 : xd m_Mo_font 159 (.iload 9) 2 161 := ⟨by decide +kernel, rfl⟩
theorem D_Mo_font_161 : xd m_Mo_font 161 (.if_icmp .ge 31) 3 164 := ⟨by decide +kernel, rfl⟩
theorem D_Mo_font_164 : xd m_Mo_font 164 (.aload_n 0) 1 165 := ⟨by decide +kernel, rfl⟩
theorem D_Mo_font_165 : xd m_Mo_font 165 (.getfield 26) 3 168 := ⟨by decide +kernel, rfl⟩
theorem D_Mo_font_168 : xd m_Mo_font 168 (.bipush 16) 2 170 := ⟨by decide +kernel, rfl⟩
theorem D_Mo_font_170 : xd m_Mo_font 170 (.iload_n 1) 1 171 := ⟨by decide +kernel, rfl⟩
theorem D_Mo_font_171 : xd m_Mo_font 171 (.imul) 1 172 := ⟨by decide +kernel, rfl⟩
theorem D_Mo_font_172 : xd m_Mo_font 172 (.iload 11) 2 174 := ⟨by decide +kernel, rfl⟩
theorem D_Mo_font_174 : xd m_Mo_font 174 (.iadd) 1 175 := ⟨by decide +kernel, rfl⟩
theorem D_Mo_font_175 : xd m_Mo_font 175 (.lload 5) 2 177 := ⟨by decide +kernel, rfl⟩
theorem D_Mo_font_177 : xd m_Mo_font 177 (.lload 7) 2 179 := ⟨by decide +kernel, rfl⟩
theorem D_Mo_font_179 : xd m_Mo_font 179 (.iload 11) 2 181 := ⟨by decide +kernel, rfl⟩
theorem D_Mo_font_181 : xd m_Mo_font 181 (.invokestatic 109) 3 184 := ⟨by decide +kernel, rfl⟩
theorem D_Mo_font_184 : xd m_Mo_font 184 (.i2b) 1 185 := ⟨by decide +kernel, rfl⟩
theorem D_Mo_font_185 : xd m_Mo_font 185 (.bastore) 1 186 := ⟨by decide +kernel, rfl⟩
theorem D_Mo_font_186 : xd m_Mo_font 186 (.iinc 11 1) 3 189 := ⟨by decide +kernel, rfl⟩
theorem D_Mo_font_189 : xd m_Mo_font 189 (.goto (-32)) 3 192 := ⟨by decide +kernel, rfl⟩
theorem D_Mo_font_192 : xd m_Mo_font 192 (.return_) 1 193 := ⟨by decide +kernel, rfl⟩
theorem D_Mo_width_0 : xd m_Mo_width 0 (.aload_n 0) 1 1 := ⟨by decide +kernel, rfl⟩
theorem D_Mo_width_1 : xd m_Mo_width 1 (.iload_n 1) 1 2 := ⟨by decide +kernel, rfl⟩
theorem D_Mo_width_2 : xd m_Mo_width 2 (.invokestatic 105) 3 5 := ⟨by decide +kernel, rfl⟩
theorem D_Mo_width_5 : xd m_Mo_width 5 (.ifCond .eq 14) 3 8 := ⟨by decide +kernel, rfl⟩
theorem D_Mo_width_8 : xd m_Mo_width 8 (.iload_n 2) 1 9 := ⟨by decide +kernel, rfl⟩
theorem D_Mo_width_9 : xd m_Mo_width 9 (.invokestatic 105) 3 12 := ⟨by decide +kernel, rfl⟩
theorem D_Mo_width_12 : xd m_Mo_width 12 (.ifCond .eq 7) 3 15 := ⟨by decide +kernel, rfl⟩
theorem D_Mo_width_15 : xd m_Mo_width 15 (.iconst 0) 1 16 := ⟨by decide +kernel, rfl⟩
theorem D_Mo_width_16 : xd m_Mo_width 16 (.goto 4) 3 19 := ⟨by decide +kernel, rfl⟩
theorem D_Mo_width_19 : xd m_Mo_width 19 (.iconst 1) 1 20 := ⟨by decide +kernel, rfl⟩
theorem D_Mo_width_20 : xd m_Mo_width 20 (.putfield 97) 3 23 := ⟨by decide +kernel, rfl⟩
theorem D_Mo_width_23 : xd m_Mo_width 23 (.aload_n 0) 1 24 := ⟨by decide +kernel, rfl⟩
theorem D_Mo_width_24 : xd m_Mo_width 24 (.getfield 97) 3 27 := ⟨by decide +kernel, rfl⟩
theorem D_Mo_width_27 : xd m_Mo_width 27 (.ifCond .ne 16) 3 30 := ⟨by decide +kernel, rfl⟩
theorem D_Mo_width_30 : xd m_Mo_width 30 (.aload_n 0) 1 31 := ⟨by decide +kernel, rfl⟩
theorem D_Mo_width_31 : xd m_Mo_width 31 (.getfield 31) 3 34 := ⟨by decide +kernel, rfl⟩
theorem D_Mo_width_34 : xd m_Mo_width 34 (.sipush 256) 3 37 := ⟨by decide +kernel, rfl⟩
theorem D_Mo_width_37 : xd m_Mo_width 37 (.iload_n 1) 1 38 := ⟨by decide +kernel, rfl⟩
theorem D_Mo_width_38 : xd m_Mo_width 38 (.imul) 1 39 := ⟨by decide +kernel, rfl⟩
theorem D_Mo_width_39 : xd m_Mo_width 39 (.iload_n 2) 1 40 := ⟨by decide +kernel, rfl⟩
theorem D_Mo_width_40 : xd m_Mo_width 40 (.iadd) 1 41 := ⟨by decide +kernel, rfl⟩
theorem D_Mo_width_41 : xd m_Mo_width 41 (.iload_n 3) 1 42 := ⟨by decide +kernel, rfl⟩
theorem D_Mo_width_42 : xd m_Mo_width 42 (.iastore) 1 43 := ⟨by decide +kernel, rfl⟩
theorem D_Mo_width_43 : xd m_Mo_width 43 (.return_) 1 44 := ⟨by decide +kernel, rfl⟩
theorem D_Mo_count_0 : xd m_Mo_count 0 (.aload_n 0) 1 1 := ⟨by decide +kernel, rfl⟩
theorem D_Mo_count_1 : xd m_Mo_count 1 (.iload_n 1) 1 2 := ⟨by decide +kernel, rfl⟩
theorem D_Mo_count_2 : xd m_Mo_count 2 (.ifCond .lt 9) 3 5 := ⟨by decide +kernel, rfl⟩
theorem D_Mo_count_5 : xd m_Mo_count 5 (.iload_n 1) 1 6 := ⟨by decide +kernel, rfl⟩
theorem D_Mo_count_6 : xd m_Mo_count 6 (.bipush 9) 2 8 := ⟨by decide +kernel, rfl⟩
theorem D_Mo_count_8 : xd m_Mo_count 8 (.if_icmp .le 7) 3 11 := ⟨by decide +kernel, rfl⟩
theorem D_Mo_count_11 : xd m_Mo_count 11 (.iconst 1) 1 12 := ⟨by decide +kernel, rfl⟩
theorem D_Mo_count_12 : xd m_Mo_count 12 (.goto 4) 3 15 := ⟨by decide +kernel, rfl⟩
theorem D_Mo_count_15 : xd m_Mo_count 15 (.iconst 0) 1 16 := ⟨by decide +kernel, rfl⟩
theorem D_Mo_count_16 : xd m_Mo_count 16 (.putfield 97) 3 19 := ⟨by decide +kernel, rfl⟩
theorem D_Mo_count_19 : xd m_Mo_count 19 (.aload_n 0) 1 20 := ⟨by decide +kernel, rfl⟩
theorem D_Mo_count_20 : xd m_Mo_count 20 (.getfield 97) 3 23 := ⟨by decide +kernel, rfl⟩
theorem D_Mo_count_23 : xd m_Mo_count 23 (.ifCond .ne 10) 3 26 := ⟨by decide +kernel, rfl⟩
theorem D_Mo_count_26 : xd m_Mo_count 26 (.aload_n 0) 1 27 := ⟨by decide +kernel, rfl⟩
theorem D_Mo_count_27 : xd m_Mo_count 27 (.getfield 34) 3 30 := ⟨by decide +kernel, rfl⟩
theorem D_Mo_count_30 : xd m_Mo_count 30 (.iload_n 1) 1 31 := ⟨by decide +kernel, rfl⟩
theorem D_Mo_count_31 : xd m_Mo_count 31 (.iload_n 2) 1 32 := ⟨by decide +kernel, rfl⟩
theorem D_Mo_count_32 : xd m_Mo_count 32 (.iastore) 1 33 := ⟨by decide +kernel, rfl⟩
theorem D_Mo_count_33 : xd m_Mo_count 33 (.return_) 1 34 := ⟨by decide +kernel, rfl⟩
theorem D_Mo_begin_0 : xd m_Mo_begin 0 (.aload_n 0) 1 1 := ⟨by decide +kernel, rfl⟩
theorem D_Mo_begin_1 : xd m_Mo_begin 1 (.iload_n 1) 1 2 := ⟨by decide +kernel, rfl⟩
theorem D_Mo_begin_2 : xd m_Mo_begin 2 (.invokestatic 105) 3 5 := ⟨by decide +kernel, rfl⟩
theorem D_Mo_begin_5 : xd m_Mo_begin 5 (.ifCond .eq 14) 3 8 := ⟨by decide +kernel, rfl⟩
theorem D_Mo_begin_8 : xd m_Mo_begin 8 (.iload_n 2) 1 9 := ⟨by decide +kernel, rfl⟩
theorem D_Mo_begin_9 : xd m_Mo_begin 9 (.invokestatic 105) 3 12 := ⟨by decide +kernel, rfl⟩
theorem D_Mo_begin_12 : xd m_Mo_begin 12 (.ifCond .eq 7) 3 15 := ⟨by decide +kernel, rfl⟩
theorem D_Mo_begin_15 : xd m_Mo_begin 15 (.iconst 0) 1 16 := ⟨by decide +kernel, rfl⟩
theorem D_Mo_begin_16 : xd m_Mo_begin 16 (.goto 4) 3 19 := ⟨by decide +kernel, rfl⟩
theorem D_Mo_begin_19 : xd m_Mo_begin 19 (.iconst 1) 1 20 := ⟨by decide +kernel, rfl⟩
theorem D_Mo_begin_20 : xd m_Mo_begin 20 (.putfield 97) 3 23 := ⟨by decide +kernel, rfl⟩
theorem D_Mo_begin_23 : xd m_Mo_begin 23 (.aload_n 0) 1 24 := ⟨by decide +kernel, rfl⟩
theorem D_Mo_begin_24 : xd m_Mo_begin 24 (.getfield 97) 3 27 := ⟨by decide +kernel, rfl⟩
theorem D_Mo_begin_27 : xd m_Mo_begin 27 (.ifCond .le 4) 3 30 := ⟨by decide +kernel, rfl⟩
theorem D_Mo_begin_30 : xd m_Mo_begin 30 (.return_) 1 31 := ⟨by decide +kernel, rfl⟩
theorem D_Mo_begin_31 : xd m_Mo_begin 31 (.aload_n 0) 1 32 := ⟨by decide +kernel, rfl⟩
theorem D_Mo_begin_32 : xd m_Mo_begin 32 (.iconst 0) 1 33 := ⟨by decide +kernel, rfl⟩
theorem D_Mo_begin_33 : xd m_Mo_begin 33 (.putfield 116) 3 36 := ⟨by decide +kernel, rfl⟩
theorem D_Mo_begin_36 : xd m_Mo_begin 36 (.aload_n 0) 1 37 := ⟨by decide +kernel, rfl⟩
theorem D_Mo_begin_37 : xd m_Mo_begin 37 (.iconst 0) 1 38 := ⟨by decide +kernel, rfl⟩
theorem D_Mo_begin_38 : xd m_Mo_begin 38 (.putfield 119) 3 41 := ⟨by decide +kernel, rfl⟩
theorem D_Mo_begin_41 : xd m_Mo_begin 41 (.aload_n 0) 1 42 := ⟨by decide +kernel, rfl⟩
theorem D_Mo_begin_42 : xd m_Mo_begin 42 (.iload_n 2) 1 43 := ⟨by decide +kernel, rfl⟩
theorem D_Mo_begin_43 : xd m_Mo_begin 43 (.putfield 122) 3 46 := ⟨by decide +kernel, rfl⟩
theorem D_Mo_begin_46 : xd m_Mo_begin 46 (.aload_n 0) 1 47 := ⟨by decide +kernel, rfl⟩
theorem D_Mo_begin_47 : xd m_Mo_begin 47 (.iload_n 1) 1 48 := ⟨by decide +kernel, rfl⟩
theorem D_Mo_begin_48 : xd m_Mo_begin 48 (.putfield 125) 3 51 := ⟨by decide +kernel, rfl⟩
theorem D_Mo_begin_51 : xd m_Mo_begin 51 (.aload_n 0) 1 52 := ⟨by decide +kernel, rfl⟩
theorem D_Mo_begin_52 : xd m_Mo_begin 52 (.iconst 0) 1 53 := ⟨by decide +kernel, rfl⟩
theorem D_Mo_begin_53 : xd m_Mo_begin 53 (.putfield 128) 3 56 := ⟨by decide +kernel, rfl⟩
theorem D_Mo_begin_56 : xd m_Mo_begin 56 (.aload_n 0) 1 57 := ⟨by decide +kernel, rfl⟩
theorem D_Mo_begin_57 : xd m_Mo_begin 57 (.iconst 0) 1 58 := ⟨by decide +kernel, rfl⟩
theorem D_Mo_begin_58 : xd m_Mo_begin 58 (.putfield 132) 3 61 := ⟨by decide +kernel, rfl⟩
theorem D_Mo_begin_61 : xd m_Mo_begin 61 (.aload_n 0) 1 62 := ⟨by decide +kernel, rfl⟩
theorem D_Mo_begin_62 : xd m_Mo_begin 62 (.iconst (-1)) 1 63 := ⟨by decide +kernel, rfl⟩
theorem D_Mo_begin_63 : xd m_Mo_begin 63 (.putfield 41) 3 66 := ⟨by decide +kernel, rfl⟩
theorem D_Mo_begin_66 : xd m_Mo_begin 66 (.aload_n 0) 1 67 := ⟨by decide +kernel, rfl⟩
theorem D_Mo_begin_67 : xd m_Mo_begin 67 (.iconst 0) 1 68 := ⟨by decide +kernel, rfl⟩
theorem D_Mo_begin_68 : xd m_Mo_begin 68 (.putfield 135) 3 71 := ⟨by decide +kernel, rfl⟩
theorem D_Mo_begin_71 : xd m_Mo_begin 71 (.aload_n 0) 1 72 := ⟨by decide +kernel, rfl⟩
theorem D_Mo_begin_72 : xd m_Mo_begin 72 (.iconst 0) 1 73 := ⟨by decide +kernel, rfl⟩
theorem D_Mo_begin_73 : xd m_Mo_begin 73 (.putfield 138) 3 76 := ⟨by decide +kernel, rfl⟩
theorem D_Mo_begin_76 : xd m_Mo_begin 76 (.aload_n 0) 1 77 := ⟨by decide +kernel, rfl⟩
theorem D_Mo_begin_77 : xd m_Mo_begin 77 (.iconst 0) 1 78 := ⟨by decide +kernel, rfl⟩
theorem D_Mo_begin_78 : xd m_Mo_begin 78 (.putfield 100) 3 81 := ⟨by decide +kernel, rfl⟩
theorem D_Mo_begin_81 : xd m_Mo_begin 81 (.return_) 1 82 := ⟨by decide +kernel, rfl⟩
theorem D_Mo_isPlace_0 : xd m_Mo_isPlace 0 (.iload_n 0) 1 1 := ⟨by decide +kernel, rfl⟩
theorem D_Mo_isPlace_1 : xd m_Mo_isPlace 1 (.ldc 141) 2 3 := ⟨by decide +kernel, rfl⟩
theorem D_Mo_isPlace_3 : xd m_Mo_isPlace 3 (.if_icmp .lt 13) 3 6 := ⟨by decide +kernel, rfl⟩
theorem D_Mo_isPlace_6 : xd m_Mo_isPlace 6 (.iload_n 0) 1 7 := ⟨by decide +kernel, rfl⟩
theorem D_Mo_isPlace_7 : xd m_Mo_isPlace 7 (.ldc 142) 2 9 := ⟨by decide +kernel, rfl⟩
theorem D_Mo_isPlace_9 : xd m_Mo_isPlace 9 (.if_icmp .gt 7) 3 12 := ⟨by decide +kernel, rfl⟩
theorem D_Mo_isPlace_12 : xd m_Mo_isPlace 12 (.iconst 1) 1 13 := ⟨by decide +kernel, rfl⟩
theorem D_Mo_isPlace_13 : xd m_Mo_isPlace 13 (.goto 4) 3 16 := ⟨by decide +kernel, rfl⟩
theorem D_Mo_isPlace_16 : xd m_Mo_isPlace 16 (.iconst 0) 1 17 := ⟨by decide +kernel, rfl⟩
theorem D_Mo_isPlace_17 : xd m_Mo_isPlace 17 (.ireturn) 1 18 := ⟨by decide +kernel, rfl⟩
theorem D_Mo_mark5_0 : xd m_Mo_mark5 0 (.aload_n 0) 1 1 := ⟨by decide +kernel, rfl⟩
theorem D_Mo_mark5_1 : xd m_Mo_mark5 1 (.getfield 48) 3 4 := ⟨by decide +kernel, rfl⟩
theorem D_Mo_mark5_4 : xd m_Mo_mark5 4 (.aload_n 0) 1 5 := ⟨by decide +kernel, rfl⟩
theorem D_Mo_mark5_5 : xd m_Mo_mark5 5 (.getfield 119) 3 8 := ⟨by decide +kernel, rfl⟩
theorem D_Mo_mark5_8 : xd m_Mo_mark5 8 (.iload_n 1) 1 9 := ⟨by decide +kernel, rfl⟩
theorem D_Mo_mark5_9 : xd m_Mo_mark5 9 (.iastore) 1 10 := ⟨by decide +kernel, rfl⟩
theorem D_Mo_mark5_10 : xd m_Mo_mark5 10 (.aload_n 0) 1 11 := ⟨by decide +kernel, rfl⟩
theorem D_Mo_mark5_11 : xd m_Mo_mark5 11 (.getfield 51) 3 14 := ⟨by decide +kernel, rfl⟩
theorem D_Mo_mark5_14 : xd m_Mo_mark5 14 (.aload_n 0) 1 15 := ⟨by decide +kernel, rfl⟩
theorem D_Mo_mark5_15 : xd m_Mo_mark5 15 (.getfield 119) 3 18 := ⟨by decide +kernel, rfl⟩
theorem D_Mo_mark5_18 : xd m_Mo_mark5 18 (.iload_n 2) 1 19 := ⟨by decide +kernel, rfl⟩
theorem D_Mo_mark5_19 : xd m_Mo_mark5 19 (.iastore) 1 20 := ⟨by decide +kernel, rfl⟩
theorem D_Mo_mark5_20 : xd m_Mo_mark5 20 (.aload_n 0) 1 21 := ⟨by decide +kernel, rfl⟩
theorem D_Mo_mark5_21 : xd m_Mo_mark5 21 (.getfield 54) 3 24 := ⟨by decide +kernel, rfl⟩
theorem D_Mo_mark5_24 : xd m_Mo_mark5 24 (.aload_n 0) 1 25 := ⟨by decide +kernel, rfl⟩
theorem D_Mo_mark5_25 : xd m_Mo_mark5 25 (.getfield 119) 3 28 := ⟨by decide +kernel, rfl⟩
theorem D_Mo_mark5_28 : xd m_Mo_mark5 28 (.iload_n 3) 1 29 := ⟨by decide +kernel, rfl⟩
theorem D_Mo_mark5_29 : xd m_Mo_mark5 29 (.iastore) 1 30 := ⟨by decide +kernel, rfl⟩
theorem D_Mo_mark5_30 : xd m_Mo_mark5 30 (.aload_n 0) 1 31 := ⟨by decide +kernel, rfl⟩
theorem D_Mo_mark5_31 : xd m_Mo_mark5 31 (.getfield 57) 3 34 := ⟨by decide +kernel, rfl⟩
theorem D_Mo_mark5_34 : xd m_Mo_mark5 34 (.aload_n 0) 1 35 := ⟨by decide +kernel, rfl⟩
theorem D_Mo_mark5_35 : xd m_Mo_mark5 35 (.getfield 119) 3 38 := ⟨by decide +kernel, rfl⟩
theorem D_Mo_mark5_38 : xd m_Mo_mark5 38 (.iload 4) 2 40 := ⟨by decide +kernel, rfl⟩
theorem D_Mo_mark5_40 : xd m_Mo_mark5 40 (.iastore) 1 41 := ⟨by decide +kernel, rfl⟩
theorem D_Mo_mark5_41 : xd m_Mo_mark5 41 (.aload_n 0) 1 42 := ⟨by decide +kernel, rfl⟩
theorem D_Mo_mark5_42 : xd m_Mo_mark5 42 (.getfield 60) 3 45 := ⟨by decide +kernel, rfl⟩
theorem D_Mo_mark5_45 : xd m_Mo_mark5 45 (.aload_n 0) 1 46 := ⟨by decide +kernel, rfl⟩
theorem D_Mo_mark5_46 : xd m_Mo_mark5 46 (.getfield 119) 3 49 := ⟨by decide +kernel, rfl⟩
theorem D_Mo_mark5_49 : xd m_Mo_mark5 49 (.iload 5) 2 51 := ⟨by decide +kernel, rfl⟩
theorem D_Mo_mark5_51 : xd m_Mo_mark5 51 (.iastore) 1 52 := ⟨by decide +kernel, rfl⟩
theorem D_Mo_mark5_52 : xd m_Mo_mark5 52 (.aload_n 0) 1 53 := ⟨by decide +kernel, rfl⟩
theorem D_Mo_mark5_53 : xd m_Mo_mark5 53 (.dup) 1 54 := ⟨by decide +kernel, rfl⟩
theorem D_Mo_mark5_54 : xd m_Mo_mark5 54 (.getfield 119) 3 57 := ⟨by decide +kernel, rfl⟩
theorem D_Mo_mark5_57 : xd m_Mo_mark5 57 (.iconst 1) 1 58 := ⟨by decide +kernel, rfl⟩
theorem D_Mo_mark5_58 : xd m_Mo_mark5 58 (.iadd) 1 59 := ⟨by decide +kernel, rfl⟩
theorem D_Mo_mark5_59 : xd m_Mo_mark5 59 (.putfield 119) 3 62 := ⟨by decide +kernel, rfl⟩
theorem D_Mo_mark5_62 : xd m_Mo_mark5 62 (.aload_n 0) 1 63 := ⟨by decide +kernel, rfl⟩
theorem D_Mo_mark5_63 : xd m_Mo_mark5 63 (.getfield 119) 3 66 := ⟨by decide +kernel, rfl⟩
theorem D_Mo_mark5_66 : xd m_Mo_mark5 66 (.ireturn) 1 67 := ⟨by decide +kernel, rfl⟩
theorem D_Mo_put_0 : xd m_Mo_put 0 (.aload_n 0) 1 1 := ⟨by decide +kernel, rfl⟩
theorem D_Mo_put_1 : xd m_Mo_put 1 (.iload_n 1) 1 2 := ⟨by decide +kernel, rfl⟩
theorem D_Mo_put_2 : xd m_Mo_put 2 (.invokestatic 105) 3 5 := ⟨by decide +kernel, rfl⟩
theorem D_Mo_put_5 : xd m_Mo_put 5 (.ifCond .eq 34) 3 8 := ⟨by decide +kernel, rfl⟩
theorem D_Mo_put_8 : xd m_Mo_put 8 (.aload_n 0) 1 9 := ⟨by decide +kernel, rfl⟩
theorem D_Mo_put_9 : xd m_Mo_put 9 (.getfield 7) 3 12 := ⟨by decide +kernel, rfl⟩
theorem D_Mo_put_12 : xd m_Mo_put 12 (.iload_n 1) 1 13 := ⟨by decide +kernel, rfl⟩
theorem D_Mo_put_13 : xd m_Mo_put 13 (.baload) 1 14 := ⟨by decide +kernel, rfl⟩
theorem D_Mo_put_14 : xd m_Mo_put 14 (.ifCond .eq 25) 3 17 := ⟨by decide +kernel, rfl⟩
theorem D_Mo_put_17 : xd m_Mo_put 17 (.iload_n 2) 1 18 := ⟨by decide +kernel, rfl⟩
theorem D_Mo_put_18 : xd m_Mo_put 18 (.invokestatic 105) 3 21 := ⟨by decide +kernel, rfl⟩
theorem D_Mo_put_21 : xd m_Mo_put 21 (.ifCond .eq 18) 3 24 := ⟨by decide +kernel, rfl⟩
theorem D_Mo_put_24 : xd m_Mo_put 24 (.iload_n 3) 1 25 := ⟨by decide +kernel, rfl⟩
theorem D_Mo_put_25 : xd m_Mo_put 25 (.invokestatic 143) 3 28 := ⟨by decide +kernel, rfl⟩
theorem D_Mo_put_28 : xd m_Mo_put 28 (.ifCond .eq 11) 3 31 := ⟨by decide +kernel, rfl⟩
theorem D_Mo_put_31 : xd m_Mo_put 31 (.iload 4) 2 33 := ⟨by decide +kernel, rfl⟩
theorem D_Mo_put_33 : xd m_Mo_put 33 (.invokestatic 143) 3 36 := ⟨by decide +kernel, rfl⟩
theorem D_Mo_put_36 : xd m_Mo_put 36 (.ifCond .ne 7) 3 39 := ⟨by decide +kernel, rfl⟩
theorem D_Mo_put_39 : xd m_Mo_put 39 (.iconst 1) 1 40 := ⟨by decide +kernel, rfl⟩
theorem D_Mo_put_40 : xd m_Mo_put 40 (.goto 18) 3 43 := ⟨by decide +kernel, rfl⟩
theorem D_Mo_put_43 : xd m_Mo_put 43 (.aload_n 0) 1 44 := ⟨by decide +kernel, rfl⟩
theorem D_Mo_put_44 : xd m_Mo_put 44 (.getfield 119) 3 47 := ⟨by decide +kernel, rfl⟩
theorem D_Mo_put_47 : xd m_Mo_put 47 (.sipush 500) 3 50 := ⟨by decide +kernel, rfl⟩
theorem D_Mo_put_50 : xd m_Mo_put 50 (.if_icmp .ne 7) 3 53 := ⟨by decide +kernel, rfl⟩
theorem D_Mo_put_53 : xd m_Mo_put 53 (.iconst 2) 1 54 := ⟨by decide +kernel, rfl⟩
theorem D_Mo_put_54 : xd m_Mo_put 54 (.goto 4) 3 57 := ⟨by decide +kernel, rfl⟩
theorem D_Mo_put_57 : xd m_Mo_put 57 (.iconst 0) 1 58 := ⟨by decide +kernel, rfl⟩
theorem D_Mo_put_58 : xd m_Mo_put 58 (.putfield 97) 3 61 := ⟨by decide +kernel, rfl⟩
theorem D_Mo_put_61 : xd m_Mo_put 61 (.aload_n 0) 1 62 := ⟨by decide +kernel, rfl⟩
theorem D_Mo_put_62 : xd m_Mo_put 62 (.getfield 97) 3 65 := ⟨by decide +kernel, rfl⟩
theorem D_Mo_put_65 : xd m_Mo_put 65 (.ifCond .le 7) 3 68 := ⟨by decide +kernel, rfl⟩
theorem D_Mo_put_68 : xd m_Mo_put 68 (.iconst 0) 1 69 := ⟨by decide +kernel, rfl⟩
theorem D_Mo_put_69 : xd m_Mo_put 69 (.goto 13) 3 72 := ⟨by decide +kernel, rfl⟩
theorem D_Mo_put_72 : xd m_Mo_put 72 (.aload_n 0) 1 73 := ⟨by decide +kernel, rfl⟩
theorem D_Mo_put_73 : xd m_Mo_put 73 (.iload_n 1) 1 74 := ⟨by decide +kernel, rfl⟩
theorem D_Mo_put_74 : xd m_Mo_put 74 (.iload_n 2) 1 75 := ⟨by decide +kernel, rfl⟩
theorem D_Mo_put_75 : xd m_Mo_put 75 (.iload_n 3) 1 76 := ⟨by decide +kernel, rfl⟩
theorem D_Mo_put_76 : xd m_Mo_put 76 (.iload 4) 2 78 := ⟨by decide +kernel, rfl⟩
theorem D_Mo_put_78 : xd m_Mo_put 78 (.iconst 0) 1 79 := ⟨by decide +kernel, rfl⟩
theorem D_Mo_put_79 : xd m_Mo_put 79 (.invokevirtual 146) 3 82 := ⟨by decide +kernel, rfl⟩
theorem D_Mo_put_82 : xd m_Mo_put 82 (.ireturn) 1 83 := ⟨by decide +kernel, rfl⟩
theorem D_Mo_rule_0 : xd m_Mo_rule 0 (.aload_n 0) 1 1 := ⟨by decide +kernel, rfl⟩
theorem D_Mo_rule_1 : xd m_Mo_rule 1 (.iload_n 1) 1 2 := ⟨by decide +kernel, rfl⟩
theorem D_Mo_rule_2 : xd m_Mo_rule 2 (.invokestatic 143) 3 5 := ⟨by decide +kernel, rfl⟩
theorem D_Mo_rule_5 : xd m_Mo_rule 5 (.ifCond .eq 34) 3 8 := ⟨by decide +kernel, rfl⟩
theorem D_Mo_rule_8 : xd m_Mo_rule 8 (.iload_n 2) 1 9 := ⟨by decide +kernel, rfl⟩
theorem D_Mo_rule_9 : xd m_Mo_rule 9 (.invokestatic 143) 3 12 := ⟨by decide +kernel, rfl⟩
theorem D_Mo_rule_12 : xd m_Mo_rule 12 (.ifCond .eq 27) 3 15 := ⟨by decide +kernel, rfl⟩
theorem D_Mo_rule_15 : xd m_Mo_rule 15 (.iload_n 3) 1 16 := ⟨by decide +kernel, rfl⟩
theorem D_Mo_rule_16 : xd m_Mo_rule 16 (.iconst 1) 1 17 := ⟨by decide +kernel, rfl⟩
theorem D_Mo_rule_17 : xd m_Mo_rule 17 (.if_icmp .lt 22) 3 20 := ⟨by decide +kernel, rfl⟩
theorem D_Mo_rule_20 : xd m_Mo_rule 20 (.iload 4) 2 22 := ⟨by decide +kernel, rfl⟩
theorem D_Mo_rule_22 : xd m_Mo_rule 22 (.iconst 1) 1 23 := ⟨by decide +kernel, rfl⟩
theorem D_Mo_rule_23 : xd m_Mo_rule 23 (.if_icmp .lt 16) 3 26 := ⟨by decide +kernel, rfl⟩
theorem D_Mo_rule_26 : xd m_Mo_rule 26 (.iload_n 3) 1 27 := ⟨by decide +kernel, rfl⟩
theorem D_Mo_rule_27 : xd m_Mo_rule 27 (.ldc 142) 2 29 := ⟨by decide +kernel, rfl⟩
theorem D_Mo_rule_29 : xd m_Mo_rule 29 (.if_icmp .gt 10) 3 32 := ⟨by decide +kernel, rfl⟩
theorem D_Mo_rule_32 : xd m_Mo_rule 32 (.iload 4) 2 34 := ⟨by decide +kernel, rfl⟩
theorem D_Mo_rule_34 : xd m_Mo_rule 34 (.ldc 142) 2 36 := ⟨by decide +kernel, rfl⟩
theorem D_Mo_rule_36 : xd m_Mo_rule 36 (.if_icmp .le 7) 3 39 := ⟨by decide +kernel, rfl⟩
theorem D_Mo_rule_39 : xd m_Mo_rule 39 (.iconst 1) 1 40 := ⟨by decide +kernel, rfl⟩
theorem D_Mo_rule_40 : xd m_Mo_rule 40 (.goto 18) 3 43 := ⟨by decide +kernel, rfl⟩
theorem D_Mo_rule_43 : xd m_Mo_rule 43 (.aload_n 0) 1 44 := ⟨by decide +kernel, rfl⟩
theorem D_Mo_rule_44 : xd m_Mo_rule 44 (.getfield 119) 3 47 := ⟨by decide +kernel, rfl⟩
theorem D_Mo_rule_47 : xd m_Mo_rule 47 (.sipush 500) 3 50 := ⟨by decide +kernel, rfl⟩
theorem D_Mo_rule_50 : xd m_Mo_rule 50 (.if_icmp .ne 7) 3 53 := ⟨by decide +kernel, rfl⟩
theorem D_Mo_rule_53 : xd m_Mo_rule 53 (.iconst 2) 1 54 := ⟨by decide +kernel, rfl⟩
theorem D_Mo_rule_54 : xd m_Mo_rule 54 (.goto 4) 3 57 := ⟨by decide +kernel, rfl⟩
theorem D_Mo_rule_57 : xd m_Mo_rule 57 (.iconst 0) 1 58 := ⟨by decide +kernel, rfl⟩
theorem D_Mo_rule_58 : xd m_Mo_rule 58 (.putfield 97) 3 61 := ⟨by decide +kernel, rfl⟩
theorem D_Mo_rule_61 : xd m_Mo_rule 61 (.aload_n 0) 1 62 := ⟨by decide +kernel, rfl⟩
theorem D_Mo_rule_62 : xd m_Mo_rule 62 (.getfield 97) 3 65 := ⟨by decide +kernel, rfl⟩
theorem D_Mo_rule_65 : xd m_Mo_rule 65 (.ifCond .le 7) 3 68 := ⟨by decide +kernel, rfl⟩
theorem D_Mo_rule_68 : xd m_Mo_rule 68 (.iconst 0) 1 69 := ⟨by decide +kernel, rfl⟩
theorem D_Mo_rule_69 : xd m_Mo_rule 69 (.goto 13) 3 72 := ⟨by decide +kernel, rfl⟩
theorem D_Mo_rule_72 : xd m_Mo_rule 72 (.aload_n 0) 1 73 := ⟨by decide +kernel, rfl⟩
theorem D_Mo_rule_73 : xd m_Mo_rule 73 (.iconst (-1)) 1 74 := ⟨by decide +kernel, rfl⟩
theorem D_Mo_rule_74 : xd m_Mo_rule 74 (.iload_n 3) 1 75 := ⟨by decide +kernel, rfl⟩
theorem D_Mo_rule_75 : xd m_Mo_rule 75 (.iload_n 1) 1 76 := ⟨by decide +kernel, rfl⟩
theorem D_Mo_rule_76 : xd m_Mo_rule 76 (.iload_n 2) 1 77 := ⟨by decide +kernel, rfl⟩
theorem D_Mo_rule_77 : xd m_Mo_rule 77 (.iload 4) 2 79 := ⟨by decide +kernel, rfl⟩
theorem D_Mo_rule_79 : xd m_Mo_rule 79 (.invokevirtual 146) 3 82 := ⟨by decide +kernel, rfl⟩
theorem D_Mo_rule_82 : xd m_Mo_rule 82 (.ireturn) 1 83 := ⟨by decide +kernel, rfl⟩
theorem D_Mo_lay_0 : xd m_Mo_lay 0 (.aload_n 0) 1 1 := ⟨by decide +kernel, rfl⟩
theorem D_Mo_lay_1 : xd m_Mo_lay 1 (.getfield 38) 3 4 := ⟨by decide +kernel, rfl⟩
theorem D_Mo_lay_4 : xd m_Mo_lay 4 (.aload_n 0) 1 5 := ⟨by decide +kernel, rfl⟩
theorem D_Mo_lay_5 : xd m_Mo_lay 5 (.getfield 116) 3 8 := ⟨by decide +kernel, rfl⟩
theorem D_Mo_lay_8 : xd m_Mo_lay 8 (.iload_n 1) 1 9 := ⟨by decide +kernel, rfl⟩
theorem D_Mo_lay_9 : xd m_Mo_lay 9 (.i2b) 1 10 := ⟨by decide +kernel, rfl⟩
theorem D_Mo_lay_10 : xd m_Mo_lay 10 (.bastore) 1 11 := ⟨by decide +kernel, rfl⟩
theorem D_Mo_lay_11 : xd m_Mo_lay 11 (.aload_n 0) 1 12 := ⟨by decide +kernel, rfl⟩
theorem D_Mo_lay_12 : xd m_Mo_lay 12 (.dup) 1 13 := ⟨by decide +kernel, rfl⟩
theorem D_Mo_lay_13 : xd m_Mo_lay 13 (.getfield 116) 3 16 := ⟨by decide +kernel, rfl⟩
theorem D_Mo_lay_16 : xd m_Mo_lay 16 (.iconst 1) 1 17 := ⟨by decide +kernel, rfl⟩
theorem D_Mo_lay_17 : xd m_Mo_lay 17 (.iadd) 1 18 := ⟨by decide +kernel, rfl⟩
theorem D_Mo_lay_18 : xd m_Mo_lay 18 (.putfield 116) 3 21 := ⟨by decide +kernel, rfl⟩
theorem D_Mo_lay_21 : xd m_Mo_lay 21 (.return_) 1 22 := ⟨by decide +kernel, rfl⟩
theorem D_Mo_layNumber_0 : xd m_Mo_layNumber 0 (.iload_n 2) 1 1 := ⟨by decide +kernel, rfl⟩
theorem D_Mo_layNumber_1 : xd m_Mo_layNumber 1 (.iconst 1) 1 2 := ⟨by decide +kernel, rfl⟩
theorem D_Mo_layNumber_2 : xd m_Mo_layNumber 2 (.isub) 1 3 := ⟨by decide +kernel, rfl⟩
theorem D_Mo_layNumber_3 : xd m_Mo_layNumber 3 (.istore_n 3) 1 4 := ⟨by decide +kernel, rfl⟩
theorem D_Mo_layNumber_4 : xd m_Mo_layNumber 4 (.iload_n 3) 1 5 := ⟨by decide +kernel, rfl⟩
theorem D_Mo_layNumber_5 : xd m_Mo_layNumber 5 (.ifCond .lt 19) 3 8 := ⟨by decide +kernel, rfl⟩
theorem D_Mo_layNumber_8 : xd m_Mo_layNumber 8 (.aload_n 0) 1 9 := ⟨by decide +kernel, rfl⟩
theorem D_Mo_layNumber_9 : xd m_Mo_layNumber 9 (.iload_n 1) 1 10 := ⟨by decide +kernel, rfl⟩
theorem D_Mo_layNumber_10 : xd m_Mo_layNumber 10 (.bipush 8) 2 12 := ⟨by decide +kernel, rfl⟩
theorem D_Mo_layNumber_12 : xd m_Mo_layNumber 12 (.iload_n 3) 1 13 := ⟨by decide +kernel, rfl⟩
theorem D_Mo_layNumber_13 : xd m_Mo_layNumber 13 (.imul) 1 14 := ⟨by decide +kernel, rfl⟩
theorem D_Mo_layNumber_14 : xd m_Mo_layNumber 14 (.ishr) 1 15 := ⟨by decide +kernel, rfl⟩
theorem D_Mo_layNumber_15 : xd m_Mo_layNumber 15 (.invokevirtual 150) 3 18 := ⟨by decide +kernel, rfl⟩
theorem D_Mo_layNumber_18 : xd m_Mo_layNumber 18 (.iinc 3 (-1)) 3 21 := ⟨by decide +kernel, rfl⟩
theorem D_Mo_layNumber_21 : xd m_Mo_layNumber 21 (.goto (-17)) 3 24 := ⟨by decide +kernel, rfl⟩
theorem D_Mo_layNumber_24 : xd m_Mo_layNumber 24 (.return_) 1 25 := ⟨by decide +kernel, rfl⟩
theorem D_Mo_isInt_0 : xd m_Mo_isInt 0 (.lload_n 0) 1 1 := ⟨by decide +kernel, rfl⟩
theorem D_Mo_isInt_1 : xd m_Mo_isInt 1 (.ldc2_w 154) 3 4 := ⟨by decide +kernel, rfl⟩
theorem D_Mo_isInt_4 : xd m_Mo_isInt 4 (.lcmp) 1 5 := ⟨by decide +kernel, rfl⟩
theorem D_Mo_isInt_5 : xd m_Mo_isInt 5 (.ifCond .lt 15) 3 8 := ⟨by decide +kernel, rfl⟩
theorem D_Mo_isInt_8 : xd m_Mo_isInt 8 (.lload_n 0) 1 9 := ⟨by decide +kernel, rfl⟩
theorem D_Mo_isInt_9 : xd m_Mo_isInt 9 (.ldc2_w 156) 3 12 := ⟨by decide +kernel, rfl⟩
theorem D_Mo_isInt_12 : xd m_Mo_isInt 12 (.lcmp) 1 13 := ⟨by decide +kernel, rfl⟩
theorem D_Mo_isInt_13 : xd m_Mo_isInt 13 (.ifCond .gt 7) 3 16 := ⟨by decide +kernel, rfl⟩
theorem D_Mo_isInt_16 : xd m_Mo_isInt 16 (.iconst 1) 1 17 := ⟨by decide +kernel, rfl⟩
theorem D_Mo_isInt_17 : xd m_Mo_isInt 17 (.goto 4) 3 20 := ⟨by decide +kernel, rfl⟩
theorem D_Mo_isInt_20 : xd m_Mo_isInt 20 (.iconst 0) 1 21 := ⟨by decide +kernel, rfl⟩
theorem D_Mo_isInt_21 : xd m_Mo_isInt 21 (.ireturn) 1 22 := ⟨by decide +kernel, rfl⟩
theorem D_Mo_findMoves_0 : xd m_Mo_findMoves 0 (.lconst 0) 1 1 := ⟨by decide +kernel, rfl⟩
theorem D_Mo_findMoves_1 : xd m_Mo_findMoves 1 (.lstore_n 1) 1 2 := ⟨by decide +kernel, rfl⟩
theorem D_Mo_findMoves_2 : xd m_Mo_findMoves 2 (.lconst 0) 1 3 := ⟨by decide +kernel, rfl⟩
theorem D_Mo_findMoves_3 : xd m_Mo_findMoves 3 (.lstore_n 3) 1 4 := ⟨by decide +kernel, rfl⟩
theorem D_Mo_findMoves_4 : xd m_Mo_findMoves 4 (.iconst 0) 1 5 := ⟨by decide +kernel, rfl⟩
theorem D_Mo_findMoves_5 : xd m_Mo_findMoves 5 (.istore 5) 2 7 := ⟨by decide +kernel, rfl⟩
theorem D_Mo_findMoves_7 : xd m_Mo_findMoves 7 (.iload 5) 2 9 := ⟨by decide +kernel, rfl⟩
theorem D_Mo_findMoves_9 : xd m_Mo_findMoves 9 (.aload_n 0) 1 10 := ⟨by decide +kernel, rfl⟩
theorem D_Mo_findMoves_10 : xd m_Mo_findMoves 10 (.getfield 119) 3 13 := ⟨by decide +kernel, rfl⟩
theorem D_Mo_findMoves_13 : xd m_Mo_findMoves 13 (.if_icmp .ge 135) 3 16 := ⟨by decide +kernel, rfl⟩
theorem D_Mo_findMoves_16 : xd m_Mo_findMoves 16 (.aload_n 0) 1 17 := ⟨by decide +kernel, rfl⟩
theorem D_Mo_findMoves_17 : xd m_Mo_findMoves 17 (.getfield 54) 3 20 := ⟨by decide +kernel, rfl⟩
theorem D_Mo_findMoves_20 : xd m_Mo_findMoves 20 (.iload 5) 2 22 := ⟨by decide +kernel, rfl⟩
theorem D_Mo_findMoves_22 : xd m_Mo_findMoves 22 (.iaload) 1 23 := ⟨by decide +kernel, rfl⟩
theorem D_Mo_findMoves_23 : xd m_Mo_findMoves 23 (.i2l) 1 24 := ⟨by decide +kernel, rfl⟩
theorem D_Mo_findMoves_24 : xd m_Mo_findMoves 24 (.lload_n 1) 1 25 := ⟨by decide +kernel, rfl⟩
theorem D_Mo_findMoves_25 : xd m_Mo_findMoves 25 (.lsub) 1 26 := ⟨by decide +kernel, rfl⟩
theorem D_Mo_findMoves_26 : xd m_Mo_findMoves 26 (.lstore 6) 2 28 := ⟨by decide +kernel, rfl⟩
theorem D_Mo_findMoves_28 : xd m_Mo_findMoves 28 (.lload 6) 2 30 := ⟨by decide +kernel, rfl⟩
theorem D_Mo_findMoves_30 : xd m_Mo_findMoves 30 (.invokestatic 158) 3 33 := ⟨by decide +kernel, rfl⟩
theorem D_Mo_findMoves_33 : xd m_Mo_findMoves 33 (.ifCond .ne 5) 3 36 := ⟨by decide +kernel, rfl⟩
theorem D_Mo_findMoves_36 : xd m_Mo_findMoves 36 (.iconst 0) 1 37 := ⟨by decide +kernel, rfl⟩
theorem D_Mo_findMoves_37 : xd m_Mo_findMoves 37 (.ireturn) 1 38 := ⟨by decide +kernel, rfl⟩
theorem D_Mo_findMoves_38 : xd m_Mo_findMoves 38 (.aload_n 0) 1 39 := ⟨by decide +kernel, rfl⟩
theorem D_Mo_findMoves_39 : xd m_Mo_findMoves 39 (.getfield 63) 3 42 := ⟨by decide +kernel, rfl⟩
theorem D_Mo_findMoves_42 : xd m_Mo_findMoves 42 (.iload 5) 2 44 := ⟨by decide +kernel, rfl⟩
theorem D_Mo_findMoves_44 : xd m_Mo_findMoves 44 (.lload 6) 2 46 := ⟨by decide +kernel, rfl⟩
theorem D_Mo_findMoves_46 : xd m_Mo_findMoves 46 (.l2i) 1 47 := ⟨by decide +kernel, rfl⟩
theorem D_Mo_findMoves_47 : xd m_Mo_findMoves 47 (.iastore) 1 48 := ⟨by decide +kernel, rfl⟩
theorem D_Mo_findMoves_48 : xd m_Mo_findMoves 48 (.aload_n 0) 1 49 := ⟨by decide +kernel, rfl⟩
theorem D_Mo_findMoves_49 : xd m_Mo_findMoves 49 (.getfield 66) 3 52 := ⟨by decide +kernel, rfl⟩
theorem D_Mo_findMoves_52 : xd m_Mo_findMoves 52 (.iload 5) 2 54 := ⟨by decide +kernel, rfl⟩
theorem D_Mo_findMoves_54 : xd m_Mo_findMoves 54 (.aload_n 0) 1 55 := ⟨by decide +kernel, rfl⟩
theorem D_Mo_findMoves_55 : xd m_Mo_findMoves 55 (.getfield 57) 3 58 := ⟨by decide +kernel, rfl⟩
theorem D_Mo_findMoves_58 : xd m_Mo_findMoves 58 (.iload 5) 2 60 := ⟨by decide +kernel, rfl⟩
theorem D_Mo_findMoves_60 : xd m_Mo_findMoves 60 (.iaload) 1 61 := ⟨by decide +kernel, rfl⟩
theorem D_Mo_findMoves_61 : xd m_Mo_findMoves 61 (.i2l) 1 62 := ⟨by decide +kernel, rfl⟩
theorem D_Mo_findMoves_62 : xd m_Mo_findMoves 62 (.lload_n 3) 1 63 := ⟨by decide +kernel, rfl⟩
theorem D_Mo_findMoves_63 : xd m_Mo_findMoves 63 (.lsub) 1 64 := ⟨by decide +kernel, rfl⟩
theorem D_Mo_findMoves_64 : xd m_Mo_findMoves 64 (.l2i) 1 65 := ⟨by decide +kernel, rfl⟩
theorem D_Mo_findMoves_65 : xd m_Mo_findMoves 65 (.iastore) 1 66 := ⟨by decide +kernel, rfl⟩
theorem D_Mo_findMoves_66 : xd m_Mo_findMoves 66 (.aload_n 0) 1 67 := ⟨by decide +kernel, rfl⟩
theorem D_Mo_findMoves_67 : xd m_Mo_findMoves 67 (.getfield 57) 3 70 := ⟨by decide +kernel, rfl⟩
theorem D_Mo_findMoves_70 : xd m_Mo_findMoves 70 (.iload 5) 2 72 := ⟨by decide +kernel, rfl⟩
theorem D_Mo_findMoves_72 : xd m_Mo_findMoves 72 (.iaload) 1 73 := ⟨by decide +kernel, rfl⟩
theorem D_Mo_findMoves_73 : xd m_Mo_findMoves 73 (.i2l) 1 74 := ⟨by decide +kernel, rfl⟩
theorem D_Mo_findMoves_74 : xd m_Mo_findMoves 74 (.lstore_n 3) 1 75 := ⟨by decide +kernel, rfl⟩
theorem D_Mo_findMoves_75 : xd m_Mo_findMoves 75 (.aload_n 0) 1 76 := ⟨by decide +kernel, rfl⟩
theorem D_Mo_findMoves_76 : xd m_Mo_findMoves 76 (.getfield 54) 3 79 := ⟨by decide +kernel, rfl⟩
theorem D_Mo_findMoves_79 : xd m_Mo_findMoves 79 (.iload 5) 2 81 := ⟨by decide +kernel, rfl⟩
theorem D_Mo_findMoves_81 : xd m_Mo_findMoves 81 (.iaload) 1 82 := ⟨by decide +kernel, rfl⟩
theorem D_Mo_findMoves_82 : xd m_Mo_findMoves 82 (.i2l) 1 83 := ⟨by decide +kernel, rfl⟩
theorem D_Mo_findMoves_83 : xd m_Mo_findMoves 83 (.aload_n 0) 1 84 := ⟨by decide +kernel, rfl⟩
theorem D_Mo_findMoves_84 : xd m_Mo_findMoves 84 (.getfield 48) 3 87 := ⟨by decide +kernel, rfl⟩
theorem D_Mo_findMoves_87 : xd m_Mo_findMoves 87 (.iload 5) 2 89 := ⟨by decide +kernel, rfl⟩
theorem D_Mo_findMoves_89 : xd m_Mo_findMoves 89 (.iaload) 1 90 := ⟨by decide +kernel, rfl⟩
theorem D_Mo_findMoves_90 : xd m_Mo_findMoves 90 (.ifCond .ge 7) 3 93 := ⟨by decide +kernel, rfl⟩
theorem D_Mo_findMoves_93 : xd m_Mo_findMoves 93 (.lconst 0) 1 94 := ⟨by decide +kernel, rfl⟩
theorem D_Mo_findMoves_94 : xd m_Mo_findMoves 94 (.goto 28) 3 97 := ⟨by decide +kernel, rfl⟩
theorem D_Mo_findMoves_97 : xd m_Mo_findMoves 97 (.aload_n 0) 1 98 := ⟨by decide +kernel, rfl⟩
theorem D_Mo_findMoves_98 : xd m_Mo_findMoves 98 (.getfield 31) 3 101 := ⟨by decide +kernel, rfl⟩
theorem D_Mo_findMoves_101 : xd m_Mo_findMoves 101 (.sipush 256) 3 104 := ⟨by decide +kernel, rfl⟩
theorem D_Mo_findMoves_104 : xd m_Mo_findMoves 104 (.aload_n 0) 1 105 := ⟨by decide +kernel, rfl⟩
theorem D_Mo_findMoves_105 : xd m_Mo_findMoves 105 (.getfield 48) 3 108 := ⟨by decide +kernel, rfl⟩
theorem D_Mo_findMoves_108 : xd m_Mo_findMoves 108 (.iload 5) 2 110 := ⟨by decide +kernel, rfl⟩
theorem D_Mo_findMoves_110 : xd m_Mo_findMoves 110 (.iaload) 1 111 := ⟨by decide +kernel, rfl⟩
theorem D_Mo_findMoves_111 : xd m_Mo_findMoves 111 (.imul) 1 112 := ⟨by decide +kernel, rfl⟩
theorem D_Mo_findMoves_112 : xd m_Mo_findMoves 112 (.aload_n 0) 1 113 := ⟨by decide +kernel, rfl⟩
theorem D_Mo_findMoves_113 : xd m_Mo_findMoves 113 (.getfield 51) 3 116 := ⟨by decide +kernel, rfl⟩
theorem D_Mo_findMoves_116 : xd m_Mo_findMoves 116 (.iload 5) 2 118 := ⟨by decide +kernel, rfl⟩
theorem D_Mo_findMoves_118 : xd m_Mo_findMoves 118 (.iaload) 1 119 := ⟨by decide +kernel, rfl⟩
theorem D_Mo_findMoves_119 : xd m_Mo_findMoves 119 (.iadd) 1 120 := ⟨by decide +kernel, rfl⟩
theorem D_Mo_findMoves_120 : xd m_Mo_findMoves 120 (.iaload) 1 121 := ⟨by decide +kernel, rfl⟩
theorem D_Mo_findMoves_121 : xd m_Mo_findMoves 121 (.i2l) 1 122 := ⟨by decide +kernel, rfl⟩
theorem D_Mo_findMoves_122 : xd m_Mo_findMoves 122 (.ladd) 1 123 := ⟨by decide +kernel, rfl⟩
theorem D_Mo_findMoves_123 : xd m_Mo_findMoves 123 (.lstore_n 1) 1 124 := ⟨by decide +kernel, rfl⟩
theorem D_Mo_findMoves_124 : xd m_Mo_findMoves 124 (.lload_n 1) 1 125 := ⟨by decide +kernel, rfl⟩
theorem D_Mo_findMoves_125 : xd m_Mo_findMoves 125 (.invokestatic 158) 3 128 := ⟨by decide +kernel, rfl⟩
theorem D_Mo_findMoves_128 : xd m_Mo_findMoves 128 (.ifCond .ne 5) 3 131 := ⟨by decide +kernel, rfl⟩
theorem D_Mo_findMoves_131 : xd m_Mo_findMoves 131 (.iconst 0) 1 132 := ⟨by decide +kernel, rfl⟩
theorem D_Mo_findMoves_132 : xd m_Mo_findMoves 132 (.ireturn) 1 133 := ⟨by decide +kernel, rfl⟩
theorem D_Mo_findMoves_133 : xd m_Mo_findMoves 133 (.aload_n 0) 1 134 := ⟨by decide +kernel, rfl⟩
theorem D_Mo_findMoves_134 : xd m_Mo_findMoves 134 (.getfield 69) 3 137 := ⟨by decide +kernel, rfl⟩
theorem D_Mo_findMoves_137 : xd m_Mo_findMoves 137 (.iload 5) 2 139 := ⟨by decide +kernel, rfl⟩
theorem D_Mo_findMoves_139 : xd m_Mo_findMoves 139 (.lload_n 1) 1 140 := ⟨by decide +kernel, rfl⟩
theorem D_Mo_findMoves_140 : xd m_Mo_findMoves 140 (.l2i) 1 141 := ⟨by decide +kernel, rfl⟩
theorem D_Mo_findMoves_141 : xd m_Mo_findMoves 141 (.iastore) 1 142 := ⟨by decide +kernel, rfl⟩
theorem D_Mo_findMoves_142 : xd m_Mo_findMoves 142 (.iinc 5 1) 3 145 := ⟨by decide +kernel, rfl⟩
theorem D_Mo_findMoves_145 : xd m_Mo_findMoves 145 (.goto (-138)) 3 148 := ⟨by decide +kernel, rfl⟩
theorem D_Mo_findMoves_148 : xd m_Mo_findMoves 148 (.iconst 1) 1 149 := ⟨by decide +kernel, rfl⟩
theorem D_Mo_findMoves_149 : xd m_Mo_findMoves 149 (.ireturn) 1 150 := ⟨by decide +kernel, rfl⟩
theorem D_Mo_comes_0 : xd m_Mo_comes 0 (.iconst 0) 1 1 := ⟨by decide +kernel, rfl⟩
theorem D_Mo_comes_1 : xd m_Mo_comes 1 (.istore 4) 2 3 := ⟨by decide +kernel, rfl⟩
theorem D_Mo_comes_3 : xd m_Mo_comes 3 (.iload_n 2) 1 4 := ⟨by decide +kernel, rfl⟩
theorem D_Mo_comes_4 : xd m_Mo_comes 4 (.iconst 1) 1 5 := ⟨by decide +kernel, rfl⟩
theorem D_Mo_comes_5 : xd m_Mo_comes 5 (.iadd) 1 6 := ⟨by decide +kernel, rfl⟩
theorem D_Mo_comes_6 : xd m_Mo_comes 6 (.istore 5) 2 8 := ⟨by decide +kernel, rfl⟩
theorem D_Mo_comes_8 : xd m_Mo_comes 8 (.iload 5) 2 10 := ⟨by decide +kernel, rfl⟩
theorem D_Mo_comes_10 : xd m_Mo_comes 10 (.aload_n 0) 1 11 := ⟨by decide +kernel, rfl⟩
theorem D_Mo_comes_11 : xd m_Mo_comes 11 (.getfield 119) 3 14 := ⟨by decide +kernel, rfl⟩
theorem D_Mo_comes_14 : xd m_Mo_comes 14 (.if_icmp .ge 29) 3 17 := ⟨by decide +kernel, rfl⟩
theorem D_Mo_comes_17 : xd m_Mo_comes 17 (.iload 4) 2 19 := ⟨by decide +kernel, rfl⟩
theorem D_Mo_comes_19 : xd m_Mo_comes 19 (.ifCond .ne 11) 3 22 := ⟨by decide +kernel, rfl⟩
theorem D_Mo_comes_22 : xd m_Mo_comes 22 (.aload_n 1) 1 23 := ⟨by decide +kernel, rfl⟩
theorem D_Mo_comes_23 : xd m_Mo_comes 23 (.iload 5) 2 25 := ⟨by decide +kernel, rfl⟩
theorem D_Mo_comes_25 : xd m_Mo_comes 25 (.iaload) 1 26 := ⟨by decide +kernel, rfl⟩
theorem D_Mo_comes_26 : xd m_Mo_comes 26 (.iload_n 3) 1 27 := ⟨by decide +kernel, rfl⟩
theorem D_Mo_comes_27 : xd m_Mo_comes 27 (.if_icmp .ne 7) 3 30 := ⟨by decide +kernel, rfl⟩
theorem D_Mo_comes_30 : xd m_Mo_comes 30 (.iconst 1) 1 31 := ⟨by decide +kernel, rfl⟩
theorem D_Mo_comes_31 : xd m_Mo_comes 31 (.goto 4) 3 34 := ⟨by decide +kernel, rfl⟩
theorem D_Mo_comes_34 : xd m_Mo_comes 34 (.iconst 0) 1 35 := ⟨by decide +kernel, rfl⟩
theorem D_Mo_comes_35 : xd m_Mo_comes 35 (.istore 4) 2 37 := ⟨by decide +kernel, rfl⟩
theorem D_Mo_comes_37 : xd m_Mo_comes 37 (.iinc 5 1) 3 40 := ⟨by decide +kernel, rfl⟩
theorem D_Mo_comes_40 : xd m_Mo_comes 40 (.goto (-32)) 3 43 := ⟨by decide +kernel, rfl⟩
theorem D_Mo_comes_43 : xd m_Mo_comes 43 (.iload 4) 2 45 := ⟨by decide +kernel, rfl⟩
theorem D_Mo_comes_45 : xd m_Mo_comes 45 (.ireturn) 1 46 := ⟨by decide +kernel, rfl⟩
theorem D_Mo_bytesOf_0 : xd m_Mo_bytesOf 0 (.iload_n 0) 1 1 := ⟨by decide +kernel, rfl⟩
theorem D_Mo_bytesOf_1 : xd m_Mo_bytesOf 1 (.bipush (-128)) 2 3 := ⟨by decide +kernel, rfl⟩
theorem D_Mo_bytesOf_3 : xd m_Mo_bytesOf 3 (.if_icmp .lt 14) 3 6 := ⟨by decide +kernel, rfl⟩
theorem D_Mo_bytesOf_6 : xd m_Mo_bytesOf 6 (.iload_n 0) 1 7 := ⟨by decide +kernel, rfl⟩
theorem D_Mo_bytesOf_7 : xd m_Mo_bytesOf 7 (.sipush 128) 3 10 := ⟨by decide +kernel, rfl⟩
theorem D_Mo_bytesOf_10 : xd m_Mo_bytesOf 10 (.if_icmp .ge 7) 3 13 := ⟨by decide +kernel, rfl⟩
theorem D_Mo_bytesOf_13 : xd m_Mo_bytesOf 13 (.iconst 1) 1 14 := ⟨by decide +kernel, rfl⟩
theorem D_Mo_bytesOf_14 : xd m_Mo_bytesOf 14 (.goto 37) 3 17 := ⟨by decide +kernel, rfl⟩
theorem D_Mo_bytesOf_17 : xd m_Mo_bytesOf 17 (.iload_n 0) 1 18 := ⟨by decide +kernel, rfl⟩
theorem D_Mo_bytesOf_18 : xd m_Mo_bytesOf 18 (.sipush (-32768)) 3 21 := ⟨by decide +kernel, rfl⟩
theorem D_Mo_bytesOf_21 : xd m_Mo_bytesOf 21 (.if_icmp .lt 13) 3 24 := ⟨by decide +kernel, rfl⟩
theorem D_Mo_bytesOf_24 : xd m_Mo_bytesOf 24 (.iload_n 0) 1 25 := ⟨by decide +kernel, rfl⟩
theorem D_Mo_bytesOf_25 : xd m_Mo_bytesOf 25 (.ldc 162) 2 27 := ⟨by decide +kernel, rfl⟩
theorem D_Mo_bytesOf_27 : xd m_Mo_bytesOf 27 (.if_icmp .ge 7) 3 30 := ⟨by decide +kernel, rfl⟩
theorem D_Mo_bytesOf_30 : xd m_Mo_bytesOf 30 (.iconst 2) 1 31 := ⟨by decide +kernel, rfl⟩
theorem D_Mo_bytesOf_31 : xd m_Mo_bytesOf 31 (.goto 20) 3 34 := ⟨by decide +kernel, rfl⟩
theorem D_Mo_bytesOf_34 : xd m_Mo_bytesOf 34 (.iload_n 0) 1 35 := ⟨by decide +kernel, rfl⟩
theorem D_Mo_bytesOf_35 : xd m_Mo_bytesOf 35 (.ldc 163) 2 37 := ⟨by decide +kernel, rfl⟩
theorem D_Mo_bytesOf_37 : xd m_Mo_bytesOf 37 (.if_icmp .lt 13) 3 40 := ⟨by decide +kernel, rfl⟩
theorem D_Mo_bytesOf_40 : xd m_Mo_bytesOf 40 (.iload_n 0) 1 41 := ⟨by decide +kernel, rfl⟩
theorem D_Mo_bytesOf_41 : xd m_Mo_bytesOf 41 (.ldc 164) 2 43 := ⟨by decide +kernel, rfl⟩
theorem D_Mo_bytesOf_43 : xd m_Mo_bytesOf 43 (.if_icmp .ge 7) 3 46 := ⟨by decide +kernel, rfl⟩
theorem D_Mo_bytesOf_46 : xd m_Mo_bytesOf 46 (.iconst 3) 1 47 := ⟨by decide +kernel, rfl⟩
theorem D_Mo_bytesOf_47 : xd m_Mo_bytesOf 47 (.goto 4) 3 50 := ⟨by decide +kernel, rfl⟩
theorem D_Mo_bytesOf_50 : xd m_Mo_bytesOf 50 (.iconst 4) 1 51 := ⟨by decide +kernel, rfl⟩
theorem D_Mo_bytesOf_51 : xd m_Mo_bytesOf 51 (.ireturn) 1 52 := ⟨by decide +kernel, rfl⟩
theorem D_Mo_move_0 : xd m_Mo_move 0 (.aload_n 1) 1 1 := ⟨by decide +kernel, rfl⟩
theorem D_Mo_move_1 : xd m_Mo_move 1 (.iload_n 2) 1 2 := ⟨by decide +kernel, rfl⟩
theorem D_Mo_move_2 : xd m_Mo_move 2 (.iaload) 1 3 := ⟨by decide +kernel, rfl⟩
theorem D_Mo_move_3 : xd m_Mo_move 3 (.istore 5) 2 5 := ⟨by decide +kernel, rfl⟩
theorem D_Mo_move_5 : xd m_Mo_move 5 (.iload 4) 2 7 := ⟨by decide +kernel, rfl⟩
theorem D_Mo_move_7 : xd m_Mo_move 7 (.iconst 1) 1 8 := ⟨by decide +kernel, rfl⟩
theorem D_Mo_move_8 : xd m_Mo_move 8 (.iadd) 1 9 := ⟨by decide +kernel, rfl⟩
theorem D_Mo_move_9 : xd m_Mo_move 9 (.istore 6) 2 11 := ⟨by decide +kernel, rfl⟩
theorem D_Mo_move_11 : xd m_Mo_move 11 (.iload 5) 2 13 := ⟨by decide +kernel, rfl⟩
theorem D_Mo_move_13 : xd m_Mo_move 13 (.invokestatic 165) 3 16 := ⟨by decide +kernel, rfl⟩
theorem D_Mo_move_16 : xd m_Mo_move 16 (.istore 7) 2 18 := ⟨by decide +kernel, rfl⟩
theorem D_Mo_move_18 : xd m_Mo_move 18 (.iload 5) 2 20 := ⟨by decide +kernel, rfl⟩
theorem D_Mo_move_20 : xd m_Mo_move 20 (.ifCond .ne 4) 3 23 := ⟨by decide +kernel, rfl⟩
theorem D_Mo_move_23 : xd m_Mo_move 23 (.return_) 1 24 := ⟨by decide +kernel, rfl⟩
theorem D_Mo_move_24 : xd m_Mo_move 24 (.aload_n 0) 1 25 := ⟨by decide +kernel, rfl⟩
theorem D_Mo_move_25 : xd m_Mo_move 25 (.getfield 94) 3 28 := ⟨by decide +kernel, rfl⟩
theorem D_Mo_move_28 : xd m_Mo_move 28 (.iload 4) 2 30 := ⟨by decide +kernel, rfl⟩
theorem D_Mo_move_30 : xd m_Mo_move 30 (.iaload) 1 31 := ⟨by decide +kernel, rfl⟩
theorem D_Mo_move_31 : xd m_Mo_move 31 (.iload 5) 2 33 := ⟨by decide +kernel, rfl⟩
theorem D_Mo_move_33 : xd m_Mo_move 33 (.if_icmp .ne 13) 3 36 := ⟨by decide +kernel, rfl⟩
theorem D_Mo_move_36 : xd m_Mo_move 36 (.aload_n 0) 1 37 := ⟨by decide +kernel, rfl⟩
theorem D_Mo_move_37 : xd m_Mo_move 37 (.iload_n 3) 1 38 := ⟨by decide +kernel, rfl⟩
theorem D_Mo_move_38 : xd m_Mo_move 38 (.iconst 4) 1 39 := ⟨by decide +kernel, rfl⟩
theorem D_Mo_move_39 : xd m_Mo_move 39 (.iadd) 1 40 := ⟨by decide +kernel, rfl⟩
theorem D_Mo_move_40 : xd m_Mo_move 40 (.invokevirtual 150) 3 43 := ⟨by decide +kernel, rfl⟩
theorem D_Mo_move_43 : xd m_Mo_move 43 (.goto 179) 3 46 := ⟨by decide +kernel, rfl⟩
theorem D_Mo_move_46 : xd m_Mo_move 46 (.aload_n 0) 1 47 := ⟨by decide +kernel, rfl⟩
theorem D_Mo_move_47 : xd m_Mo_move 47 (.getfield 94) 3 50 := ⟨by decide +kernel, rfl⟩
theorem D_Mo_move_50 : xd m_Mo_move 50 (.iload 6) 2 52 := ⟨by decide +kernel, rfl⟩
theorem D_Mo_move_52 : xd m_Mo_move 52 (.iaload) 1 53 := ⟨by decide +kernel, rfl⟩
theorem D_Mo_move_53 : xd m_Mo_move 53 (.iload 5) 2 55 := ⟨by decide +kernel, rfl⟩
theorem D_Mo_move_55 : xd m_Mo_move 55 (.if_icmp .ne 14) 3 58 := ⟨by decide +kernel, rfl⟩
theorem D_Mo_move_58 : xd m_Mo_move 58 (.aload_n 0) 1 59 := ⟨by decide +kernel, rfl⟩
theorem D_Mo_move_59 : xd m_Mo_move 59 (.iload_n 3) 1 60 := ⟨by decide +kernel, rfl⟩
theorem D_Mo_move_60 : xd m_Mo_move 60 (.bipush 9) 2 62 := ⟨by decide +kernel, rfl⟩
theorem D_Mo_move_62 : xd m_Mo_move 62 (.iadd) 1 63 := ⟨by decide +kernel, rfl⟩
theorem D_Mo_move_63 : xd m_Mo_move 63 (.invokevirtual 150) 3 66 := ⟨by decide +kernel, rfl⟩
theorem D_Mo_move_66 : xd m_Mo_move 66 (.goto 156) 3 69 := ⟨by decide +kernel, rfl⟩
theorem D_Mo_move_69 : xd m_Mo_move 69 (.aload_n 0) 1 70 := ⟨by decide +kernel, rfl⟩
theorem D_Mo_move_70 : xd m_Mo_move 70 (.aload_n 1) 1 71 := ⟨by decide +kernel, rfl⟩
theorem D_Mo_move_71 : xd m_Mo_move 71 (.iload_n 2) 1 72 := ⟨by decide +kernel, rfl⟩
theorem D_Mo_move_72 : xd m_Mo_move 72 (.iload 5) 2 74 := ⟨by decide +kernel, rfl⟩
theorem D_Mo_move_74 : xd m_Mo_move 74 (.invokevirtual 169) 3 77 := ⟨by decide +kernel, rfl⟩
theorem D_Mo_move_77 : xd m_Mo_move 77 (.ifCond .eq 59) 3 80 := ⟨by decide +kernel, rfl⟩
theorem D_Mo_move_80 : xd m_Mo_move 80 (.aload_n 0) 1 81 := ⟨by decide +kernel, rfl⟩
theorem D_Mo_move_81 : xd m_Mo_move 81 (.getfield 94) 3 84 := ⟨by decide +kernel, rfl⟩
theorem D_Mo_move_84 : xd m_Mo_move 84 (.iload 4) 2 86 := ⟨by decide +kernel, rfl⟩
theorem D_Mo_move_86 : xd m_Mo_move 86 (.iaload) 1 87 := ⟨by decide +kernel, rfl⟩
theorem D_Mo_move_87 : xd m_Mo_move 87 (.ifCond .eq 19) 3 90 := ⟨by decide +kernel, rfl⟩
theorem D_Mo_move_90 : xd m_Mo_move 90 (.aload_n 0) 1 91 := ⟨by decide +kernel, rfl⟩
theorem D_Mo_move_91 : xd m_Mo_move 91 (.aload_n 1) 1 92 := ⟨by decide +kernel, rfl⟩
theorem D_Mo_move_92 : xd m_Mo_move 92 (.iload_n 2) 1 93 := ⟨by decide +kernel, rfl⟩
theorem D_Mo_move_93 : xd m_Mo_move 93 (.aload_n 0) 1 94 := ⟨by decide +kernel, rfl⟩
theorem D_Mo_move_94 : xd m_Mo_move 94 (.getfield 94) 3 97 := ⟨by decide +kernel, rfl⟩
theorem D_Mo_move_97 : xd m_Mo_move 97 (.iload 4) 2 99 := ⟨by decide +kernel, rfl⟩
theorem D_Mo_move_99 : xd m_Mo_move 99 (.iaload) 1 100 := ⟨by decide +kernel, rfl⟩
theorem D_Mo_move_100 : xd m_Mo_move 100 (.invokevirtual 169) 3 103 := ⟨by decide +kernel, rfl⟩
theorem D_Mo_move_103 : xd m_Mo_move 103 (.ifCond .ne 33) 3 106 := ⟨by decide +kernel, rfl⟩
theorem D_Mo_move_106 : xd m_Mo_move 106 (.aload_n 0) 1 107 := ⟨by decide +kernel, rfl⟩
theorem D_Mo_move_107 : xd m_Mo_move 107 (.iload_n 3) 1 108 := ⟨by decide +kernel, rfl⟩
theorem D_Mo_move_108 : xd m_Mo_move 108 (.iconst 4) 1 109 := ⟨by decide +kernel, rfl⟩
theorem D_Mo_move_109 : xd m_Mo_move 109 (.iadd) 1 110 := ⟨by decide +kernel, rfl⟩
theorem D_Mo_move_110 : xd m_Mo_move 110 (.iload 7) 2 112 := ⟨by decide +kernel, rfl⟩
theorem D_Mo_move_112 : xd m_Mo_move 112 (.iadd) 1 113 := ⟨by decide +kernel, rfl⟩
theorem D_Mo_move_113 : xd m_Mo_move 113 (.invokevirtual 150) 3 116 := ⟨by decide +kernel, rfl⟩
theorem D_Mo_move_116 : xd m_Mo_move 116 (.aload_n 0) 1 117 := ⟨by decide +kernel, rfl⟩
theorem D_Mo_move_117 : xd m_Mo_move 117 (.iload 5) 2 119 := ⟨by decide +kernel, rfl⟩
theorem D_Mo_move_119 : xd m_Mo_move 119 (.iload 7) 2 121 := ⟨by decide +kernel, rfl⟩
theorem D_Mo_move_121 : xd m_Mo_move 121 (.invokevirtual 173) 3 124 := ⟨by decide +kernel, rfl⟩
theorem D_Mo_move_124 : xd m_Mo_move 124 (.aload_n 0) 1 125 := ⟨by decide +kernel, rfl⟩
theorem D_Mo_move_125 : xd m_Mo_move 125 (.getfield 94) 3 128 := ⟨by decide +kernel, rfl⟩
theorem D_Mo_move_128 : xd m_Mo_move 128 (.iload 4) 2 130 := ⟨by decide +kernel, rfl⟩
theorem D_Mo_move_130 : xd m_Mo_move 130 (.iload 5) 2 132 := ⟨by decide +kernel, rfl⟩
theorem D_Mo_move_132 : xd m_Mo_move 132 (.iastore) 1 133 := ⟨by decide +kernel, rfl⟩
theorem D_Mo_move_133 : xd m_Mo_move 133 (.goto 89) 3 136 := ⟨by decide +kernel, rfl⟩
theorem D_Mo_move_136 : xd m_Mo_move 136 (.aload_n 0) 1 137 := ⟨by decide +kernel, rfl⟩
theorem D_Mo_move_137 : xd m_Mo_move 137 (.aload_n 1) 1 138 := ⟨by decide +kernel, rfl⟩
theorem D_Mo_move_138 : xd m_Mo_move 138 (.iload_n 2) 1 139 := ⟨by decide +kernel, rfl⟩
theorem D_Mo_move_139 : xd m_Mo_move 139 (.iload 5) 2 141 := ⟨by decide +kernel, rfl⟩
theorem D_Mo_move_141 : xd m_Mo_move 141 (.invokevirtual 169) 3 144 := ⟨by decide +kernel, rfl⟩
theorem D_Mo_move_144 : xd m_Mo_move 144 (.ifCond .eq 60) 3 147 := ⟨by decide +kernel, rfl⟩
theorem D_Mo_move_147 : xd m_Mo_move 147 (.aload_n 0) 1 148 := ⟨by decide +kernel, rfl⟩
theorem D_Mo_move_148 : xd m_Mo_move 148 (.getfield 94) 3 151 := ⟨by decide +kernel, rfl⟩
theorem D_Mo_move_151 : xd m_Mo_move 151 (.iload 6) 2 153 := ⟨by decide +kernel, rfl⟩
theorem D_Mo_move_153 : xd m_Mo_move 153 (.iaload) 1 154 := ⟨by decide +kernel, rfl⟩
theorem D_Mo_move_154 : xd m_Mo_move 154 (.ifCond .eq 19) 3 157 := ⟨by decide +kernel, rfl⟩
theorem D_Mo_move_157 : xd m_Mo_move 157 (.aload_n 0) 1 158 := ⟨by decide +kernel, rfl⟩
theorem D_Mo_move_158 : xd m_Mo_move 158 (.aload_n 1) 1 159 := ⟨by decide +kernel, rfl⟩
theorem D_Mo_move_159 : xd m_Mo_move 159 (.iload_n 2) 1 160 := ⟨by decide +kernel, rfl⟩
theorem D_Mo_move_160 : xd m_Mo_move 160 (.aload_n 0) 1 161 := ⟨by decide +kernel, rfl⟩
theorem D_Mo_move_161 : xd m_Mo_move 161 (.getfield 94) 3 164 := ⟨by decide +kernel, rfl⟩
theorem D_Mo_move_164 : xd m_Mo_move 164 (.iload 6) 2 166 := ⟨by decide +kernel, rfl⟩
theorem D_Mo_move_166 : xd m_Mo_move 166 (.iaload) 1 167 := ⟨by decide +kernel, rfl⟩
theorem D_Mo_move_167 : xd m_Mo_move 167 (.invokevirtual 169) 3 170 := ⟨by decide +kernel, rfl⟩
theorem D_Mo_move_170 : xd m_Mo_move 170 (.ifCond .ne 34) 3 173 := ⟨by decide +kernel, rfl⟩
theorem D_Mo_move_173 : xd m_Mo_move 173 (.aload_n 0) 1 174 := ⟨by decide +kernel, rfl⟩
theorem D_Mo_move_174 : xd m_Mo_move 174 (.iload_n 3) 1 175 := ⟨by decide +kernel, rfl⟩
theorem D_Mo_move_175 : xd m_Mo_move 175 (.bipush 9) 2 177 := ⟨by decide +kernel, rfl⟩
theorem D_Mo_move_177 : xd m_Mo_move 177 (.iadd) 1 178 := ⟨by decide +kernel, rfl⟩
theorem D_Mo_move_178 : xd m_Mo_move 178 (.iload 7) 2 180 := ⟨by decide +kernel, rfl⟩
theorem D_Mo_move_180 : xd m_Mo_move 180 (.iadd) 1 181 := ⟨by decide +kernel, rfl⟩
theorem D_Mo_move_181 : xd m_Mo_move 181 (.invokevirtual 150) 3 184 := ⟨by decide +kernel, rfl⟩
theorem D_Mo_move_184 : xd m_Mo_move 184 (.aload_n 0) 1 185 := ⟨by decide +kernel, rfl⟩
theorem D_Mo_move_185 : xd m_Mo_move 185 (.iload 5) 2 187 := ⟨by decide +kernel, rfl⟩
theorem D_Mo_move_187 : xd m_Mo_move 187 (.iload 7) 2 189 := ⟨by decide +kernel, rfl⟩
theorem D_Mo_move_189 : xd m_Mo_move 189 (.invokevirtual 173) 3 192 := ⟨by decide +kernel, rfl⟩
theorem D_Mo_move_192 : xd m_Mo_move 192 (.aload_n 0) 1 193 := ⟨by decide +kernel, rfl⟩
theorem D_Mo_move_193 : xd m_Mo_move 193 (.getfield 94) 3 196 := ⟨by decide +kernel, rfl⟩
theorem D_Mo_move_196 : xd m_Mo_move 196 (.iload 6) 2 198 := ⟨by decide +kernel, rfl⟩
theorem D_Mo_move_198 : xd m_Mo_move 198 (.iload 5) 2 200 := ⟨by decide +kernel, rfl⟩
theorem D_Mo_move_200 : xd m_Mo_move 200 (.iastore) 1 201 := ⟨by decide +kernel, rfl⟩
theorem D_Mo_move_201 : xd m_Mo_move 201 (.goto 21) 3 204 := ⟨by decide +kernel, rfl⟩
theorem D_Mo_move_204 : xd m_Mo_move 204 (.aload_n 0) 1 205 := ⟨by decide +kernel, rfl⟩
theorem D_Mo_move_205 : xd m_Mo_move 205 (.iload_n 3) 1 206 := ⟨by decide +kernel, rfl⟩
theorem D_Mo_move_206 : xd m_Mo_move 206 (.iload 7) 2 208 := ⟨by decide +kernel, rfl⟩
theorem D_Mo_move_208 : xd m_Mo_move 208 (.iadd) 1 209 := ⟨by decide +kernel, rfl⟩
theorem D_Mo_move_209 : xd m_Mo_move 209 (.iconst 1) 1 210 := ⟨by decide +kernel, rfl⟩
theorem D_Mo_move_210 : xd m_Mo_move 210 (.isub) 1 211 := ⟨by decide +kernel, rfl⟩
theorem D_Mo_move_211 : xd m_Mo_move 211 (.invokevirtual 150) 3 214 := ⟨by decide +kernel, rfl⟩
theorem D_Mo_move_214 : xd m_Mo_move 214 (.aload_n 0) 1 215 := ⟨by decide +kernel, rfl⟩
theorem D_Mo_move_215 : xd m_Mo_move 215 (.iload 5) 2 217 := ⟨by decide +kernel, rfl⟩
theorem D_Mo_move_217 : xd m_Mo_move 217 (.iload 7) 2 219 := ⟨by decide +kernel, rfl⟩
theorem D_Mo_move_219 : xd m_Mo_move 219 (.invokevirtual 173) 3 222 := ⟨by decide +kernel, rfl⟩
theorem D_Mo_move_222 : xd m_Mo_move 222 (.return_) 1 223 := ⟨by decide +kernel, rfl⟩
theorem D_Mo_define_0 : xd m_Mo_define 0 (.aload_n 0) 1 1 := ⟨by decide +kernel, rfl⟩
theorem D_Mo_define_1 : xd m_Mo_define 1 (.sipush 243) 3 4 := ⟨by decide +kernel, rfl⟩
theorem D_Mo_define_4 : xd m_Mo_define 4 (.invokevirtual 150) 3 7 := ⟨by decide +kernel, rfl⟩
theorem D_Mo_define_7 : xd m_Mo_define 7 (.aload_n 0) 1 8 := ⟨by decide +kernel, rfl⟩
theorem D_Mo_define_8 : xd m_Mo_define 8 (.iload_n 1) 1 9 := ⟨by decide +kernel, rfl⟩
theorem D_Mo_define_9 : xd m_Mo_define 9 (.invokevirtual 150) 3 12 := ⟨by decide +kernel, rfl⟩
theorem D_Mo_define_12 : xd m_Mo_define 12 (.aload_n 0) 1 13 := ⟨by decide +kernel, rfl⟩
theorem D_Mo_define_13 : xd m_Mo_define 13 (.aload_n 0) 1 14 := ⟨by decide +kernel, rfl⟩
theorem D_Mo_define_14 : xd m_Mo_define 14 (.getfield 13) 3 17 := ⟨by decide +kernel, rfl⟩
theorem D_Mo_define_17 : xd m_Mo_define 17 (.iload_n 1) 1 18 := ⟨by decide +kernel, rfl⟩
theorem D_Mo_define_18 : xd m_Mo_define 18 (.iaload) 1 19 := ⟨by decide +kernel, rfl⟩
theorem D_Mo_define_19 : xd m_Mo_define 19 (.iconst 4) 1 20 := ⟨by decide +kernel, rfl⟩
theorem D_Mo_define_20 : xd m_Mo_define 20 (.invokevirtual 173) 3 23 := ⟨by decide +kernel, rfl⟩
theorem D_Mo_define_23 : xd m_Mo_define 23 (.aload_n 0) 1 24 := ⟨by decide +kernel, rfl⟩
theorem D_Mo_define_24 : xd m_Mo_define 24 (.aload_n 0) 1 25 := ⟨by decide +kernel, rfl⟩
theorem D_Mo_define_25 : xd m_Mo_define 25 (.getfield 17) 3 28 := ⟨by decide +kernel, rfl⟩
theorem D_Mo_define_28 : xd m_Mo_define 28 (.iload_n 1) 1 29 := ⟨by decide +kernel, rfl⟩
theorem D_Mo_define_29 : xd m_Mo_define 29 (.iaload) 1 30 := ⟨by decide +kernel, rfl⟩
theorem D_Mo_define_30 : xd m_Mo_define 30 (.iconst 4) 1 31 := ⟨by decide +kernel, rfl⟩
theorem D_Mo_define_31 : xd m_Mo_define 31 (.invokevirtual 173) 3 34 := ⟨by decide +kernel, rfl⟩
theorem D_Mo_define_34 : xd m_Mo_define 34 (.aload_n 0) 1 35 := ⟨by decide +kernel, rfl⟩
theorem D_Mo_define_35 : xd m_Mo_define 35 (.aload_n 0) 1 36 := ⟨by decide +kernel, rfl⟩
theorem D_Mo_define_36 : xd m_Mo_define 36 (.getfield 20) 3 39 := ⟨by decide +kernel, rfl⟩
theorem D_Mo_define_39 : xd m_Mo_define 39 (.iload_n 1) 1 40 := ⟨by decide +kernel, rfl⟩
theorem D_Mo_define_40 : xd m_Mo_define 40 (.iaload) 1 41 := ⟨by decide +kernel, rfl⟩
theorem D_Mo_define_41 : xd m_Mo_define 41 (.iconst 4) 1 42 := ⟨by decide +kernel, rfl⟩
theorem D_Mo_define_42 : xd m_Mo_define 42 (.invokevirtual 173) 3 45 := ⟨by decide +kernel, rfl⟩
theorem D_Mo_define_45 : xd m_Mo_define 45 (.aload_n 0) 1 46 := ⟨by decide +kernel, rfl⟩
theorem D_Mo_define_46 : xd m_Mo_define 46 (.iconst 0) 1 47 := ⟨by decide +kernel, rfl⟩
theorem D_Mo_define_47 : xd m_Mo_define 47 (.invokevirtual 150) 3 50 := ⟨by decide +kernel, rfl⟩
theorem D_Mo_define_50 : xd m_Mo_define 50 (.aload_n 0) 1 51 := ⟨by decide +kernel, rfl⟩
theorem D_Mo_define_51 : xd m_Mo_define 51 (.aload_n 0) 1 52 := ⟨by decide +kernel, rfl⟩
theorem D_Mo_define_52 : xd m_Mo_define 52 (.getfield 23) 3 55 := ⟨by decide +kernel, rfl⟩
theorem D_Mo_define_55 : xd m_Mo_define 55 (.iload_n 1) 1 56 := ⟨by decide +kernel, rfl⟩
theorem D_Mo_define_56 : xd m_Mo_define 56 (.iaload) 1 57 := ⟨by decide +kernel, rfl⟩
theorem D_Mo_define_57 : xd m_Mo_define 57 (.invokevirtual 150) 3 60 := ⟨by decide +kernel, rfl⟩
theorem D_Mo_define_60 : xd m_Mo_define 60 (.iconst 0) 1 61 := ⟨by decide +kernel, rfl⟩
theorem D_Mo_define_61 : xd m_Mo_define 61 (.istore_n 2) 1 62 := ⟨by decide +kernel, rfl⟩
theorem D_Mo_define_62 : xd m_Mo_define 62 (.iload_n 2) 1 63 := ⟨by decide +kernel, rfl⟩
theorem D_Mo_define_63 : xd m_Mo_define 63 (.aload_n 0) 1 64 := ⟨by decide +kernel, rfl⟩
theorem D_Mo_define_64 : xd m_Mo_define 64 (.getfield 23) 3 67 := ⟨by decide +kernel, rfl⟩
theorem D_Mo_define_67 : xd m_Mo_define 67 (.iload_n 1) 1 68 := ⟨by decide +kernel, rfl⟩
theorem D_Mo_define_68 : xd m_Mo_define 68 (.iaload) 1 69 := ⟨by decide +kernel, rfl⟩
theorem D_Mo_define_69 : xd m_Mo_define 69 (.if_icmp .ge 24) 3 72 := ⟨by decide +kernel, rfl⟩
theorem D_Mo_define_72 : xd m_Mo_define 72 (.aload_n 0) 1 73 := ⟨by decide +kernel, rfl⟩
theorem D_Mo_define_73 : xd m_Mo_define 73 (.aload_n 0) 1 74 := ⟨by decide +kernel, rfl⟩
theorem D_Mo_define_74 : xd m_Mo_define 74 (.getfield 26) 3 77 := ⟨by decide +kernel, rfl⟩
theorem D_Mo_define_77 : xd m_Mo_define 77 (.bipush 16) 2 79 := ⟨by decide +kernel, rfl⟩
theorem D_Mo_define_79 : xd m_Mo_define 79 (.iload_n 1) 1 80 := ⟨by decide +kernel, rfl⟩
theorem D_Mo_define_80 : xd m_Mo_define 80 (.imul) 1 81 := ⟨by decide +kernel, rfl⟩
theorem D_Mo_define_81 : xd m_Mo_define 81 (.iload_n 2) 1 82 := ⟨by decide +kernel, rfl⟩
theorem D_Mo_define_82 : xd m_Mo_define 82 (.iadd) 1 83 := ⟨by decide +kernel, rfl⟩
theorem D_Mo_define_83 : xd m_Mo_define 83 (.baload) 1 84 := ⟨by decide +kernel, rfl⟩
theorem D_Mo_define_84 : xd m_Mo_define 84 (.invokevirtual 150) 3 87 := ⟨by decide +kernel, rfl⟩
theorem D_Mo_define_87 : xd m_Mo_define 87 (.iinc 2 1) 3 90 := ⟨by decide +kernel, rfl⟩
theorem D_Mo_define_90 : xd m_Mo_define 90 (.goto (-28)) 3 93 := ⟨by decide +kernel, rfl⟩
theorem D_Mo_define_93 : xd m_Mo_define 93 (.return_) 1 94 := ⟨by decide +kernel, rfl⟩
theorem D_Mo_open_0 : xd m_Mo_open 0 (.aload_n 0) 1 1 := ⟨by decide +kernel, rfl⟩
theorem D_Mo_open_1 : xd m_Mo_open 1 (.getfield 116) 3 4 := ⟨by decide +kernel, rfl⟩
theorem D_Mo_open_4 : xd m_Mo_open 4 (.ifCond .ne 69) 3 7 := ⟨by decide +kernel, rfl⟩
theorem D_Mo_open_7 : xd m_Mo_open 7 (.aload_n 0) 1 8 := ⟨by decide +kernel, rfl⟩
theorem D_Mo_open_8 : xd m_Mo_open 8 (.sipush 247) 3 11 := ⟨by decide +kernel, rfl⟩
theorem D_Mo_open_11 : xd m_Mo_open 11 (.invokevirtual 150) 3 14 := ⟨by decide +kernel, rfl⟩
theorem D_Mo_open_14 : xd m_Mo_open 14 (.aload_n 0) 1 15 := ⟨by decide +kernel, rfl⟩
theorem D_Mo_open_15 : xd m_Mo_open 15 (.iconst 2) 1 16 := ⟨by decide +kernel, rfl⟩
theorem D_Mo_open_16 : xd m_Mo_open 16 (.invokevirtual 150) 3 19 := ⟨by decide +kernel, rfl⟩
theorem D_Mo_open_19 : xd m_Mo_open 19 (.aload_n 0) 1 20 := ⟨by decide +kernel, rfl⟩
theorem D_Mo_open_20 : xd m_Mo_open 20 (.ldc 177) 2 22 := ⟨by decide +kernel, rfl⟩
theorem D_Mo_open_22 : xd m_Mo_open 22 (.iconst 4) 1 23 := ⟨by decide +kernel, rfl⟩
theorem D_Mo_open_23 : xd m_Mo_open 23 (.invokevirtual 173) 3 26 := ⟨by decide +kernel, rfl⟩
theorem D_Mo_open_26 : xd m_Mo_open 26 (.aload_n 0) 1 27 := ⟨by decide +kernel, rfl⟩
theorem D_Mo_open_27 : xd m_Mo_open 27 (.ldc 178) 2 29 := ⟨by decide +kernel, rfl⟩
theorem D_Mo_open_29 : xd m_Mo_open 29 (.iconst 4) 1 30 := ⟨by decide +kernel, rfl⟩
theorem D_Mo_open_30 : xd m_Mo_open 30 (.invokevirtual 173) 3 33 := ⟨by decide +kernel, rfl⟩
theorem D_Mo_open_33 : xd m_Mo_open 33 (.aload_n 0) 1 34 := ⟨by decide +kernel, rfl⟩
theorem D_Mo_open_34 : xd m_Mo_open 34 (.sipush 1000) 3 37 := ⟨by decide +kernel, rfl⟩
theorem D_Mo_open_37 : xd m_Mo_open 37 (.iconst 4) 1 38 := ⟨by decide +kernel, rfl⟩
theorem D_Mo_open_38 : xd m_Mo_open 38 (.invokevirtual 173) 3 41 := ⟨by decide +kernel, rfl⟩
theorem D_Mo_open_41 : xd m_Mo_open 41 (.aload_n 0) 1 42 := ⟨by decide +kernel, rfl⟩
theorem D_Mo_open_42 : xd m_Mo_open 42 (.aload_n 0) 1 43 := ⟨by decide +kernel, rfl⟩
theorem D_Mo_open_43 : xd m_Mo_open 43 (.getfield 122) 3 46 := ⟨by decide +kernel, rfl⟩
theorem D_Mo_open_46 : xd m_Mo_open 46 (.invokevirtual 150) 3 49 := ⟨by decide +kernel, rfl⟩
theorem D_Mo_open_49 : xd m_Mo_open 49 (.iconst 0) 1 50 := ⟨by decide +kernel, rfl⟩
theorem D_Mo_open_50 : xd m_Mo_open 50 (.istore_n 1) 1 51 := ⟨by decide +kernel, rfl⟩
theorem D_Mo_open_51 : xd m_Mo_open 51 (.iload_n 1) 1 52 := ⟨by decide +kernel, rfl⟩
theorem D_Mo_open_52 : xd m_Mo_open 52 (.aload_n 0) 1 53 := ⟨by decide +kernel, rfl⟩
theorem D_Mo_open_53 : xd m_Mo_open 53 (.getfield 122) 3 56 := ⟨by decide +kernel, rfl⟩
theorem D_Mo_open_56 : xd m_Mo_open 56 (.if_icmp .ge 17) 3 59 := ⟨by decide +kernel, rfl⟩
theorem D_Mo_open_59 : xd m_Mo_open 59 (.aload_n 0) 1 60 := ⟨by decide +kernel, rfl⟩
theorem D_Mo_open_60 : xd m_Mo_open 60 (.aload_n 0) 1 61 := ⟨by decide +kernel, rfl⟩
theorem D_Mo_open_61 : xd m_Mo_open 61 (.getfield 125) 3 64 := ⟨by decide +kernel, rfl⟩
theorem D_Mo_open_64 : xd m_Mo_open 64 (.invokevirtual 150) 3 67 := ⟨by decide +kernel, rfl⟩
theorem D_Mo_open_67 : xd m_Mo_open 67 (.iinc 1 1) 3 70 := ⟨by decide +kernel, rfl⟩
theorem D_Mo_open_70 : xd m_Mo_open 70 (.goto (-19)) 3 73 := ⟨by decide +kernel, rfl⟩
theorem D_Mo_open_73 : xd m_Mo_open 73 (.return_) 1 74 := ⟨by decide +kernel, rfl⟩
theorem D_Mo_writePage_0 : xd m_Mo_writePage 0 (.aload_n 0) 1 1 := ⟨by decide +kernel, rfl⟩
theorem D_Mo_writePage_1 : xd m_Mo_writePage 1 (.invokevirtual 179) 3 4 := ⟨by decide +kernel, rfl⟩
theorem D_Mo_writePage_4 : xd m_Mo_writePage 4 (.aload_n 0) 1 5 := ⟨by decide +kernel, rfl⟩
theorem D_Mo_writePage_5 : xd m_Mo_writePage 5 (.getfield 116) 3 8 := ⟨by decide +kernel, rfl⟩
theorem D_Mo_writePage_8 : xd m_Mo_writePage 8 (.istore_n 1) 1 9 := ⟨by decide +kernel, rfl⟩
theorem D_Mo_writePage_9 : xd m_Mo_writePage 9 (.aload_n 0) 1 10 := ⟨by decide +kernel, rfl⟩
theorem D_Mo_writePage_10 : xd m_Mo_writePage 10 (.sipush 139) 3 13 := ⟨by decide +kernel, rfl⟩
theorem D_Mo_writePage_13 : xd m_Mo_writePage 13 (.invokevirtual 150) 3 16 := ⟨by decide +kernel, rfl⟩
theorem D_Mo_writePage_16 : xd m_Mo_writePage 16 (.iconst 0) 1 17 := ⟨by decide +kernel, rfl⟩
theorem D_Mo_writePage_17 : xd m_Mo_writePage 17 (.istore_n 2) 1 18 := ⟨by decide +kernel, rfl⟩
theorem D_Mo_writePage_18 : xd m_Mo_writePage 18 (.iload_n 2) 1 19 := ⟨by decide +kernel, rfl⟩
theorem D_Mo_writePage_19 : xd m_Mo_writePage 19 (.bipush 10) 2 21 := ⟨by decide +kernel, rfl⟩
theorem D_Mo_writePage_21 : xd m_Mo_writePage 21 (.if_icmp .ge 20) 3 24 := ⟨by decide +kernel, rfl⟩
theorem D_Mo_writePage_24 : xd m_Mo_writePage 24 (.aload_n 0) 1 25 := ⟨by decide +kernel, rfl⟩
theorem D_Mo_writePage_25 : xd m_Mo_writePage 25 (.aload_n 0) 1 26 := ⟨by decide +kernel, rfl⟩
theorem D_Mo_writePage_26 : xd m_Mo_writePage 26 (.getfield 34) 3 29 := ⟨by decide +kernel, rfl⟩
theorem D_Mo_writePage_29 : xd m_Mo_writePage 29 (.iload_n 2) 1 30 := ⟨by decide +kernel, rfl⟩
theorem D_Mo_writePage_30 : xd m_Mo_writePage 30 (.iaload) 1 31 := ⟨by decide +kernel, rfl⟩
theorem D_Mo_writePage_31 : xd m_Mo_writePage 31 (.iconst 4) 1 32 := ⟨by decide +kernel, rfl⟩
theorem D_Mo_writePage_32 : xd m_Mo_writePage 32 (.invokevirtual 173) 3 35 := ⟨by decide +kernel, rfl⟩
theorem D_Mo_writePage_35 : xd m_Mo_writePage 35 (.iinc 2 1) 3 38 := ⟨by decide +kernel, rfl⟩
theorem D_Mo_writePage_38 : xd m_Mo_writePage 38 (.goto (-20)) 3 41 := ⟨by decide +kernel, rfl⟩
theorem D_Mo_writePage_41 : xd m_Mo_writePage 41 (.aload_n 0) 1 42 := ⟨by decide +kernel, rfl⟩
theorem D_Mo_writePage_42 : xd m_Mo_writePage 42 (.aload_n 0) 1 43 := ⟨by decide +kernel, rfl⟩
theorem D_Mo_writePage_43 : xd m_Mo_writePage 43 (.getfield 41) 3 46 := ⟨by decide +kernel, rfl⟩
theorem D_Mo_writePage_46 : xd m_Mo_writePage 46 (.iconst 4) 1 47 := ⟨by decide +kernel, rfl⟩
theorem D_Mo_writePage_47 : xd m_Mo_writePage 47 (.invokevirtual 173) 3 50 := ⟨by decide +kernel, rfl⟩
theorem D_Mo_writePage_50 : xd m_Mo_writePage 50 (.aload_n 0) 1 51 := ⟨by decide +kernel, rfl⟩
theorem D_Mo_writePage_51 : xd m_Mo_writePage 51 (.iload_n 1) 1 52 := ⟨by decide +kernel, rfl⟩
theorem D_Mo_writePage_52 : xd m_Mo_writePage 52 (.putfield 41) 3 55 := ⟨by decide +kernel, rfl⟩
theorem D_Mo_writePage_55 : xd m_Mo_writePage 55 (.aload_n 0) 1 56 := ⟨by decide +kernel, rfl⟩
theorem D_Mo_writePage_56 : xd m_Mo_writePage 56 (.sipush 141) 3 59 := ⟨by decide +kernel, rfl⟩
theorem D_Mo_writePage_59 : xd m_Mo_writePage 59 (.invokevirtual 150) 3 62 := ⟨by decide +kernel, rfl⟩
theorem D_Mo_writePage_62 : xd m_Mo_writePage 62 (.iconst 0) 1 63 := ⟨by decide +kernel, rfl⟩
theorem D_Mo_writePage_63 : xd m_Mo_writePage 63 (.istore_n 2) 1 64 := ⟨by decide +kernel, rfl⟩
theorem D_Mo_writePage_64 : xd m_Mo_writePage 64 (.iload_n 2) 1 65 := ⟨by decide +kernel, rfl⟩
theorem D_Mo_writePage_65 : xd m_Mo_writePage 65 (.bipush 6) 2 67 := ⟨by decide +kernel, rfl⟩
theorem D_Mo_writePage_67 : xd m_Mo_writePage 67 (.if_icmp .ge 16) 3 70 := ⟨by decide +kernel, rfl⟩
theorem D_Mo_writePage_70 : xd m_Mo_writePage 70 (.aload_n 0) 1 71 := ⟨by decide +kernel, rfl⟩
theorem D_Mo_writePage_71 : xd m_Mo_writePage 71 (.getfield 94) 3 74 := ⟨by decide +kernel, rfl⟩
theorem D_Mo_writePage_74 : xd m_Mo_writePage 74 (.iload_n 2) 1 75 := ⟨by decide +kernel, rfl⟩
theorem D_Mo_writePage_75 : xd m_Mo_writePage 75 (.iconst 0) 1 76 := ⟨by decide +kernel, rfl⟩
theorem D_Mo_writePage_76 : xd m_Mo_writePage 76 (.iastore) 1 77 := ⟨by decide +kernel, rfl⟩
theorem D_Mo_writePage_77 : xd m_Mo_writePage 77 (.iinc 2 1) 3 80 := ⟨by decide +kernel, rfl⟩
theorem D_Mo_writePage_80 : xd m_Mo_writePage 80 (.goto (-16)) 3 83 := ⟨by decide +kernel, rfl⟩
theorem D_Mo_writePage_83 : xd m_Mo_writePage 83 (.iconst (-1)) 1 84 := ⟨by decide +kernel, rfl⟩
theorem D_Mo_writePage_84 : xd m_Mo_writePage 84 (.istore_n 2) 1 85 := ⟨by decide +kernel, rfl⟩
theorem D_Mo_writePage_85 : xd m_Mo_writePage 85 (.iconst 0) 1 86 := ⟨by decide +kernel, rfl⟩
theorem D_Mo_writePage_86 : xd m_Mo_writePage 86 (.istore_n 3) 1 87 := ⟨by decide +kernel, rfl⟩
theorem D_Mo_writePage_87 : xd m_Mo_writePage 87 (.iload_n 3) 1 88 := ⟨by decide +kernel, rfl⟩
theorem D_Mo_writePage_88 : xd m_Mo_writePage 88 (.aload_n 0) 1 89 := ⟨by decide +kernel, rfl⟩
theorem D_Mo_writePage_89 : xd m_Mo_writePage 89 (.getfield 119) 3 92 := ⟨by decide +kernel, rfl⟩
theorem D_Mo_writePage_92 : xd m_Mo_writePage 92 (.if_icmp .ge 189) 3 95 := ⟨by decide +kernel, rfl⟩
theorem D_Mo_writePage_95 : xd m_Mo_writePage 95 (.aload_n 0) 1 96 := ⟨by decide +kernel, rfl⟩
theorem D_Mo_writePage_96 : xd m_Mo_writePage 96 (.aload_n 0) 1 97 := ⟨by decide +kernel, rfl⟩
theorem D_Mo_writePage_97 : xd m_Mo_writePage 97 (.getfield 66) 3 100 := ⟨by decide +kernel, rfl⟩
theorem D_Mo_writePage_100 : xd m_Mo_writePage 100 (.iload_n 3) 1 101 := ⟨by decide +kernel, rfl⟩
theorem D_Mo_writePage_101 : xd m_Mo_writePage 101 (.sipush 157) 3 104 := ⟨by decide +kernel, rfl⟩
theorem D_Mo_writePage_104 : xd m_Mo_writePage 104 (.iconst 4) 1 105 := ⟨by decide +kernel, rfl⟩
theorem D_Mo_writePage_105 : xd m_Mo_writePage 105 (.invokevirtual 182) 3 108 := ⟨by decide +kernel, rfl⟩
theorem D_Mo_writePage_108 : xd m_Mo_writePage 108 (.aload_n 0) 1 109 := ⟨by decide +kernel, rfl⟩
theorem D_Mo_writePage_109 : xd m_Mo_writePage 109 (.aload_n 0) 1 110 := ⟨by decide +kernel, rfl⟩
theorem D_Mo_writePage_110 : xd m_Mo_writePage 110 (.getfield 63) 3 113 := ⟨by decide +kernel, rfl⟩
theorem D_Mo_writePage_113 : xd m_Mo_writePage 113 (.iload_n 3) 1 114 := ⟨by decide +kernel, rfl⟩
theorem D_Mo_writePage_114 : xd m_Mo_writePage 114 (.sipush 143) 3 117 := ⟨by decide +kernel, rfl⟩
theorem D_Mo_writePage_117 : xd m_Mo_writePage 117 (.iconst 2) 1 118 := ⟨by decide +kernel, rfl⟩
theorem D_Mo_writePage_118 : xd m_Mo_writePage 118 (.invokevirtual 182) 3 121 := ⟨by decide +kernel, rfl⟩
theorem D_Mo_writePage_121 : xd m_Mo_writePage 121 (.aload_n 0) 1 122 := ⟨by decide +kernel, rfl⟩
theorem D_Mo_writePage_122 : xd m_Mo_writePage 122 (.getfield 48) 3 125 := ⟨by decide +kernel, rfl⟩
theorem D_Mo_writePage_125 : xd m_Mo_writePage 125 (.iload_n 3) 1 126 := ⟨by decide +kernel, rfl⟩
theorem D_Mo_writePage_126 : xd m_Mo_writePage 126 (.iaload) 1 127 := ⟨by decide +kernel, rfl⟩
theorem D_Mo_writePage_127 : xd m_Mo_writePage 127 (.istore 4) 2 129 := ⟨by decide +kernel, rfl⟩
theorem D_Mo_writePage_129 : xd m_Mo_writePage 129 (.iload 4) 2 131 := ⟨by decide +kernel, rfl⟩
theorem D_Mo_writePage_131 : xd m_Mo_writePage 131 (.ifCond .ge 35) 3 134 := ⟨by decide +kernel, rfl⟩
theorem D_Mo_writePage_134 : xd m_Mo_writePage 134 (.aload_n 0) 1 135 := ⟨by decide +kernel, rfl⟩
theorem D_Mo_writePage_135 : xd m_Mo_writePage 135 (.sipush 137) 3 138 := ⟨by decide +kernel, rfl⟩
theorem D_Mo_writePage_138 : xd m_Mo_writePage 138 (.invokevirtual 150) 3 141 := ⟨by decide +kernel, rfl⟩
theorem D_Mo_writePage_141 : xd m_Mo_writePage 141 (.aload_n 0) 1 142 := ⟨by decide +kernel, rfl⟩
theorem D_Mo_writePage_142 : xd m_Mo_writePage 142 (.aload_n 0) 1 143 := ⟨by decide +kernel, rfl⟩
theorem D_Mo_writePage_143 : xd m_Mo_writePage 143 (.getfield 60) 3 146 := ⟨by decide +kernel, rfl⟩
theorem D_Mo_writePage_146 : xd m_Mo_writePage 146 (.iload_n 3) 1 147 := ⟨by decide +kernel, rfl⟩
theorem D_Mo_writePage_147 : xd m_Mo_writePage 147 (.iaload) 1 148 := ⟨by decide +kernel, rfl⟩
theorem D_Mo_writePage_148 : xd m_Mo_writePage 148 (.iconst 4) 1 149 := ⟨by decide +kernel, rfl⟩
theorem D_Mo_writePage_149 : xd m_Mo_writePage 149 (.invokevirtual 173) 3 152 := ⟨by decide +kernel, rfl⟩
theorem D_Mo_writePage_152 : xd m_Mo_writePage 152 (.aload_n 0) 1 153 := ⟨by decide +kernel, rfl⟩
theorem D_Mo_writePage_153 : xd m_Mo_writePage 153 (.aload_n 0) 1 154 := ⟨by decide +kernel, rfl⟩
theorem D_Mo_writePage_154 : xd m_Mo_writePage 154 (.getfield 51) 3 157 := ⟨by decide +kernel, rfl⟩
theorem D_Mo_writePage_157 : xd m_Mo_writePage 157 (.iload_n 3) 1 158 := ⟨by decide +kernel, rfl⟩
theorem D_Mo_writePage_158 : xd m_Mo_writePage 158 (.iaload) 1 159 := ⟨by decide +kernel, rfl⟩
theorem D_Mo_writePage_159 : xd m_Mo_writePage 159 (.iconst 4) 1 160 := ⟨by decide +kernel, rfl⟩
theorem D_Mo_writePage_160 : xd m_Mo_writePage 160 (.invokevirtual 173) 3 163 := ⟨by decide +kernel, rfl⟩
theorem D_Mo_writePage_163 : xd m_Mo_writePage 163 (.goto 112) 3 166 := ⟨by decide +kernel, rfl⟩
theorem D_Mo_writePage_166 : xd m_Mo_writePage 166 (.iload 4) 2 168 := ⟨by decide +kernel, rfl⟩
theorem D_Mo_writePage_168 : xd m_Mo_writePage 168 (.iload_n 2) 1 169 := ⟨by decide +kernel, rfl⟩
theorem D_Mo_writePage_169 : xd m_Mo_writePage 169 (.if_icmp .eq 78) 3 172 := ⟨by decide +kernel, rfl⟩
theorem D_Mo_writePage_172 : xd m_Mo_writePage 172 (.aload_n 0) 1 173 := ⟨by decide +kernel, rfl⟩
theorem D_Mo_writePage_173 : xd m_Mo_writePage 173 (.iload 4) 2 175 := ⟨by decide +kernel, rfl⟩
theorem D_Mo_writePage_175 : xd m_Mo_writePage 175 (.invokevirtual 113) 3 178 := ⟨by decide +kernel, rfl⟩
theorem D_Mo_writePage_178 : xd m_Mo_writePage 178 (.ifCond .ne 30) 3 181 := ⟨by decide +kernel, rfl⟩
theorem D_Mo_writePage_181 : xd m_Mo_writePage 181 (.aload_n 0) 1 182 := ⟨by decide +kernel, rfl⟩
theorem D_Mo_writePage_182 : xd m_Mo_writePage 182 (.iload 4) 2 184 := ⟨by decide +kernel, rfl⟩
theorem D_Mo_writePage_184 : xd m_Mo_writePage 184 (.invokevirtual 186) 3 187 := ⟨by decide +kernel, rfl⟩
theorem D_Mo_writePage_187 : xd m_Mo_writePage 187 (.aload_n 0) 1 188 := ⟨by decide +kernel, rfl⟩
theorem D_Mo_writePage_188 : xd m_Mo_writePage 188 (.getfield 45) 3 191 := ⟨by decide +kernel, rfl⟩
theorem D_Mo_writePage_191 : xd m_Mo_writePage 191 (.aload_n 0) 1 192 := ⟨by decide +kernel, rfl⟩
theorem D_Mo_writePage_192 : xd m_Mo_writePage 192 (.getfield 100) 3 195 := ⟨by decide +kernel, rfl⟩
theorem D_Mo_writePage_195 : xd m_Mo_writePage 195 (.iload 4) 2 197 := ⟨by decide +kernel, rfl⟩
theorem D_Mo_writePage_197 : xd m_Mo_writePage 197 (.iastore) 1 198 := ⟨by decide +kernel, rfl⟩
theorem D_Mo_writePage_198 : xd m_Mo_writePage 198 (.aload_n 0) 1 199 := ⟨by decide +kernel, rfl⟩
theorem D_Mo_writePage_199 : xd m_Mo_writePage 199 (.dup) 1 200 := ⟨by decide +kernel, rfl⟩
theorem D_Mo_writePage_200 : xd m_Mo_writePage 200 (.getfield 100) 3 203 := ⟨by decide +kernel, rfl⟩
theorem D_Mo_writePage_203 : xd m_Mo_writePage 203 (.iconst 1) 1 204 := ⟨by decide +kernel, rfl⟩
theorem D_Mo_writePage_204 : xd m_Mo_writePage 204 (.iadd) 1 205 := ⟨by decide +kernel, rfl⟩
theorem D_Mo_writePage_205 : xd m_Mo_writePage 205 (.putfield 100) 3 208 := ⟨by decide +kernel, rfl⟩
theorem D_Mo_writePage_208 : xd m_Mo_writePage 208 (.aload_n 0) 1 209 := ⟨by decide +kernel, rfl⟩
theorem D_Mo_writePage_209 : xd m_Mo_writePage 209 (.iload 4) 2 211 := ⟨by decide +kernel, rfl⟩
theorem D_Mo_writePage_211 : xd m_Mo_writePage 211 (.bipush 64) 2 213 := ⟨by decide +kernel, rfl⟩
theorem D_Mo_writePage_213 : xd m_Mo_writePage 213 (.if_icmp .ge 12) 3 216 := ⟨by decide +kernel, rfl⟩
theorem D_Mo_writePage_216 : xd m_Mo_writePage 216 (.sipush 171) 3 219 := ⟨by decide +kernel, rfl⟩
theorem D_Mo_writePage_219 : xd m_Mo_writePage 219 (.iload 4) 2 221 := ⟨by decide +kernel, rfl⟩
theorem D_Mo_writePage_221 : xd m_Mo_writePage 221 (.iadd) 1 222 := ⟨by decide +kernel, rfl⟩
theorem D_Mo_writePage_222 : xd m_Mo_writePage 222 (.goto 6) 3 225 := ⟨by decide +kernel, rfl⟩
theorem D_Mo_writePage_225 : xd m_Mo_writePage 225 (.sipush 235) 3 228 := ⟨by decide +kernel, rfl⟩
theorem D_Mo_writePage_228 : xd m_Mo_writePage 228 (.invokevirtual 150) 3 231 := ⟨by decide +kernel, rfl⟩
theorem D_Mo_writePage_231 : xd m_Mo_writePage 231 (.iload 4) 2 233 := ⟨by decide +kernel, rfl⟩
theorem D_Mo_writePage_233 : xd m_Mo_writePage 233 (.bipush 63) 2 235 := ⟨by decide +kernel, rfl⟩
theorem D_Mo_writePage_235 : xd m_Mo_writePage 235 (.if_icmp .le 9) 3 238 := ⟨by decide +kernel, rfl⟩
theorem D_Mo_writePage_238 : xd m_Mo_writePage 238 (.aload_n 0) 1 239 := ⟨by decide +kernel, rfl⟩
theorem D_Mo_writePage_239 : xd m_Mo_writePage 239 (.iload 4) 2 241 := ⟨by decide +kernel, rfl⟩
theorem D_Mo_writePage_241 : xd m_Mo_writePage 241 (.invokevirtual 150) 3 244 := ⟨by decide +kernel, rfl⟩
theorem D_Mo_writePage_244 : xd m_Mo_writePage 244 (.iload 4) 2 246 := ⟨by decide +kernel, rfl⟩
theorem D_Mo_writePage_246 : xd m_Mo_writePage 246 (.istore_n 2) 1 247 := ⟨by decide +kernel, rfl⟩
theorem D_Mo_writePage_247 : xd m_Mo_writePage 247 (.aload_n 0) 1 248 := ⟨by decide +kernel, rfl⟩
theorem D_Mo_writePage_248 : xd m_Mo_writePage 248 (.getfield 51) 3 251 := ⟨by decide +kernel, rfl⟩
theorem D_Mo_writePage_251 : xd m_Mo_writePage 251 (.iload_n 3) 1 252 := ⟨by decide +kernel, rfl⟩
theorem D_Mo_writePage_252 : xd m_Mo_writePage 252 (.iaload) 1 253 := ⟨by decide +kernel, rfl⟩
theorem D_Mo_writePage_253 : xd m_Mo_writePage 253 (.bipush 127) 2 255 := ⟨by decide +kernel, rfl⟩
theorem D_Mo_writePage_255 : xd m_Mo_writePage 255 (.if_icmp .le 10) 3 258 := ⟨by decide +kernel, rfl⟩
theorem D_Mo_writePage_258 : xd m_Mo_writePage 258 (.aload_n 0) 1 259 := ⟨by decide +kernel, rfl⟩
theorem D_Mo_writePage_259 : xd m_Mo_writePage 259 (.sipush 128) 3 262 := ⟨by decide +kernel, rfl⟩
theorem D_Mo_writePage_262 : xd m_Mo_writePage 262 (.invokevirtual 150) 3 265 := ⟨by decide +kernel, rfl⟩
theorem D_Mo_writePage_265 : xd m_Mo_writePage 265 (.aload_n 0) 1 266 := ⟨by decide +kernel, rfl⟩
theorem D_Mo_writePage_266 : xd m_Mo_writePage 266 (.aload_n 0) 1 267 := ⟨by decide +kernel, rfl⟩
theorem D_Mo_writePage_267 : xd m_Mo_writePage 267 (.getfield 51) 3 270 := ⟨by decide +kernel, rfl⟩
theorem D_Mo_writePage_270 : xd m_Mo_writePage 270 (.iload_n 3) 1 271 := ⟨by decide +kernel, rfl⟩
theorem D_Mo_writePage_271 : xd m_Mo_writePage 271 (.iaload) 1 272 := ⟨by decide +kernel, rfl⟩
theorem D_Mo_writePage_272 : xd m_Mo_writePage 272 (.invokevirtual 150) 3 275 := ⟨by decide +kernel, rfl⟩
theorem D_Mo_writePage_275 : xd m_Mo_writePage 275 (.iinc 3 1) 3 278 := ⟨by decide +kernel, rfl⟩
theorem D_Mo_writePage_278 : xd m_Mo_writePage 278 (.goto (-191)) 3 281 := ⟨by decide +kernel, rfl⟩
theorem D_Mo_writePage_281 : xd m_Mo_writePage 281 (.aload_n 0) 1 282 := ⟨by decide +kernel, rfl⟩
theorem D_Mo_writePage_282 : xd m_Mo_writePage 282 (.sipush 142) 3 285 := ⟨by decide +kernel, rfl⟩
theorem D_Mo_writePage_285 : xd m_Mo_writePage 285 (.invokevirtual 150) 3 288 := ⟨by decide +kernel, rfl⟩
theorem D_Mo_writePage_288 : xd m_Mo_writePage 288 (.aload_n 0) 1 289 := ⟨by decide +kernel, rfl⟩
theorem D_Mo_writePage_289 : xd m_Mo_writePage 289 (.sipush 140) 3 292 := ⟨by decide +kernel, rfl⟩
theorem D_Mo_writePage_292 : xd m_Mo_writePage 292 (.invokevirtual 150) 3 295 := ⟨by decide +kernel, rfl⟩
theorem D_Mo_writePage_295 : xd m_Mo_writePage 295 (.return_) 1 296 := ⟨by decide +kernel, rfl⟩
theorem D_Mo_ship_0 : xd m_Mo_ship 0 (.aload_n 0) 1 1 := ⟨by decide +kernel, rfl⟩
theorem D_Mo_ship_1 : xd m_Mo_ship 1 (.aload_n 0) 1 2 := ⟨by decide +kernel, rfl⟩
theorem D_Mo_ship_2 : xd m_Mo_ship 2 (.getfield 128) 3 5 := ⟨by decide +kernel, rfl⟩
theorem D_Mo_ship_5 : xd m_Mo_ship 5 (.ifCond .eq 7) 3 8 := ⟨by decide +kernel, rfl⟩
theorem D_Mo_ship_8 : xd m_Mo_ship 8 (.iconst 1) 1 9 := ⟨by decide +kernel, rfl⟩
theorem D_Mo_ship_9 : xd m_Mo_ship 9 (.goto 15) 3 12 := ⟨by decide +kernel, rfl⟩
theorem D_Mo_ship_12 : xd m_Mo_ship 12 (.aload_n 0) 1 13 := ⟨by decide +kernel, rfl⟩
theorem D_Mo_ship_13 : xd m_Mo_ship 13 (.invokevirtual 189) 3 16 := ⟨by decide +kernel, rfl⟩
theorem D_Mo_ship_16 : xd m_Mo_ship 16 (.ifCond .eq 7) 3 19 := ⟨by decide +kernel, rfl⟩
theorem D_Mo_ship_19 : xd m_Mo_ship 19 (.iconst 0) 1 20 := ⟨by decide +kernel, rfl⟩
theorem D_Mo_ship_20 : xd m_Mo_ship 20 (.goto 4) 3 23 := ⟨by decide +kernel, rfl⟩
theorem D_Mo_ship_23 : xd m_Mo_ship 23 (.iconst 2) 1 24 := ⟨by decide +kernel, rfl⟩
theorem D_Mo_ship_24 : xd m_Mo_ship 24 (.putfield 97) 3 27 := ⟨by decide +kernel, rfl⟩
theorem D_Mo_ship_27 : xd m_Mo_ship 27 (.aload_n 0) 1 28 := ⟨by decide +kernel, rfl⟩
theorem D_Mo_ship_28 : xd m_Mo_ship 28 (.getfield 97) 3 31 := ⟨by decide +kernel, rfl⟩
theorem D_Mo_ship_31 : xd m_Mo_ship 31 (.ifCond .le 5) 3 34 := ⟨by decide +kernel, rfl⟩
theorem D_Mo_ship_34 : xd m_Mo_ship 34 (.iconst 0) 1 35 := ⟨by decide +kernel, rfl⟩
theorem D_Mo_ship_35 : xd m_Mo_ship 35 (.ireturn) 1 36 := ⟨by decide +kernel, rfl⟩
theorem D_Mo_ship_36 : xd m_Mo_ship 36 (.aload_n 0) 1 37 := ⟨by decide +kernel, rfl⟩
theorem D_Mo_ship_37 : xd m_Mo_ship 37 (.getfield 116) 3 40 := ⟨by decide +kernel, rfl⟩
theorem D_Mo_ship_40 : xd m_Mo_ship 40 (.istore_n 1) 1 41 := ⟨by decide +kernel, rfl⟩
theorem D_Mo_ship_41 : xd m_Mo_ship 41 (.aload_n 0) 1 42 := ⟨by decide +kernel, rfl⟩
theorem D_Mo_ship_42 : xd m_Mo_ship 42 (.getfield 100) 3 45 := ⟨by decide +kernel, rfl⟩
theorem D_Mo_ship_45 : xd m_Mo_ship 45 (.istore_n 2) 1 46 := ⟨by decide +kernel, rfl⟩
theorem D_Mo_ship_46 : xd m_Mo_ship 46 (.aload_n 0) 1 47 := ⟨by decide +kernel, rfl⟩
theorem D_Mo_ship_47 : xd m_Mo_ship 47 (.getfield 41) 3 50 := ⟨by decide +kernel, rfl⟩
theorem D_Mo_ship_50 : xd m_Mo_ship 50 (.istore_n 3) 1 51 := ⟨by decide +kernel, rfl⟩
theorem D_Mo_ship_51 : xd m_Mo_ship 51 (.aload_n 0) 1 52 := ⟨by decide +kernel, rfl⟩
theorem D_Mo_ship_52 : xd m_Mo_ship 52 (.invokevirtual 193) 3 55 := ⟨by decide +kernel, rfl⟩
theorem D_Mo_ship_55 : xd m_Mo_ship 55 (.aload_n 0) 1 56 := ⟨by decide +kernel, rfl⟩
theorem D_Mo_ship_56 : xd m_Mo_ship 56 (.getfield 116) 3 59 := ⟨by decide +kernel, rfl⟩
theorem D_Mo_ship_59 : xd m_Mo_ship 59 (.ldc 196) 2 61 := ⟨by decide +kernel, rfl⟩
theorem D_Mo_ship_61 : xd m_Mo_ship 61 (.if_icmp .le 25) 3 64 := ⟨by decide +kernel, rfl⟩
theorem D_Mo_ship_64 : xd m_Mo_ship 64 (.aload_n 0) 1 65 := ⟨by decide +kernel, rfl⟩
theorem D_Mo_ship_65 : xd m_Mo_ship 65 (.iload_n 1) 1 66 := ⟨by decide +kernel, rfl⟩
theorem D_Mo_ship_66 : xd m_Mo_ship 66 (.putfield 116) 3 69 := ⟨by decide +kernel, rfl⟩
theorem D_Mo_ship_69 : xd m_Mo_ship 69 (.aload_n 0) 1 70 := ⟨by decide +kernel, rfl⟩
theorem D_Mo_ship_70 : xd m_Mo_ship 70 (.iload_n 2) 1 71 := ⟨by decide +kernel, rfl⟩
theorem D_Mo_ship_71 : xd m_Mo_ship 71 (.putfield 100) 3 74 := ⟨by decide +kernel, rfl⟩
theorem D_Mo_ship_74 : xd m_Mo_ship 74 (.aload_n 0) 1 75 := ⟨by decide +kernel, rfl⟩
theorem D_Mo_ship_75 : xd m_Mo_ship 75 (.iload_n 3) 1 76 := ⟨by decide +kernel, rfl⟩
theorem D_Mo_ship_76 : xd m_Mo_ship 76 (.putfield 41) 3 79 := ⟨by decide +kernel, rfl⟩
theorem D_Mo_ship_79 : xd m_Mo_ship 79 (.aload_n 0) 1 80 := ⟨by decide +kernel, rfl⟩
theorem D_Mo_ship_80 : xd m_Mo_ship 80 (.iconst 3) 1 81 := ⟨by decide +kernel, rfl⟩
theorem D_Mo_ship_81 : xd m_Mo_ship 81 (.putfield 97) 3 84 := ⟨by decide +kernel, rfl⟩
theorem D_Mo_ship_84 : xd m_Mo_ship 84 (.iconst 0) 1 85 := ⟨by decide +kernel, rfl⟩
theorem D_Mo_ship_85 : xd m_Mo_ship 85 (.ireturn) 1 86 := ⟨by decide +kernel, rfl⟩
theorem D_Mo_ship_86 : xd m_Mo_ship 86 (.iconst 0) 1 87 := ⟨by decide +kernel, rfl⟩
theorem D_Mo_ship_87 : xd m_Mo_ship 87 (.istore 4) 2 89 := ⟨by decide +kernel, rfl⟩
theorem D_Mo_ship_89 : xd m_Mo_ship 89 (.iload 4) 2 91 := ⟨by decide +kernel, rfl⟩
theorem D_Mo_ship_91 : xd m_Mo_ship 91 (.aload_n 0) 1 92 := ⟨by decide +kernel, rfl⟩
theorem D_Mo_ship_92 : xd m_Mo_ship 92 (.getfield 119) 3 95 := ⟨by decide +kernel, rfl⟩
theorem D_Mo_ship_95 : xd m_Mo_ship 95 (.if_icmp .ge 73) 3 98 := ⟨by decide +kernel, rfl⟩
theorem D_Mo_ship_98 : xd m_Mo_ship 98 (.aload_n 0) 1 99 := ⟨by decide +kernel, rfl⟩
theorem D_Mo_ship_99 : xd m_Mo_ship 99 (.aload_n 0) 1 100 := ⟨by decide +kernel, rfl⟩
theorem D_Mo_ship_100 : xd m_Mo_ship 100 (.getfield 57) 3 103 := ⟨by decide +kernel, rfl⟩
theorem D_Mo_ship_103 : xd m_Mo_ship 103 (.iload 4) 2 105 := ⟨by decide +kernel, rfl⟩
theorem D_Mo_ship_105 : xd m_Mo_ship 105 (.iaload) 1 106 := ⟨by decide +kernel, rfl⟩
theorem D_Mo_ship_106 : xd m_Mo_ship 106 (.aload_n 0) 1 107 := ⟨by decide +kernel, rfl⟩
theorem D_Mo_ship_107 : xd m_Mo_ship 107 (.getfield 135) 3 110 := ⟨by decide +kernel, rfl⟩
theorem D_Mo_ship_110 : xd m_Mo_ship 110 (.if_icmp .le 13) 3 113 := ⟨by decide +kernel, rfl⟩
theorem D_Mo_ship_113 : xd m_Mo_ship 113 (.aload_n 0) 1 114 := ⟨by decide +kernel, rfl⟩
theorem D_Mo_ship_114 : xd m_Mo_ship 114 (.getfield 57) 3 117 := ⟨by decide +kernel, rfl⟩
theorem D_Mo_ship_117 : xd m_Mo_ship 117 (.iload 4) 2 119 := ⟨by decide +kernel, rfl⟩
theorem D_Mo_ship_119 : xd m_Mo_ship 119 (.iaload) 1 120 := ⟨by decide +kernel, rfl⟩
theorem D_Mo_ship_120 : xd m_Mo_ship 120 (.goto 7) 3 123 := ⟨by decide +kernel, rfl⟩
theorem D_Mo_ship_123 : xd m_Mo_ship 123 (.aload_n 0) 1 124 := ⟨by decide +kernel, rfl⟩
theorem D_Mo_ship_124 : xd m_Mo_ship 124 (.getfield 135) 3 127 := ⟨by decide +kernel, rfl⟩
theorem D_Mo_ship_127 : xd m_Mo_ship 127 (.putfield 135) 3 130 := ⟨by decide +kernel, rfl⟩
theorem D_Mo_ship_130 : xd m_Mo_ship 130 (.aload_n 0) 1 131 := ⟨by decide +kernel, rfl⟩
theorem D_Mo_ship_131 : xd m_Mo_ship 131 (.aload_n 0) 1 132 := ⟨by decide +kernel, rfl⟩
theorem D_Mo_ship_132 : xd m_Mo_ship 132 (.getfield 69) 3 135 := ⟨by decide +kernel, rfl⟩
theorem D_Mo_ship_135 : xd m_Mo_ship 135 (.iload 4) 2 137 := ⟨by decide +kernel, rfl⟩
theorem D_Mo_ship_137 : xd m_Mo_ship 137 (.iaload) 1 138 := ⟨by decide +kernel, rfl⟩
theorem D_Mo_ship_138 : xd m_Mo_ship 138 (.aload_n 0) 1 139 := ⟨by decide +kernel, rfl⟩
theorem D_Mo_ship_139 : xd m_Mo_ship 139 (.getfield 138) 3 142 := ⟨by decide +kernel, rfl⟩
theorem D_Mo_ship_142 : xd m_Mo_ship 142 (.if_icmp .le 13) 3 145 := ⟨by decide +kernel, rfl⟩
theorem D_Mo_ship_145 : xd m_Mo_ship 145 (.aload_n 0) 1 146 := ⟨by decide +kernel, rfl⟩
theorem D_Mo_ship_146 : xd m_Mo_ship 146 (.getfield 69) 3 149 := ⟨by decide +kernel, rfl⟩
theorem D_Mo_ship_149 : xd m_Mo_ship 149 (.iload 4) 2 151 := ⟨by decide +kernel, rfl⟩
theorem D_Mo_ship_151 : xd m_Mo_ship 151 (.iaload) 1 152 := ⟨by decide +kernel, rfl⟩
theorem D_Mo_ship_152 : xd m_Mo_ship 152 (.goto 7) 3 155 := ⟨by decide +kernel, rfl⟩
theorem D_Mo_ship_155 : xd m_Mo_ship 155 (.aload_n 0) 1 156 := ⟨by decide +kernel, rfl⟩
theorem D_Mo_ship_156 : xd m_Mo_ship 156 (.getfield 138) 3 159 := ⟨by decide +kernel, rfl⟩
theorem D_Mo_ship_159 : xd m_Mo_ship 159 (.putfield 138) 3 162 := ⟨by decide +kernel, rfl⟩
theorem D_Mo_ship_162 : xd m_Mo_ship 162 (.iinc 4 1) 3 165 := ⟨by decide +kernel, rfl⟩
theorem D_Mo_ship_165 : xd m_Mo_ship 165 (.goto (-76)) 3 168 := ⟨by decide +kernel, rfl⟩
theorem D_Mo_ship_168 : xd m_Mo_ship 168 (.aload_n 0) 1 169 := ⟨by decide +kernel, rfl⟩
theorem D_Mo_ship_169 : xd m_Mo_ship 169 (.iconst 0) 1 170 := ⟨by decide +kernel, rfl⟩
theorem D_Mo_ship_170 : xd m_Mo_ship 170 (.putfield 119) 3 173 := ⟨by decide +kernel, rfl⟩
theorem D_Mo_ship_173 : xd m_Mo_ship 173 (.aload_n 0) 1 174 := ⟨by decide +kernel, rfl⟩
theorem D_Mo_ship_174 : xd m_Mo_ship 174 (.dup) 1 175 := ⟨by decide +kernel, rfl⟩
theorem D_Mo_ship_175 : xd m_Mo_ship 175 (.getfield 132) 3 178 := ⟨by decide +kernel, rfl⟩
theorem D_Mo_ship_178 : xd m_Mo_ship 178 (.iconst 1) 1 179 := ⟨by decide +kernel, rfl⟩
theorem D_Mo_ship_179 : xd m_Mo_ship 179 (.iadd) 1 180 := ⟨by decide +kernel, rfl⟩
theorem D_Mo_ship_180 : xd m_Mo_ship 180 (.putfield 132) 3 183 := ⟨by decide +kernel, rfl⟩
theorem D_Mo_ship_183 : xd m_Mo_ship 183 (.aload_n 0) 1 184 := ⟨by decide +kernel, rfl⟩
theorem D_Mo_ship_184 : xd m_Mo_ship 184 (.getfield 132) 3 187 := ⟨by decide +kernel, rfl⟩
theorem D_Mo_ship_187 : xd m_Mo_ship 187 (.ireturn) 1 188 := ⟨by decide +kernel, rfl⟩
theorem D_Mo_close_0 : xd m_Mo_close 0 (.aload_n 0) 1 1 := ⟨by decide +kernel, rfl⟩
theorem D_Mo_close_1 : xd m_Mo_close 1 (.aload_n 0) 1 2 := ⟨by decide +kernel, rfl⟩
theorem D_Mo_close_2 : xd m_Mo_close 2 (.getfield 128) 3 5 := ⟨by decide +kernel, rfl⟩
theorem D_Mo_close_5 : xd m_Mo_close 5 (.ifCond .eq 7) 3 8 := ⟨by decide +kernel, rfl⟩
theorem D_Mo_close_8 : xd m_Mo_close 8 (.iconst 1) 1 9 := ⟨by decide +kernel, rfl⟩
theorem D_Mo_close_9 : xd m_Mo_close 9 (.goto 4) 3 12 := ⟨by decide +kernel, rfl⟩
theorem D_Mo_close_12 : xd m_Mo_close 12 (.iconst 0) 1 13 := ⟨by decide +kernel, rfl⟩
theorem D_Mo_close_13 : xd m_Mo_close 13 (.putfield 97) 3 16 := ⟨by decide +kernel, rfl⟩
theorem D_Mo_close_16 : xd m_Mo_close 16 (.aload_n 0) 1 17 := ⟨by decide +kernel, rfl⟩
theorem D_Mo_close_17 : xd m_Mo_close 17 (.getfield 97) 3 20 := ⟨by decide +kernel, rfl⟩
theorem D_Mo_close_20 : xd m_Mo_close 20 (.ifCond .le 5) 3 23 := ⟨by decide +kernel, rfl⟩
theorem D_Mo_close_23 : xd m_Mo_close 23 (.iconst 0) 1 24 := ⟨by decide +kernel, rfl⟩
theorem D_Mo_close_24 : xd m_Mo_close 24 (.ireturn) 1 25 := ⟨by decide +kernel, rfl⟩
theorem D_Mo_close_25 : xd m_Mo_close 25 (.aload_n 0) 1 26 := ⟨by decide +kernel, rfl⟩
theorem D_Mo_close_26 : xd m_Mo_close 26 (.invokevirtual 179) 3 29 := ⟨by decide +kernel, rfl⟩
theorem D_Mo_close_29 : xd m_Mo_close 29 (.aload_n 0) 1 30 := ⟨by decide +kernel, rfl⟩
theorem D_Mo_close_30 : xd m_Mo_close 30 (.getfield 116) 3 33 := ⟨by decide +kernel, rfl⟩
theorem D_Mo_close_33 : xd m_Mo_close 33 (.istore_n 1) 1 34 := ⟨by decide +kernel, rfl⟩
theorem D_Mo_close_34 : xd m_Mo_close 34 (.aload_n 0) 1 35 := ⟨by decide +kernel, rfl⟩
theorem D_Mo_close_35 : xd m_Mo_close 35 (.sipush 248) 3 38 := ⟨by decide +kernel, rfl⟩
theorem D_Mo_close_38 : xd m_Mo_close 38 (.invokevirtual 150) 3 41 := ⟨by decide +kernel, rfl⟩
theorem D_Mo_close_41 : xd m_Mo_close 41 (.aload_n 0) 1 42 := ⟨by decide +kernel, rfl⟩
theorem D_Mo_close_42 : xd m_Mo_close 42 (.aload_n 0) 1 43 := ⟨by decide +kernel, rfl⟩
theorem D_Mo_close_43 : xd m_Mo_close 43 (.getfield 41) 3 46 := ⟨by decide +kernel, rfl⟩
theorem D_Mo_close_46 : xd m_Mo_close 46 (.iconst 4) 1 47 := ⟨by decide +kernel, rfl⟩
theorem D_Mo_close_47 : xd m_Mo_close 47 (.invokevirtual 173) 3 50 := ⟨by decide +kernel, rfl⟩
theorem D_Mo_close_50 : xd m_Mo_close 50 (.aload_n 0) 1 51 := ⟨by decide +kernel, rfl⟩
theorem D_Mo_close_51 : xd m_Mo_close 51 (.ldc 177) 2 53 := ⟨by decide +kernel, rfl⟩
theorem D_Mo_close_53 : xd m_Mo_close 53 (.iconst 4) 1 54 := ⟨by decide +kernel, rfl⟩
theorem D_Mo_close_54 : xd m_Mo_close 54 (.invokevirtual 173) 3 57 := ⟨by decide +kernel, rfl⟩
theorem D_Mo_close_57 : xd m_Mo_close 57 (.aload_n 0) 1 58 := ⟨by decide +kernel, rfl⟩
theorem D_Mo_close_58 : xd m_Mo_close 58 (.ldc 178) 2 60 := ⟨by decide +kernel, rfl⟩
theorem D_Mo_close_60 : xd m_Mo_close 60 (.iconst 4) 1 61 := ⟨by decide +kernel, rfl⟩
theorem D_Mo_close_61 : xd m_Mo_close 61 (.invokevirtual 173) 3 64 := ⟨by decide +kernel, rfl⟩
theorem D_Mo_close_64 : xd m_Mo_close 64 (.aload_n 0) 1 65 := ⟨by decide +kernel, rfl⟩
theorem D_Mo_close_65 : xd m_Mo_close 65 (.sipush 1000) 3 68 := ⟨by decide +kernel, rfl⟩
theorem D_Mo_close_68 : xd m_Mo_close 68 (.iconst 4) 1 69 := ⟨by decide +kernel, rfl⟩
theorem D_Mo_close_69 : xd m_Mo_close 69 (.invokevirtual 173) 3 72 := ⟨by decide +kernel, rfl⟩
theorem D_Mo_close_72 : xd m_Mo_close 72 (.aload_n 0) 1 73 := ⟨by decide +kernel, rfl⟩
theorem D_Mo_close_73 : xd m_Mo_close 73 (.aload_n 0) 1 74 := ⟨by decide +kernel, rfl⟩
theorem D_Mo_close_74 : xd m_Mo_close 74 (.getfield 135) 3 77 := ⟨by decide +kernel, rfl⟩
theorem D_Mo_close_77 : xd m_Mo_close 77 (.iconst 4) 1 78 := ⟨by decide +kernel, rfl⟩
theorem D_Mo_close_78 : xd m_Mo_close 78 (.invokevirtual 173) 3 81 := ⟨by decide +kernel, rfl⟩
theorem D_Mo_close_81 : xd m_Mo_close 81 (.aload_n 0) 1 82 := ⟨by decide +kernel, rfl⟩
theorem D_Mo_close_82 : xd m_Mo_close 82 (.aload_n 0) 1 83 := ⟨by decide +kernel, rfl⟩
theorem D_Mo_close_83 : xd m_Mo_close 83 (.getfield 138) 3 86 := ⟨by decide +kernel, rfl⟩
theorem D_Mo_close_86 : xd m_Mo_close 86 (.iconst 4) 1 87 := ⟨by decide +kernel, rfl⟩
theorem D_Mo_close_87 : xd m_Mo_close 87 (.invokevirtual 173) 3 90 := ⟨by decide +kernel, rfl⟩
theorem D_Mo_close_90 : xd m_Mo_close 90 (.aload_n 0) 1 91 := ⟨by decide +kernel, rfl⟩
theorem D_Mo_close_91 : xd m_Mo_close 91 (.aload_n 0) 1 92 := ⟨by decide +kernel, rfl⟩
theorem D_Mo_close_92 : xd m_Mo_close 92 (.getfield 132) 3 95 := ⟨by decide +kernel, rfl⟩
theorem D_Mo_close_95 : xd m_Mo_close 95 (.ifCond .le 7) 3 98 := ⟨by decide +kernel, rfl⟩
theorem D_Mo_close_98 : xd m_Mo_close 98 (.iconst 1) 1 99 := ⟨by decide +kernel, rfl⟩
theorem D_Mo_close_99 : xd m_Mo_close 99 (.goto 4) 3 102 := ⟨by decide +kernel, rfl⟩
theorem D_Mo_close_102 : xd m_Mo_close 102 (.iconst 0) 1 103 := ⟨by decide +kernel, rfl⟩
theorem D_Mo_close_103 : xd m_Mo_close 103 (.iconst 2) 1 104 := ⟨by decide +kernel, rfl⟩
theorem D_Mo_close_104 : xd m_Mo_close 104 (.invokevirtual 173) 3 107 := ⟨by decide +kernel, rfl⟩
theorem D_Mo_close_107 : xd m_Mo_close 107 (.aload_n 0) 1 108 := ⟨by decide +kernel, rfl⟩
theorem D_Mo_close_108 : xd m_Mo_close 108 (.aload_n 0) 1 109 := ⟨by decide +kernel, rfl⟩
theorem D_Mo_close_109 : xd m_Mo_close 109 (.getfield 132) 3 112 := ⟨by decide +kernel, rfl⟩
theorem D_Mo_close_112 : xd m_Mo_close 112 (.iconst 2) 1 113 := ⟨by decide +kernel, rfl⟩
theorem D_Mo_close_113 : xd m_Mo_close 113 (.invokevirtual 173) 3 116 := ⟨by decide +kernel, rfl⟩
theorem D_Mo_close_116 : xd m_Mo_close 116 (.aload_n 0) 1 117 := ⟨by decide +kernel, rfl⟩
theorem D_Mo_close_117 : xd m_Mo_close 117 (.getfield 100) 3 120 := ⟨by decide +kernel, rfl⟩
theorem D_Mo_close_120 : xd m_Mo_close 120 (.iconst 1) 1 121 := ⟨by decide +kernel, rfl⟩
theorem D_Mo_close_121 : xd m_Mo_close 121 (.isub) 1 122 := ⟨by decide +kernel, rfl⟩
theorem D_Mo_close_122 : xd m_Mo_close 122 (.istore_n 2) 1 123 := ⟨by decide +kernel, rfl⟩
theorem D_Mo_close_123 : xd m_Mo_close 123 (.iload_n 2) 1 124 := ⟨by decide +kernel, rfl⟩
theorem D_Mo_close_124 : xd m_Mo_close 124 (.ifCond .lt 19) 3 127 := ⟨by decide +kernel, rfl⟩
theorem D_Mo_close_127 : xd m_Mo_close 127 (.aload_n 0) 1 128 := ⟨by decide +kernel, rfl⟩
theorem D_Mo_close_128 : xd m_Mo_close 128 (.aload_n 0) 1 129 := ⟨by decide +kernel, rfl⟩
theorem D_Mo_close_129 : xd m_Mo_close 129 (.getfield 45) 3 132 := ⟨by decide +kernel, rfl⟩
theorem D_Mo_close_132 : xd m_Mo_close 132 (.iload_n 2) 1 133 := ⟨by decide +kernel, rfl⟩
theorem D_Mo_close_133 : xd m_Mo_close 133 (.iaload) 1 134 := ⟨by decide +kernel, rfl⟩
theorem D_Mo_close_134 : xd m_Mo_close 134 (.invokevirtual 186) 3 137 := ⟨by decide +kernel, rfl⟩
theorem D_Mo_close_137 : xd m_Mo_close 137 (.iinc 2 (-1)) 3 140 := ⟨by decide +kernel, rfl⟩
theorem D_Mo_close_140 : xd m_Mo_close 140 (.goto (-17)) 3 143 := ⟨by decide +kernel, rfl⟩
theorem D_Mo_close_143 : xd m_Mo_close 143 (.aload_n 0) 1 144 := ⟨by decide +kernel, rfl⟩
theorem D_Mo_close_144 : xd m_Mo_close 144 (.sipush 249) 3 147 := ⟨by decide +kernel, rfl⟩
theorem D_Mo_close_147 : xd m_Mo_close 147 (.invokevirtual 150) 3 150 := ⟨by decide +kernel, rfl⟩
theorem D_Mo_close_150 : xd m_Mo_close 150 (.aload_n 0) 1 151 := ⟨by decide +kernel, rfl⟩
theorem D_Mo_close_151 : xd m_Mo_close 151 (.iload_n 1) 1 152 := ⟨by decide +kernel, rfl⟩
theorem D_Mo_close_152 : xd m_Mo_close 152 (.iconst 4) 1 153 := ⟨by decide +kernel, rfl⟩
theorem D_Mo_close_153 : xd m_Mo_close 153 (.invokevirtual 173) 3 156 := ⟨by decide +kernel, rfl⟩
theorem D_Mo_close_156 : xd m_Mo_close 156 (.aload_n 0) 1 157 := ⟨by decide +kernel, rfl⟩
theorem D_Mo_close_157 : xd m_Mo_close 157 (.iconst 2) 1 158 := ⟨by decide +kernel, rfl⟩
theorem D_Mo_close_158 : xd m_Mo_close 158 (.invokevirtual 150) 3 161 := ⟨by decide +kernel, rfl⟩
theorem D_Mo_close_161 : xd m_Mo_close 161 (.iconst 0) 1 162 := ⟨by decide +kernel, rfl⟩
theorem D_Mo_close_162 : xd m_Mo_close 162 (.istore_n 2) 1 163 := ⟨by decide +kernel, rfl⟩
theorem D_Mo_close_163 : xd m_Mo_close 163 (.iload_n 2) 1 164 := ⟨by decide +kernel, rfl⟩
theorem D_Mo_close_164 : xd m_Mo_close 164 (.iconst 4) 1 165 := ⟨by decide +kernel, rfl⟩
theorem D_Mo_close_165 : xd m_Mo_close 165 (.if_icmp .lt 12) 3 168 := ⟨by decide +kernel, rfl⟩
theorem D_Mo_close_168 : xd m_Mo_close 168 (.aload_n 0) 1 169 := ⟨by decide +kernel, rfl⟩
theorem D_Mo_close_169 : xd m_Mo_close 169 (.getfield 116) 3 172 := ⟨by decide +kernel, rfl⟩
theorem D_Mo_close_172 : xd m_Mo_close 172 (.iconst 4) 1 173 := ⟨by decide +kernel, rfl⟩
theorem D_Mo_close_173 : xd m_Mo_close 173 (.irem) 1 174 := ⟨by decide +kernel, rfl⟩
theorem D_Mo_close_174 : xd m_Mo_close 174 (.ifCond .eq 16) 3 177 := ⟨by decide +kernel, rfl⟩
theorem D_Mo_close_177 : xd m_Mo_close 177 (.aload_n 0) 1 178 := ⟨by decide +kernel, rfl⟩
theorem D_Mo_close_178 : xd m_Mo_close 178 (.sipush 223) 3 181 := ⟨by decide +kernel, rfl⟩
theorem D_Mo_close_181 : xd m_Mo_close 181 (.invokevirtual 150) 3 184 := ⟨by decide +kernel, rfl⟩
theorem D_Mo_close_184 : xd m_Mo_close 184 (.iinc 2 1) 3 187 := ⟨by decide +kernel, rfl⟩
theorem D_Mo_close_187 : xd m_Mo_close 187 (.goto (-24)) 3 190 := ⟨by decide +kernel, rfl⟩
theorem D_Mo_close_190 : xd m_Mo_close 190 (.aload_n 0) 1 191 := ⟨by decide +kernel, rfl⟩
theorem D_Mo_close_191 : xd m_Mo_close 191 (.iconst 1) 1 192 := ⟨by decide +kernel, rfl⟩
theorem D_Mo_close_192 : xd m_Mo_close 192 (.putfield 128) 3 195 := ⟨by decide +kernel, rfl⟩
theorem D_Mo_close_195 : xd m_Mo_close 195 (.aload_n 0) 1 196 := ⟨by decide +kernel, rfl⟩
theorem D_Mo_close_196 : xd m_Mo_close 196 (.getfield 116) 3 199 := ⟨by decide +kernel, rfl⟩
theorem D_Mo_close_199 : xd m_Mo_close 199 (.ireturn) 1 200 := ⟨by decide +kernel, rfl⟩
theorem D_Mo_size_0 : xd m_Mo_size 0 (.aload_n 0) 1 1 := ⟨by decide +kernel, rfl⟩
theorem D_Mo_size_1 : xd m_Mo_size 1 (.iconst 0) 1 2 := ⟨by decide +kernel, rfl⟩
theorem D_Mo_size_2 : xd m_Mo_size 2 (.putfield 97) 3 5 := ⟨by decide +kernel, rfl⟩
theorem D_Mo_size_5 : xd m_Mo_size 5 (.aload_n 0) 1 6 := ⟨by decide +kernel, rfl⟩
theorem D_Mo_size_6 : xd m_Mo_size 6 (.getfield 116) 3 9 := ⟨by decide +kernel, rfl⟩
theorem D_Mo_size_9 : xd m_Mo_size 9 (.ireturn) 1 10 := ⟨by decide +kernel, rfl⟩
theorem D_Mo_out_0 : xd m_Mo_out 0 (.aload_n 0) 1 1 := ⟨by decide +kernel, rfl⟩
theorem D_Mo_out_1 : xd m_Mo_out 1 (.iload_n 1) 1 2 := ⟨by decide +kernel, rfl⟩
theorem D_Mo_out_2 : xd m_Mo_out 2 (.ifCond .lt 11) 3 5 := ⟨by decide +kernel, rfl⟩
theorem D_Mo_out_5 : xd m_Mo_out 5 (.iload_n 1) 1 6 := ⟨by decide +kernel, rfl⟩
theorem D_Mo_out_6 : xd m_Mo_out 6 (.aload_n 0) 1 7 := ⟨by decide +kernel, rfl⟩
theorem D_Mo_out_7 : xd m_Mo_out 7 (.getfield 116) 3 10 := ⟨by decide +kernel, rfl⟩
theorem D_Mo_out_10 : xd m_Mo_out 10 (.if_icmp .lt 7) 3 13 := ⟨by decide +kernel, rfl⟩
theorem D_Mo_out_13 : xd m_Mo_out 13 (.iconst 1) 1 14 := ⟨by decide +kernel, rfl⟩
theorem D_Mo_out_14 : xd m_Mo_out 14 (.goto 4) 3 17 := ⟨by decide +kernel, rfl⟩
theorem D_Mo_out_17 : xd m_Mo_out 17 (.iconst 0) 1 18 := ⟨by decide +kernel, rfl⟩
theorem D_Mo_out_18 : xd m_Mo_out 18 (.putfield 97) 3 21 := ⟨by decide +kernel, rfl⟩
theorem D_Mo_out_21 : xd m_Mo_out 21 (.aload_n 0) 1 22 := ⟨by decide +kernel, rfl⟩
theorem D_Mo_out_22 : xd m_Mo_out 22 (.getfield 97) 3 25 := ⟨by decide +kernel, rfl⟩
theorem D_Mo_out_25 : xd m_Mo_out 25 (.ifCond .le 7) 3 28 := ⟨by decide +kernel, rfl⟩
theorem D_Mo_out_28 : xd m_Mo_out 28 (.iconst 0) 1 29 := ⟨by decide +kernel, rfl⟩
theorem D_Mo_out_29 : xd m_Mo_out 29 (.goto 13) 3 32 := ⟨by decide +kernel, rfl⟩
theorem D_Mo_out_32 : xd m_Mo_out 32 (.aload_n 0) 1 33 := ⟨by decide +kernel, rfl⟩
theorem D_Mo_out_33 : xd m_Mo_out 33 (.getfield 38) 3 36 := ⟨by decide +kernel, rfl⟩
theorem D_Mo_out_36 : xd m_Mo_out 36 (.iload_n 1) 1 37 := ⟨by decide +kernel, rfl⟩
theorem D_Mo_out_37 : xd m_Mo_out 37 (.baload) 1 38 := ⟨by decide +kernel, rfl⟩
theorem D_Mo_out_38 : xd m_Mo_out 38 (.sipush 255) 3 41 := ⟨by decide +kernel, rfl⟩
theorem D_Mo_out_41 : xd m_Mo_out 41 (.iand) 1 42 := ⟨by decide +kernel, rfl⟩
theorem D_Mo_out_42 : xd m_Mo_out 42 (.ireturn) 1 43 := ⟨by decide +kernel, rfl⟩
theorem D_Mo_feed_0 : xd m_Mo_feed 0 (.aload_n 0) 1 1 := ⟨by decide +kernel, rfl⟩
theorem D_Mo_feed_1 : xd m_Mo_feed 1 (.iconst 0) 1 2 := ⟨by decide +kernel, rfl⟩
theorem D_Mo_feed_2 : xd m_Mo_feed 2 (.putfield 97) 3 5 := ⟨by decide +kernel, rfl⟩
theorem D_Mo_feed_5 : xd m_Mo_feed 5 (.iload_n 3) 1 6 := ⟨by decide +kernel, rfl⟩
theorem D_Mo_feed_6 : xd m_Mo_feed 6 (.iconst 1) 1 7 := ⟨by decide +kernel, rfl⟩
theorem D_Mo_feed_7 : xd m_Mo_feed 7 (.if_icmp .lt 20) 3 10 := ⟨by decide +kernel, rfl⟩
theorem D_Mo_feed_10 : xd m_Mo_feed 10 (.iload_n 3) 1 11 := ⟨by decide +kernel, rfl⟩
theorem D_Mo_feed_11 : xd m_Mo_feed 11 (.bipush 8) 2 13 := ⟨by decide +kernel, rfl⟩
theorem D_Mo_feed_13 : xd m_Mo_feed 13 (.if_icmp .gt 14) 3 16 := ⟨by decide +kernel, rfl⟩
theorem D_Mo_feed_16 : xd m_Mo_feed 16 (.aload_n 0) 1 17 := ⟨by decide +kernel, rfl⟩
theorem D_Mo_feed_17 : xd m_Mo_feed 17 (.getfield 197) 3 20 := ⟨by decide +kernel, rfl⟩
theorem D_Mo_feed_20 : xd m_Mo_feed 20 (.iload_n 3) 1 21 := ⟨by decide +kernel, rfl⟩
theorem D_Mo_feed_21 : xd m_Mo_feed 21 (.iadd) 1 22 := ⟨by decide +kernel, rfl⟩
theorem D_Mo_feed_22 : xd m_Mo_feed 22 (.ldc 72) 2 24 := ⟨by decide +kernel, rfl⟩
theorem D_Mo_feed_24 : xd m_Mo_feed 24 (.if_icmp .le 5) 3 27 := ⟨by decide +kernel, rfl⟩
theorem D_Mo_feed_27 : xd m_Mo_feed 27 (.iconst 0) 1 28 := ⟨by decide +kernel, rfl⟩
theorem D_Mo_feed_28 : xd m_Mo_feed 28 (.ireturn) 1 29 := ⟨by decide +kernel, rfl⟩
theorem D_Mo_feed_29 : xd m_Mo_feed 29 (.iload_n 3) 1 30 := ⟨by decide +kernel, rfl⟩
theorem D_Mo_feed_30 : xd m_Mo_feed 30 (.iconst 1) 1 31 := ⟨by decide +kernel, rfl⟩
theorem D_Mo_feed_31 : xd m_Mo_feed 31 (.isub) 1 32 := ⟨by decide +kernel, rfl⟩
theorem D_Mo_feed_32 : xd m_Mo_feed 32 (.istore 4) 2 34 := ⟨by decide +kernel, rfl⟩
theorem D_Mo_feed_34 : xd m_Mo_feed 34 (.iload 4) 2 36 := ⟨by decide +kernel, rfl⟩
theorem D_Mo_feed_36 : xd m_Mo_feed 36 (.ifCond .lt 37) 3 39 := ⟨by decide +kernel, rfl⟩
theorem D_Mo_feed_39 : xd m_Mo_feed 39 (.aload_n 0) 1 40 := ⟨by decide +kernel, rfl⟩
theorem D_Mo_feed_40 : xd m_Mo_feed 40 (.getfield 73) 3 43 := ⟨by decide +kernel, rfl⟩
theorem D_Mo_feed_43 : xd m_Mo_feed 43 (.aload_n 0) 1 44 := ⟨by decide +kernel, rfl⟩
theorem D_Mo_feed_44 : xd m_Mo_feed 44 (.getfield 197) 3 47 := ⟨by decide +kernel, rfl⟩
theorem D_Mo_feed_47 : xd m_Mo_feed 47 (.lload_n 1) 1 48 := ⟨by decide +kernel, rfl⟩
theorem D_Mo_feed_48 : xd m_Mo_feed 48 (.bipush 8) 2 50 := ⟨by decide +kernel, rfl⟩
theorem D_Mo_feed_50 : xd m_Mo_feed 50 (.iload 4) 2 52 := ⟨by decide +kernel, rfl⟩
theorem D_Mo_feed_52 : xd m_Mo_feed 52 (.imul) 1 53 := ⟨by decide +kernel, rfl⟩
theorem D_Mo_feed_53 : xd m_Mo_feed 53 (.lshr) 1 54 := ⟨by decide +kernel, rfl⟩
theorem D_Mo_feed_54 : xd m_Mo_feed 54 (.l2i) 1 55 := ⟨by decide +kernel, rfl⟩
theorem D_Mo_feed_55 : xd m_Mo_feed 55 (.i2b) 1 56 := ⟨by decide +kernel, rfl⟩
theorem D_Mo_feed_56 : xd m_Mo_feed 56 (.bastore) 1 57 := ⟨by decide +kernel, rfl⟩
theorem D_Mo_feed_57 : xd m_Mo_feed 57 (.aload_n 0) 1 58 := ⟨by decide +kernel, rfl⟩
theorem D_Mo_feed_58 : xd m_Mo_feed 58 (.dup) 1 59 := ⟨by decide +kernel, rfl⟩
theorem D_Mo_feed_59 : xd m_Mo_feed 59 (.getfield 197) 3 62 := ⟨by decide +kernel, rfl⟩
theorem D_Mo_feed_62 : xd m_Mo_feed 62 (.iconst 1) 1 63 := ⟨by decide +kernel, rfl⟩
theorem D_Mo_feed_63 : xd m_Mo_feed 63 (.iadd) 1 64 := ⟨by decide +kernel, rfl⟩
theorem D_Mo_feed_64 : xd m_Mo_feed 64 (.putfield 197) 3 67 := ⟨by decide +kernel, rfl⟩
theorem D_Mo_feed_67 : xd m_Mo_feed 67 (.iinc 4 (-1)) 3 70 := ⟨by decide +kernel, rfl⟩
theorem D_Mo_feed_70 : xd m_Mo_feed 70 (.goto (-36)) 3 73 := ⟨by decide +kernel, rfl⟩
theorem D_Mo_feed_73 : xd m_Mo_feed 73 (.iconst 1) 1 74 := ⟨by decide +kernel, rfl⟩
theorem D_Mo_feed_74 : xd m_Mo_feed 74 (.ireturn) 1 75 := ⟨by decide +kernel, rfl⟩
theorem D_Mo_keep_0 : xd m_Mo_keep 0 (.aload_n 0) 1 1 := ⟨by decide +kernel, rfl⟩
theorem D_Mo_keep_1 : xd m_Mo_keep 1 (.iconst 0) 1 2 := ⟨by decide +kernel, rfl⟩
theorem D_Mo_keep_2 : xd m_Mo_keep 2 (.putfield 97) 3 5 := ⟨by decide +kernel, rfl⟩
theorem D_Mo_keep_5 : xd m_Mo_keep 5 (.iload_n 1) 1 6 := ⟨by decide +kernel, rfl⟩
theorem D_Mo_keep_6 : xd m_Mo_keep 6 (.ifCond .lt 11) 3 9 := ⟨by decide +kernel, rfl⟩
theorem D_Mo_keep_9 : xd m_Mo_keep 9 (.iload_n 1) 1 10 := ⟨by decide +kernel, rfl⟩
theorem D_Mo_keep_10 : xd m_Mo_keep 10 (.aload_n 0) 1 11 := ⟨by decide +kernel, rfl⟩
theorem D_Mo_keep_11 : xd m_Mo_keep 11 (.getfield 197) 3 14 := ⟨by decide +kernel, rfl⟩
theorem D_Mo_keep_14 : xd m_Mo_keep 14 (.if_icmp .le 5) 3 17 := ⟨by decide +kernel, rfl⟩
theorem D_Mo_keep_17 : xd m_Mo_keep 17 (.iconst 0) 1 18 := ⟨by decide +kernel, rfl⟩
theorem D_Mo_keep_18 : xd m_Mo_keep 18 (.ireturn) 1 19 := ⟨by decide +kernel, rfl⟩
theorem D_Mo_keep_19 : xd m_Mo_keep 19 (.aload_n 0) 1 20 := ⟨by decide +kernel, rfl⟩
theorem D_Mo_keep_20 : xd m_Mo_keep 20 (.iload_n 1) 1 21 := ⟨by decide +kernel, rfl⟩
theorem D_Mo_keep_21 : xd m_Mo_keep 21 (.putfield 197) 3 24 := ⟨by decide +kernel, rfl⟩
theorem D_Mo_keep_24 : xd m_Mo_keep 24 (.iconst 1) 1 25 := ⟨by decide +kernel, rfl⟩
theorem D_Mo_keep_25 : xd m_Mo_keep 25 (.ireturn) 1 26 := ⟨by decide +kernel, rfl⟩
theorem D_Mo_copy_0 : xd m_Mo_copy 0 (.aload_n 0) 1 1 := ⟨by decide +kernel, rfl⟩
theorem D_Mo_copy_1 : xd m_Mo_copy 1 (.iconst 0) 1 2 := ⟨by decide +kernel, rfl⟩
theorem D_Mo_copy_2 : xd m_Mo_copy 2 (.putfield 97) 3 5 := ⟨by decide +kernel, rfl⟩
theorem D_Mo_copy_5 : xd m_Mo_copy 5 (.iconst 0) 1 6 := ⟨by decide +kernel, rfl⟩
theorem D_Mo_copy_6 : xd m_Mo_copy 6 (.istore_n 1) 1 7 := ⟨by decide +kernel, rfl⟩
theorem D_Mo_copy_7 : xd m_Mo_copy 7 (.iload_n 1) 1 8 := ⟨by decide +kernel, rfl⟩
theorem D_Mo_copy_8 : xd m_Mo_copy 8 (.aload_n 0) 1 9 := ⟨by decide +kernel, rfl⟩
theorem D_Mo_copy_9 : xd m_Mo_copy 9 (.getfield 116) 3 12 := ⟨by decide +kernel, rfl⟩
theorem D_Mo_copy_12 : xd m_Mo_copy 12 (.if_icmp .ge 21) 3 15 := ⟨by decide +kernel, rfl⟩
theorem D_Mo_copy_15 : xd m_Mo_copy 15 (.aload_n 0) 1 16 := ⟨by decide +kernel, rfl⟩
theorem D_Mo_copy_16 : xd m_Mo_copy 16 (.getfield 73) 3 19 := ⟨by decide +kernel, rfl⟩
theorem D_Mo_copy_19 : xd m_Mo_copy 19 (.iload_n 1) 1 20 := ⟨by decide +kernel, rfl⟩
theorem D_Mo_copy_20 : xd m_Mo_copy 20 (.aload_n 0) 1 21 := ⟨by decide +kernel, rfl⟩
theorem D_Mo_copy_21 : xd m_Mo_copy 21 (.getfield 38) 3 24 := ⟨by decide +kernel, rfl⟩
theorem D_Mo_copy_24 : xd m_Mo_copy 24 (.iload_n 1) 1 25 := ⟨by decide +kernel, rfl⟩
theorem D_Mo_copy_25 : xd m_Mo_copy 25 (.baload) 1 26 := ⟨by decide +kernel, rfl⟩
theorem D_Mo_copy_26 : xd m_Mo_copy 26 (.bastore) 1 27 := ⟨by decide +kernel, rfl⟩
theorem D_Mo_copy_27 : xd m_Mo_copy 27 (.iinc 1 1) 3 30 := ⟨by decide +kernel, rfl⟩
theorem D_Mo_copy_30 : xd m_Mo_copy 30 (.goto (-23)) 3 33 := ⟨by decide +kernel, rfl⟩
theorem D_Mo_copy_33 : xd m_Mo_copy 33 (.aload_n 0) 1 34 := ⟨by decide +kernel, rfl⟩
theorem D_Mo_copy_34 : xd m_Mo_copy 34 (.aload_n 0) 1 35 := ⟨by decide +kernel, rfl⟩
theorem D_Mo_copy_35 : xd m_Mo_copy 35 (.getfield 116) 3 38 := ⟨by decide +kernel, rfl⟩
theorem D_Mo_copy_38 : xd m_Mo_copy 38 (.putfield 197) 3 41 := ⟨by decide +kernel, rfl⟩
theorem D_Mo_copy_41 : xd m_Mo_copy 41 (.aload_n 0) 1 42 := ⟨by decide +kernel, rfl⟩
theorem D_Mo_copy_42 : xd m_Mo_copy 42 (.getfield 197) 3 45 := ⟨by decide +kernel, rfl⟩
theorem D_Mo_copy_45 : xd m_Mo_copy 45 (.ireturn) 1 46 := ⟨by decide +kernel, rfl⟩
theorem D_Mo_byteAt_0 : xd m_Mo_byteAt 0 (.aload_n 0) 1 1 := ⟨by decide +kernel, rfl⟩
theorem D_Mo_byteAt_1 : xd m_Mo_byteAt 1 (.getfield 76) 3 4 := ⟨by decide +kernel, rfl⟩
theorem D_Mo_byteAt_4 : xd m_Mo_byteAt 4 (.iload_n 1) 1 5 := ⟨by decide +kernel, rfl⟩
theorem D_Mo_byteAt_5 : xd m_Mo_byteAt 5 (.baload) 1 6 := ⟨by decide +kernel, rfl⟩
theorem D_Mo_byteAt_6 : xd m_Mo_byteAt 6 (.sipush 255) 3 9 := ⟨by decide +kernel, rfl⟩
theorem D_Mo_byteAt_9 : xd m_Mo_byteAt 9 (.iand) 1 10 := ⟨by decide +kernel, rfl⟩
theorem D_Mo_byteAt_10 : xd m_Mo_byteAt 10 (.ireturn) 1 11 := ⟨by decide +kernel, rfl⟩
theorem D_Mo_number_0 : xd m_Mo_number 0 (.iconst 0) 1 1 := ⟨by decide +kernel, rfl⟩
theorem D_Mo_number_1 : xd m_Mo_number 1 (.istore 4) 2 3 := ⟨by decide +kernel, rfl⟩
theorem D_Mo_number_3 : xd m_Mo_number 3 (.iconst 0) 1 4 := ⟨by decide +kernel, rfl⟩
theorem D_Mo_number_4 : xd m_Mo_number 4 (.istore 5) 2 6 := ⟨by decide +kernel, rfl⟩
theorem D_Mo_number_6 : xd m_Mo_number 6 (.iload 5) 2 8 := ⟨by decide +kernel, rfl⟩
theorem D_Mo_number_8 : xd m_Mo_number 8 (.iload_n 2) 1 9 := ⟨by decide +kernel, rfl⟩
theorem D_Mo_number_9 : xd m_Mo_number 9 (.if_icmp .ge 25) 3 12 := ⟨by decide +kernel, rfl⟩
theorem D_Mo_number_12 : xd m_Mo_number 12 (.iload 4) 2 14 := ⟨by decide +kernel, rfl⟩
theorem D_Mo_number_14 : xd m_Mo_number 14 (.bipush 8) 2 16 := ⟨by decide +kernel, rfl⟩
theorem D_Mo_number_16 : xd m_Mo_number 16 (.ishl) 1 17 := ⟨by decide +kernel, rfl⟩
theorem D_Mo_number_17 : xd m_Mo_number 17 (.aload_n 0) 1 18 := ⟨by decide +kernel, rfl⟩
theorem D_Mo_number_18 : xd m_Mo_number 18 (.iload_n 1) 1 19 := ⟨by decide +kernel, rfl⟩
theorem D_Mo_number_19 : xd m_Mo_number 19 (.iload 5) 2 21 := ⟨by decide +kernel, rfl⟩
theorem D_Mo_number_21 : xd m_Mo_number 21 (.iadd) 1 22 := ⟨by decide +kernel, rfl⟩
theorem D_Mo_number_22 : xd m_Mo_number 22 (.invokevirtual 200) 3 25 := ⟨by decide +kernel, rfl⟩
theorem D_Mo_number_25 : xd m_Mo_number 25 (.ior) 1 26 := ⟨by decide +kernel, rfl⟩
theorem D_Mo_number_26 : xd m_Mo_number 26 (.istore 4) 2 28 := ⟨by decide +kernel, rfl⟩
theorem D_Mo_number_28 : xd m_Mo_number 28 (.iinc 5 1) 3 31 := ⟨by decide +kernel, rfl⟩
theorem D_Mo_number_31 : xd m_Mo_number 31 (.goto (-25)) 3 34 := ⟨by decide +kernel, rfl⟩
theorem D_Mo_number_34 : xd m_Mo_number 34 (.iload_n 3) 1 35 := ⟨by decide +kernel, rfl⟩
theorem D_Mo_number_35 : xd m_Mo_number 35 (.ifCond .eq 22) 3 38 := ⟨by decide +kernel, rfl⟩
theorem D_Mo_number_38 : xd m_Mo_number 38 (.iload_n 2) 1 39 := ⟨by decide +kernel, rfl⟩
theorem D_Mo_number_39 : xd m_Mo_number 39 (.iconst 4) 1 40 := ⟨by decide +kernel, rfl⟩
theorem D_Mo_number_40 : xd m_Mo_number 40 (.if_icmp .ge 17) 3 43 := ⟨by decide +kernel, rfl⟩
theorem D_Mo_number_43 : xd m_Mo_number 43 (.aload_n 0) 1 44 := ⟨by decide +kernel, rfl⟩
theorem D_Mo_number_44 : xd m_Mo_number 44 (.iload_n 1) 1 45 := ⟨by decide +kernel, rfl⟩
theorem D_Mo_number_45 : xd m_Mo_number 45 (.invokevirtual 200) 3 48 := ⟨by decide +kernel, rfl⟩
theorem D_Mo_number_48 : xd m_Mo_number 48 (.bipush 127) 2 50 := ⟨by decide +kernel, rfl⟩
theorem D_Mo_number_50 : xd m_Mo_number 50 (.if_icmp .le 7) 3 53 := ⟨by decide +kernel, rfl⟩
theorem D_Mo_number_53 : xd m_Mo_number 53 (.iconst 1) 1 54 := ⟨by decide +kernel, rfl⟩
theorem D_Mo_number_54 : xd m_Mo_number 54 (.goto 4) 3 57 := ⟨by decide +kernel, rfl⟩
theorem D_Mo_number_57 : xd m_Mo_number 57 (.iconst 0) 1 58 := ⟨by decide +kernel, rfl⟩
theorem D_Mo_number_58 : xd m_Mo_number 58 (.istore 5) 2 60 := ⟨by decide +kernel, rfl⟩
theorem D_Mo_number_60 : xd m_Mo_number 60 (.iload 5) 2 62 := ⟨by decide +kernel, rfl⟩
theorem D_Mo_number_62 : xd m_Mo_number 62 (.ifCond .eq 15) 3 65 := ⟨by decide +kernel, rfl⟩
theorem D_Mo_number_65 : xd m_Mo_number 65 (.iload 4) 2 67 := ⟨by decide +kernel, rfl⟩
theorem D_Mo_number_67 : xd m_Mo_number 67 (.iconst 1) 1 68 := ⟨by decide +kernel, rfl⟩
theorem D_Mo_number_68 : xd m_Mo_number 68 (.bipush 8) 2 70 := ⟨by decide +kernel, rfl⟩
theorem D_Mo_number_70 : xd m_Mo_number 70 (.iload_n 2) 1 71 := ⟨by decide +kernel, rfl⟩
theorem D_Mo_number_71 : xd m_Mo_number 71 (.imul) 1 72 := ⟨by decide +kernel, rfl⟩
theorem D_Mo_number_72 : xd m_Mo_number 72 (.ishl) 1 73 := ⟨by decide +kernel, rfl⟩
theorem D_Mo_number_73 : xd m_Mo_number 73 (.isub) 1 74 := ⟨by decide +kernel, rfl⟩
theorem D_Mo_number_74 : xd m_Mo_number 74 (.goto 5) 3 77 := ⟨by decide +kernel, rfl⟩
theorem D_Mo_number_77 : xd m_Mo_number 77 (.iload 4) 2 79 := ⟨by decide +kernel, rfl⟩
theorem D_Mo_number_79 : xd m_Mo_number 79 (.ireturn) 1 80 := ⟨by decide +kernel, rfl⟩
theorem D_Mo_among_0 : xd m_Mo_among 0 (.iload_n 0) 1 1 := ⟨by decide +kernel, rfl⟩
theorem D_Mo_among_1 : xd m_Mo_among 1 (.iload_n 1) 1 2 := ⟨by decide +kernel, rfl⟩
theorem D_Mo_among_2 : xd m_Mo_among 2 (.isub) 1 3 := ⟨by decide +kernel, rfl⟩
theorem D_Mo_among_3 : xd m_Mo_among 3 (.iconst 1) 1 4 := ⟨by decide +kernel, rfl⟩
theorem D_Mo_among_4 : xd m_Mo_among 4 (.iadd) 1 5 := ⟨by decide +kernel, rfl⟩
theorem D_Mo_among_5 : xd m_Mo_among 5 (.ireturn) 1 6 := ⟨by decide +kernel, rfl⟩
theorem D_Mo_length_0 : xd m_Mo_length 0 (.aload_n 0) 1 1 := ⟨by decide +kernel, rfl⟩
theorem D_Mo_length_1 : xd m_Mo_length 1 (.aload_n 0) 1 2 := ⟨by decide +kernel, rfl⟩
theorem D_Mo_length_2 : xd m_Mo_length 2 (.getfield 203) 3 5 := ⟨by decide +kernel, rfl⟩
theorem D_Mo_length_5 : xd m_Mo_length 5 (.invokevirtual 200) 3 8 := ⟨by decide +kernel, rfl⟩
theorem D_Mo_length_8 : xd m_Mo_length 8 (.istore_n 1) 1 9 := ⟨by decide +kernel, rfl⟩
theorem D_Mo_length_9 : xd m_Mo_length 9 (.aload_n 0) 1 10 := ⟨by decide +kernel, rfl⟩
theorem D_Mo_length_10 : xd m_Mo_length 10 (.getfield 206) 3 13 := ⟨by decide +kernel, rfl⟩
theorem D_Mo_length_13 : xd m_Mo_length 13 (.aload_n 0) 1 14 := ⟨by decide +kernel, rfl⟩
theorem D_Mo_length_14 : xd m_Mo_length 14 (.getfield 203) 3 17 := ⟨by decide +kernel, rfl⟩
theorem D_Mo_length_17 : xd m_Mo_length 17 (.isub) 1 18 := ⟨by decide +kernel, rfl⟩
theorem D_Mo_length_18 : xd m_Mo_length 18 (.iconst 1) 1 19 := ⟨by decide +kernel, rfl⟩
theorem D_Mo_length_19 : xd m_Mo_length 19 (.isub) 1 20 := ⟨by decide +kernel, rfl⟩
theorem D_Mo_length_20 : xd m_Mo_length 20 (.istore_n 2) 1 21 := ⟨by decide +kernel, rfl⟩
theorem D_Mo_length_21 : xd m_Mo_length 21 (.lconst 0) 1 22 := ⟨by decide +kernel, rfl⟩
theorem D_Mo_length_22 : xd m_Mo_length 22 (.lstore_n 3) 1 23 := ⟨by decide +kernel, rfl⟩
theorem D_Mo_length_23 : xd m_Mo_length 23 (.iload_n 1) 1 24 := ⟨by decide +kernel, rfl⟩
theorem D_Mo_length_24 : xd m_Mo_length 24 (.bipush 127) 2 26 := ⟨by decide +kernel, rfl⟩
theorem D_Mo_length_26 : xd m_Mo_length 26 (.if_icmp .le 22) 3 29 := ⟨by decide +kernel, rfl⟩
theorem D_Mo_length_29 : xd m_Mo_length 29 (.iload_n 1) 1 30 := ⟨by decide +kernel, rfl⟩
theorem D_Mo_length_30 : xd m_Mo_length 30 (.sipush 132) 3 33 := ⟨by decide +kernel, rfl⟩
theorem D_Mo_length_33 : xd m_Mo_length 33 (.if_icmp .ge 15) 3 36 := ⟨by decide +kernel, rfl⟩
theorem D_Mo_length_36 : xd m_Mo_length 36 (.iload_n 1) 1 37 := ⟨by decide +kernel, rfl⟩
theorem D_Mo_length_37 : xd m_Mo_length 37 (.sipush 128) 3 40 := ⟨by decide +kernel, rfl⟩
theorem D_Mo_length_40 : xd m_Mo_length 40 (.invokestatic 209) 3 43 := ⟨by decide +kernel, rfl⟩
theorem D_Mo_length_43 : xd m_Mo_length 43 (.i2l) 1 44 := ⟨by decide +kernel, rfl⟩
theorem D_Mo_length_44 : xd m_Mo_length 44 (.lstore_n 3) 1 45 := ⟨by decide +kernel, rfl⟩
theorem D_Mo_length_45 : xd m_Mo_length 45 (.goto 313) 3 48 := ⟨by decide +kernel, rfl⟩
theorem D_Mo_length_48 : xd m_Mo_length 48 (.iload_n 1) 1 49 := ⟨by decide +kernel, rfl⟩
theorem D_Mo_length_49 : xd m_Mo_length 49 (.sipush 132) 3 52 := ⟨by decide +kernel, rfl⟩
theorem D_Mo_length_52 : xd m_Mo_length 52 (.if_icmp .eq 10) 3 55 := ⟨by decide +kernel, rfl⟩
theorem D_Mo_length_55 : xd m_Mo_length 55 (.iload_n 1) 1 56 := ⟨by decide +kernel, rfl⟩
theorem D_Mo_length_56 : xd m_Mo_length 56 (.sipush 137) 3 59 := ⟨by decide +kernel, rfl⟩
theorem D_Mo_length_59 : xd m_Mo_length 59 (.if_icmp .ne 10) 3 62 := ⟨by decide +kernel, rfl⟩
theorem D_Mo_length_62 : xd m_Mo_length 62 (.ldc2_w 213) 3 65 := ⟨by decide +kernel, rfl⟩
theorem D_Mo_length_65 : xd m_Mo_length 65 (.lstore_n 3) 1 66 := ⟨by decide +kernel, rfl⟩
theorem D_Mo_length_66 : xd m_Mo_length 66 (.goto 292) 3 69 := ⟨by decide +kernel, rfl⟩
theorem D_Mo_length_69 : xd m_Mo_length 69 (.iload_n 1) 1 70 := ⟨by decide +kernel, rfl⟩
theorem D_Mo_length_70 : xd m_Mo_length 70 (.sipush 132) 3 73 := ⟨by decide +kernel, rfl⟩
theorem D_Mo_length_73 : xd m_Mo_length 73 (.if_icmp .le 22) 3 76 := ⟨by decide +kernel, rfl⟩
theorem D_Mo_length_76 : xd m_Mo_length 76 (.iload_n 1) 1 77 := ⟨by decide +kernel, rfl⟩
theorem D_Mo_length_77 : xd m_Mo_length 77 (.sipush 137) 3 80 := ⟨by decide +kernel, rfl⟩
theorem D_Mo_length_80 : xd m_Mo_length 80 (.if_icmp .ge 15) 3 83 := ⟨by decide +kernel, rfl⟩
theorem D_Mo_length_83 : xd m_Mo_length 83 (.iload_n 1) 1 84 := ⟨by decide +kernel, rfl⟩
theorem D_Mo_length_84 : xd m_Mo_length 84 (.sipush 133) 3 87 := ⟨by decide +kernel, rfl⟩
theorem D_Mo_length_87 : xd m_Mo_length 87 (.invokestatic 209) 3 90 := ⟨by decide +kernel, rfl⟩
theorem D_Mo_length_90 : xd m_Mo_length 90 (.i2l) 1 91 := ⟨by decide +kernel, rfl⟩
theorem D_Mo_length_91 : xd m_Mo_length 91 (.lstore_n 3) 1 92 := ⟨by decide +kernel, rfl⟩
theorem D_Mo_length_92 : xd m_Mo_length 92 (.goto 266) 3 95 := ⟨by decide +kernel, rfl⟩
theorem D_Mo_length_95 : xd m_Mo_length 95 (.iload_n 1) 1 96 := ⟨by decide +kernel, rfl⟩
theorem D_Mo_length_96 : xd m_Mo_length 96 (.sipush 139) 3 99 := ⟨by decide +kernel, rfl⟩
theorem D_Mo_length_99 : xd m_Mo_length 99 (.if_icmp .ne 10) 3 102 := ⟨by decide +kernel, rfl⟩
theorem D_Mo_length_102 : xd m_Mo_length 102 (.ldc2_w 215) 3 105 := ⟨by decide +kernel, rfl⟩
theorem D_Mo_length_105 : xd m_Mo_length 105 (.lstore_n 3) 1 106 := ⟨by decide +kernel, rfl⟩
theorem D_Mo_length_106 : xd m_Mo_length 106 (.goto 252) 3 109 := ⟨by decide +kernel, rfl⟩
theorem D_Mo_length_109 : xd m_Mo_length 109 (.iload_n 1) 1 110 := ⟨by decide +kernel, rfl⟩
theorem D_Mo_length_110 : xd m_Mo_length 110 (.sipush 142) 3 113 := ⟨by decide +kernel, rfl⟩
theorem D_Mo_length_113 : xd m_Mo_length 113 (.if_icmp .le 19) 3 116 := ⟨by decide +kernel, rfl⟩
theorem D_Mo_length_116 : xd m_Mo_length 116 (.iload_n 1) 1 117 := ⟨by decide +kernel, rfl⟩
theorem D_Mo_length_117 : xd m_Mo_length 117 (.sipush 171) 3 120 := ⟨by decide +kernel, rfl⟩
theorem D_Mo_length_120 : xd m_Mo_length 120 (.if_icmp .ge 12) 3 123 := ⟨by decide +kernel, rfl⟩
theorem D_Mo_length_123 : xd m_Mo_length 123 (.iload_n 1) 1 124 := ⟨by decide +kernel, rfl⟩
theorem D_Mo_length_124 : xd m_Mo_length 124 (.invokestatic 217) 3 127 := ⟨by decide +kernel, rfl⟩
theorem D_Mo_length_127 : xd m_Mo_length 127 (.i2l) 1 128 := ⟨by decide +kernel, rfl⟩
theorem D_Mo_length_128 : xd m_Mo_length 128 (.lstore_n 3) 1 129 := ⟨by decide +kernel, rfl⟩
theorem D_Mo_length_129 : xd m_Mo_length 129 (.goto 229) 3 132 := ⟨by decide +kernel, rfl⟩
theorem D_Mo_length_132 : xd m_Mo_length 132 (.iload_n 1) 1 133 := ⟨by decide +kernel, rfl⟩
theorem D_Mo_length_133 : xd m_Mo_length 133 (.sipush 234) 3 136 := ⟨by decide +kernel, rfl⟩
theorem D_Mo_length_136 : xd m_Mo_length 136 (.if_icmp .le 22) 3 139 := ⟨by decide +kernel, rfl⟩
theorem D_Mo_length_139 : xd m_Mo_length 139 (.iload_n 1) 1 140 := ⟨by decide +kernel, rfl⟩
theorem D_Mo_length_140 : xd m_Mo_length 140 (.sipush 239) 3 143 := ⟨by decide +kernel, rfl⟩
theorem D_Mo_length_143 : xd m_Mo_length 143 (.if_icmp .ge 15) 3 146 := ⟨by decide +kernel, rfl⟩
theorem D_Mo_length_146 : xd m_Mo_length 146 (.iload_n 1) 1 147 := ⟨by decide +kernel, rfl⟩
theorem D_Mo_length_147 : xd m_Mo_length 147 (.sipush 235) 3 150 := ⟨by decide +kernel, rfl⟩
theorem D_Mo_length_150 : xd m_Mo_length 150 (.invokestatic 209) 3 153 := ⟨by decide +kernel, rfl⟩
theorem D_Mo_length_153 : xd m_Mo_length 153 (.i2l) 1 154 := ⟨by decide +kernel, rfl⟩
theorem D_Mo_length_154 : xd m_Mo_length 154 (.lstore_n 3) 1 155 := ⟨by decide +kernel, rfl⟩
theorem D_Mo_length_155 : xd m_Mo_length 155 (.goto 203) 3 158 := ⟨by decide +kernel, rfl⟩
theorem D_Mo_length_158 : xd m_Mo_length 158 (.iload_n 1) 1 159 := ⟨by decide +kernel, rfl⟩
theorem D_Mo_length_159 : xd m_Mo_length 159 (.sipush 238) 3 162 := ⟨by decide +kernel, rfl⟩
theorem D_Mo_length_162 : xd m_Mo_length 162 (.if_icmp .le 61) 3 165 := ⟨by decide +kernel, rfl⟩
theorem D_Mo_length_165 : xd m_Mo_length 165 (.iload_n 1) 1 166 := ⟨by decide +kernel, rfl⟩
theorem D_Mo_length_166 : xd m_Mo_length 166 (.sipush 243) 3 169 := ⟨by decide +kernel, rfl⟩
theorem D_Mo_length_169 : xd m_Mo_length 169 (.if_icmp .ge 54) 3 172 := ⟨by decide +kernel, rfl⟩
theorem D_Mo_length_172 : xd m_Mo_length 172 (.iload_n 1) 1 173 := ⟨by decide +kernel, rfl⟩
theorem D_Mo_length_173 : xd m_Mo_length 173 (.sipush 239) 3 176 := ⟨by decide +kernel, rfl⟩
theorem D_Mo_length_176 : xd m_Mo_length 176 (.invokestatic 209) 3 179 := ⟨by decide +kernel, rfl⟩
theorem D_Mo_length_179 : xd m_Mo_length 179 (.i2l) 1 180 := ⟨by decide +kernel, rfl⟩
theorem D_Mo_length_180 : xd m_Mo_length 180 (.lstore_n 3) 1 181 := ⟨by decide +kernel, rfl⟩
theorem D_Mo_length_181 : xd m_Mo_length 181 (.lload_n 3) 1 182 := ⟨by decide +kernel, rfl⟩
theorem D_Mo_length_182 : xd m_Mo_length 182 (.iload_n 2) 1 183 := ⟨by decide +kernel, rfl⟩
theorem D_Mo_length_183 : xd m_Mo_length 183 (.i2l) 1 184 := ⟨by decide +kernel, rfl⟩
theorem D_Mo_length_184 : xd m_Mo_length 184 (.lcmp) 1 185 := ⟨by decide +kernel, rfl⟩
theorem D_Mo_length_185 : xd m_Mo_length 185 (.ifCond .gt 173) 3 188 := ⟨by decide +kernel, rfl⟩
theorem D_Mo_length_188 : xd m_Mo_length 188 (.aload_n 0) 1 189 := ⟨by decide +kernel, rfl⟩
theorem D_Mo_length_189 : xd m_Mo_length 189 (.aload_n 0) 1 190 := ⟨by decide +kernel, rfl⟩
theorem D_Mo_length_190 : xd m_Mo_length 190 (.getfield 203) 3 193 := ⟨by decide +kernel, rfl⟩
theorem D_Mo_length_193 : xd m_Mo_length 193 (.iconst 1) 1 194 := ⟨by decide +kernel, rfl⟩
theorem D_Mo_length_194 : xd m_Mo_length 194 (.iadd) 1 195 := ⟨by decide +kernel, rfl⟩
theorem D_Mo_length_195 : xd m_Mo_length 195 (.lload_n 3) 1 196 := ⟨by decide +kernel, rfl⟩
theorem D_Mo_length_196 : xd m_Mo_length 196 (.l2i) 1 197 := ⟨by decide +kernel, rfl⟩
theorem D_Mo_length_197 : xd m_Mo_length 197 (.iconst 0) 1 198 := ⟨by decide +kernel, rfl⟩
theorem D_Mo_length_198 : xd m_Mo_length 198 (.invokevirtual 220) 3 201 := ⟨by decide +kernel, rfl⟩
theorem D_Mo_length_201 : xd m_Mo_length 201 (.istore 5) 2 203 := ⟨by decide +kernel, rfl⟩
theorem D_Mo_length_203 : xd m_Mo_length 203 (.iload 5) 2 205 := ⟨by decide +kernel, rfl⟩
theorem D_Mo_length_205 : xd m_Mo_length 205 (.ifCond .ge 9) 3 208 := ⟨by decide +kernel, rfl⟩
theorem D_Mo_length_208 : xd m_Mo_length 208 (.ldc2_w 224) 3 211 := ⟨by decide +kernel, rfl⟩
theorem D_Mo_length_211 : xd m_Mo_length 211 (.goto 8) 3 214 := ⟨by decide +kernel, rfl⟩
theorem D_Mo_length_214 : xd m_Mo_length 214 (.lload_n 3) 1 215 := ⟨by decide +kernel, rfl⟩
theorem D_Mo_length_215 : xd m_Mo_length 215 (.iload 5) 2 217 := ⟨by decide +kernel, rfl⟩
theorem D_Mo_length_217 : xd m_Mo_length 217 (.i2l) 1 218 := ⟨by decide +kernel, rfl⟩
theorem D_Mo_length_218 : xd m_Mo_length 218 (.ladd) 1 219 := ⟨by decide +kernel, rfl⟩
theorem D_Mo_length_219 : xd m_Mo_length 219 (.lstore_n 3) 1 220 := ⟨by decide +kernel, rfl⟩
theorem D_Mo_length_220 : xd m_Mo_length 220 (.goto 138) 3 223 := ⟨by decide +kernel, rfl⟩
theorem D_Mo_length_223 : xd m_Mo_length 223 (.iload_n 1) 1 224 := ⟨by decide +kernel, rfl⟩
theorem D_Mo_length_224 : xd m_Mo_length 224 (.sipush 242) 3 227 := ⟨by decide +kernel, rfl⟩
theorem D_Mo_length_227 : xd m_Mo_length 227 (.if_icmp .le 66) 3 230 := ⟨by decide +kernel, rfl⟩
theorem D_Mo_length_230 : xd m_Mo_length 230 (.iload_n 1) 1 231 := ⟨by decide +kernel, rfl⟩
theorem D_Mo_length_231 : xd m_Mo_length 231 (.sipush 247) 3 234 := ⟨by decide +kernel, rfl⟩
theorem D_Mo_length_234 : xd m_Mo_length 234 (.if_icmp .ge 59) 3 237 := ⟨by decide +kernel, rfl⟩
theorem D_Mo_length_237 : xd m_Mo_length 237 (.iload_n 1) 1 238 := ⟨by decide +kernel, rfl⟩
theorem D_Mo_length_238 : xd m_Mo_length 238 (.sipush 243) 3 241 := ⟨by decide +kernel, rfl⟩
theorem D_Mo_length_241 : xd m_Mo_length 241 (.invokestatic 209) 3 244 := ⟨by decide +kernel, rfl⟩
theorem D_Mo_length_244 : xd m_Mo_length 244 (.bipush 14) 2 246 := ⟨by decide +kernel, rfl⟩
theorem D_Mo_length_246 : xd m_Mo_length 246 (.iadd) 1 247 := ⟨by decide +kernel, rfl⟩
theorem D_Mo_length_247 : xd m_Mo_length 247 (.i2l) 1 248 := ⟨by decide +kernel, rfl⟩
theorem D_Mo_length_248 : xd m_Mo_length 248 (.lstore_n 3) 1 249 := ⟨by decide +kernel, rfl⟩
theorem D_Mo_length_249 : xd m_Mo_length 249 (.lload_n 3) 1 250 := ⟨by decide +kernel, rfl⟩
theorem D_Mo_length_250 : xd m_Mo_length 250 (.iload_n 2) 1 251 := ⟨by decide +kernel, rfl⟩
theorem D_Mo_length_251 : xd m_Mo_length 251 (.i2l) 1 252 := ⟨by decide +kernel, rfl⟩
theorem D_Mo_length_252 : xd m_Mo_length 252 (.lcmp) 1 253 := ⟨by decide +kernel, rfl⟩
theorem D_Mo_length_253 : xd m_Mo_length 253 (.ifCond .gt 35) 3 256 := ⟨by decide +kernel, rfl⟩
theorem D_Mo_length_256 : xd m_Mo_length 256 (.lload_n 3) 1 257 := ⟨by decide +kernel, rfl⟩
theorem D_Mo_length_257 : xd m_Mo_length 257 (.aload_n 0) 1 258 := ⟨by decide +kernel, rfl⟩
theorem D_Mo_length_258 : xd m_Mo_length 258 (.aload_n 0) 1 259 := ⟨by decide +kernel, rfl⟩
theorem D_Mo_length_259 : xd m_Mo_length 259 (.getfield 203) 3 262 := ⟨by decide +kernel, rfl⟩
theorem D_Mo_length_262 : xd m_Mo_length 262 (.lload_n 3) 1 263 := ⟨by decide +kernel, rfl⟩
theorem D_Mo_length_263 : xd m_Mo_length 263 (.l2i) 1 264 := ⟨by decide +kernel, rfl⟩
theorem D_Mo_length_264 : xd m_Mo_length 264 (.iadd) 1 265 := ⟨by decide +kernel, rfl⟩
theorem D_Mo_length_265 : xd m_Mo_length 265 (.iconst 1) 1 266 := ⟨by decide +kernel, rfl⟩
theorem D_Mo_length_266 : xd m_Mo_length 266 (.isub) 1 267 := ⟨by decide +kernel, rfl⟩
theorem D_Mo_length_267 : xd m_Mo_length 267 (.invokevirtual 200) 3 270 := ⟨by decide +kernel, rfl⟩
theorem D_Mo_length_270 : xd m_Mo_length 270 (.i2l) 1 271 := ⟨by decide +kernel, rfl⟩
theorem D_Mo_length_271 : xd m_Mo_length 271 (.ladd) 1 272 := ⟨by decide +kernel, rfl⟩
theorem D_Mo_length_272 : xd m_Mo_length 272 (.aload_n 0) 1 273 := ⟨by decide +kernel, rfl⟩
theorem D_Mo_length_273 : xd m_Mo_length 273 (.aload_n 0) 1 274 := ⟨by decide +kernel, rfl⟩
theorem D_Mo_length_274 : xd m_Mo_length 274 (.getfield 203) 3 277 := ⟨by decide +kernel, rfl⟩
theorem D_Mo_length_277 : xd m_Mo_length 277 (.lload_n 3) 1 278 := ⟨by decide +kernel, rfl⟩
theorem D_Mo_length_278 : xd m_Mo_length 278 (.l2i) 1 279 := ⟨by decide +kernel, rfl⟩
theorem D_Mo_length_279 : xd m_Mo_length 279 (.iadd) 1 280 := ⟨by decide +kernel, rfl⟩
theorem D_Mo_length_280 : xd m_Mo_length 280 (.invokevirtual 200) 3 283 := ⟨by decide +kernel, rfl⟩
theorem D_Mo_length_283 : xd m_Mo_length 283 (.i2l) 1 284 := ⟨by decide +kernel, rfl⟩
theorem D_Mo_length_284 : xd m_Mo_length 284 (.ladd) 1 285 := ⟨by decide +kernel, rfl⟩
theorem D_Mo_length_285 : xd m_Mo_length 285 (.goto 4) 3 288 := ⟨by decide +kernel, rfl⟩
theorem D_Mo_length_288 : xd m_Mo_length 288 (.lload_n 3) 1 289 := ⟨by decide +kernel, rfl⟩
theorem D_Mo_length_289 : xd m_Mo_length 289 (.lstore_n 3) 1 290 := ⟨by decide +kernel, rfl⟩
theorem D_Mo_length_290 : xd m_Mo_length 290 (.goto 68) 3 293 := ⟨by decide +kernel, rfl⟩
theorem D_Mo_length_293 : xd m_Mo_length 293 (.iload_n 1) 1 294 := ⟨by decide +kernel, rfl⟩
theorem D_Mo_length_294 : xd m_Mo_length 294 (.sipush 247) 3 297 := ⟨by decide +kernel, rfl⟩
theorem D_Mo_length_297 : xd m_Mo_length 297 (.if_icmp .ne 36) 3 300 := ⟨by decide +kernel, rfl⟩
theorem D_Mo_length_300 : xd m_Mo_length 300 (.ldc2_w 226) 3 303 := ⟨by decide +kernel, rfl⟩
theorem D_Mo_length_303 : xd m_Mo_length 303 (.lstore_n 3) 1 304 := ⟨by decide +kernel, rfl⟩
theorem D_Mo_length_304 : xd m_Mo_length 304 (.lload_n 3) 1 305 := ⟨by decide +kernel, rfl⟩
theorem D_Mo_length_305 : xd m_Mo_length 305 (.iload_n 2) 1 306 := ⟨by decide +kernel, rfl⟩
theorem D_Mo_length_306 : xd m_Mo_length 306 (.i2l) 1 307 := ⟨by decide +kernel, rfl⟩
theorem D_Mo_length_307 : xd m_Mo_length 307 (.lcmp) 1 308 := ⟨by decide +kernel, rfl⟩
theorem D_Mo_length_308 : xd m_Mo_length 308 (.ifCond .gt 20) 3 311 := ⟨by decide +kernel, rfl⟩
theorem D_Mo_length_311 : xd m_Mo_length 311 (.lload_n 3) 1 312 := ⟨by decide +kernel, rfl⟩
theorem D_Mo_length_312 : xd m_Mo_length 312 (.aload_n 0) 1 313 := ⟨by decide +kernel, rfl⟩
theorem D_Mo_length_313 : xd m_Mo_length 313 (.aload_n 0) 1 314 := ⟨by decide +kernel, rfl⟩
theorem D_Mo_length_314 : xd m_Mo_length 314 (.getfield 203) 3 317 := ⟨by decide +kernel, rfl⟩
theorem D_Mo_length_317 : xd m_Mo_length 317 (.bipush 14) 2 319 := ⟨by decide +kernel, rfl⟩
theorem D_Mo_length_319 : xd m_Mo_length 319 (.iadd) 1 320 := ⟨by decide +kernel, rfl⟩
theorem D_Mo_length_320 : xd m_Mo_length 320 (.invokevirtual 200) 3 323 := ⟨by decide +kernel, rfl⟩
theorem D_Mo_length_323 : xd m_Mo_length 323 (.i2l) 1 324 := ⟨by decide +kernel, rfl⟩
theorem D_Mo_length_324 : xd m_Mo_length 324 (.ladd) 1 325 := ⟨by decide +kernel, rfl⟩
theorem D_Mo_length_325 : xd m_Mo_length 325 (.goto 4) 3 328 := ⟨by decide +kernel, rfl⟩
theorem D_Mo_length_328 : xd m_Mo_length 328 (.lload_n 3) 1 329 := ⟨by decide +kernel, rfl⟩
theorem D_Mo_length_329 : xd m_Mo_length 329 (.lstore_n 3) 1 330 := ⟨by decide +kernel, rfl⟩
theorem D_Mo_length_330 : xd m_Mo_length 330 (.goto 28) 3 333 := ⟨by decide +kernel, rfl⟩
theorem D_Mo_length_333 : xd m_Mo_length 333 (.iload_n 1) 1 334 := ⟨by decide +kernel, rfl⟩
theorem D_Mo_length_334 : xd m_Mo_length 334 (.sipush 248) 3 337 := ⟨by decide +kernel, rfl⟩
theorem D_Mo_length_337 : xd m_Mo_length 337 (.if_icmp .ne 10) 3 340 := ⟨by decide +kernel, rfl⟩
theorem D_Mo_length_340 : xd m_Mo_length 340 (.ldc2_w 228) 3 343 := ⟨by decide +kernel, rfl⟩
theorem D_Mo_length_343 : xd m_Mo_length 343 (.lstore_n 3) 1 344 := ⟨by decide +kernel, rfl⟩
theorem D_Mo_length_344 : xd m_Mo_length 344 (.goto 14) 3 347 := ⟨by decide +kernel, rfl⟩
theorem D_Mo_length_347 : xd m_Mo_length 347 (.iload_n 1) 1 348 := ⟨by decide +kernel, rfl⟩
theorem D_Mo_length_348 : xd m_Mo_length 348 (.sipush 249) 3 351 := ⟨by decide +kernel, rfl⟩
theorem D_Mo_length_351 : xd m_Mo_length 351 (.if_icmp .ne 7) 3 354 := ⟨by decide +kernel, rfl⟩
theorem D_Mo_length_354 : xd m_Mo_length 354 (.ldc2_w 230) 3 357 := ⟨by decide +kernel, rfl⟩
theorem D_Mo_length_357 : xd m_Mo_length 357 (.lstore_n 3) 1 358 := ⟨by decide +kernel, rfl⟩
theorem D_Mo_length_358 : xd m_Mo_length 358 (.lload_n 3) 1 359 := ⟨by decide +kernel, rfl⟩
theorem D_Mo_length_359 : xd m_Mo_length 359 (.iload_n 2) 1 360 := ⟨by decide +kernel, rfl⟩
theorem D_Mo_length_360 : xd m_Mo_length 360 (.i2l) 1 361 := ⟨by decide +kernel, rfl⟩
theorem D_Mo_length_361 : xd m_Mo_length 361 (.lcmp) 1 362 := ⟨by decide +kernel, rfl⟩
theorem D_Mo_length_362 : xd m_Mo_length 362 (.ifCond .gt 8) 3 365 := ⟨by decide +kernel, rfl⟩
theorem D_Mo_length_365 : xd m_Mo_length 365 (.lload_n 3) 1 366 := ⟨by decide +kernel, rfl⟩
theorem D_Mo_length_366 : xd m_Mo_length 366 (.l2i) 1 367 := ⟨by decide +kernel, rfl⟩
theorem D_Mo_length_367 : xd m_Mo_length 367 (.goto 4) 3 370 := ⟨by decide +kernel, rfl⟩
theorem D_Mo_length_370 : xd m_Mo_length 370 (.iconst (-1)) 1 371 := ⟨by decide +kernel, rfl⟩
theorem D_Mo_length_371 : xd m_Mo_length 371 (.ireturn) 1 372 := ⟨by decide +kernel, rfl⟩
theorem D_Mo_moveBytes_0 : xd m_Mo_moveBytes 0 (.iload_n 0) 1 1 := ⟨by decide +kernel, rfl⟩
theorem D_Mo_moveBytes_1 : xd m_Mo_moveBytes 1 (.sipush 147) 3 4 := ⟨by decide +kernel, rfl⟩
theorem D_Mo_moveBytes_4 : xd m_Mo_moveBytes 4 (.if_icmp .ge 9) 3 7 := ⟨by decide +kernel, rfl⟩
theorem D_Mo_moveBytes_7 : xd m_Mo_moveBytes 7 (.iload_n 0) 1 8 := ⟨by decide +kernel, rfl⟩
theorem D_Mo_moveBytes_8 : xd m_Mo_moveBytes 8 (.sipush 142) 3 11 := ⟨by decide +kernel, rfl⟩
theorem D_Mo_moveBytes_11 : xd m_Mo_moveBytes 11 (.isub) 1 12 := ⟨by decide +kernel, rfl⟩
theorem D_Mo_moveBytes_12 : xd m_Mo_moveBytes 12 (.ireturn) 1 13 := ⟨by decide +kernel, rfl⟩
theorem D_Mo_moveBytes_13 : xd m_Mo_moveBytes 13 (.iload_n 0) 1 14 := ⟨by decide +kernel, rfl⟩
theorem D_Mo_moveBytes_14 : xd m_Mo_moveBytes 14 (.sipush 157) 3 17 := ⟨by decide +kernel, rfl⟩
theorem D_Mo_moveBytes_17 : xd m_Mo_moveBytes 17 (.if_icmp .ge 24) 3 20 := ⟨by decide +kernel, rfl⟩
theorem D_Mo_moveBytes_20 : xd m_Mo_moveBytes 20 (.iload_n 0) 1 21 := ⟨by decide +kernel, rfl⟩
theorem D_Mo_moveBytes_21 : xd m_Mo_moveBytes 21 (.sipush 152) 3 24 := ⟨by decide +kernel, rfl⟩
theorem D_Mo_moveBytes_24 : xd m_Mo_moveBytes 24 (.if_icmp .ge 11) 3 27 := ⟨by decide +kernel, rfl⟩
theorem D_Mo_moveBytes_27 : xd m_Mo_moveBytes 27 (.iload_n 0) 1 28 := ⟨by decide +kernel, rfl⟩
theorem D_Mo_moveBytes_28 : xd m_Mo_moveBytes 28 (.sipush 147) 3 31 := ⟨by decide +kernel, rfl⟩
theorem D_Mo_moveBytes_31 : xd m_Mo_moveBytes 31 (.isub) 1 32 := ⟨by decide +kernel, rfl⟩
theorem D_Mo_moveBytes_32 : xd m_Mo_moveBytes 32 (.goto 8) 3 35 := ⟨by decide +kernel, rfl⟩
theorem D_Mo_moveBytes_35 : xd m_Mo_moveBytes 35 (.iload_n 0) 1 36 := ⟨by decide +kernel, rfl⟩
theorem D_Mo_moveBytes_36 : xd m_Mo_moveBytes 36 (.sipush 152) 3 39 := ⟨by decide +kernel, rfl⟩
theorem D_Mo_moveBytes_39 : xd m_Mo_moveBytes 39 (.isub) 1 40 := ⟨by decide +kernel, rfl⟩
theorem D_Mo_moveBytes_40 : xd m_Mo_moveBytes 40 (.ireturn) 1 41 := ⟨by decide +kernel, rfl⟩
theorem D_Mo_moveBytes_41 : xd m_Mo_moveBytes 41 (.iload_n 0) 1 42 := ⟨by decide +kernel, rfl⟩
theorem D_Mo_moveBytes_42 : xd m_Mo_moveBytes 42 (.sipush 161) 3 45 := ⟨by decide +kernel, rfl⟩
theorem D_Mo_moveBytes_45 : xd m_Mo_moveBytes 45 (.if_icmp .ge 9) 3 48 := ⟨by decide +kernel, rfl⟩
theorem D_Mo_moveBytes_48 : xd m_Mo_moveBytes 48 (.iload_n 0) 1 49 := ⟨by decide +kernel, rfl⟩
theorem D_Mo_moveBytes_49 : xd m_Mo_moveBytes 49 (.sipush 156) 3 52 := ⟨by decide +kernel, rfl⟩
theorem D_Mo_moveBytes_52 : xd m_Mo_moveBytes 52 (.isub) 1 53 := ⟨by decide +kernel, rfl⟩
theorem D_Mo_moveBytes_53 : xd m_Mo_moveBytes 53 (.ireturn) 1 54 := ⟨by decide +kernel, rfl⟩
theorem D_Mo_moveBytes_54 : xd m_Mo_moveBytes 54 (.iload_n 0) 1 55 := ⟨by decide +kernel, rfl⟩
theorem D_Mo_moveBytes_55 : xd m_Mo_moveBytes 55 (.sipush 166) 3 58 := ⟨by decide +kernel, rfl⟩
theorem D_Mo_moveBytes_58 : xd m_Mo_moveBytes 58 (.if_icmp .ge 11) 3 61 := ⟨by decide +kernel, rfl⟩
theorem D_Mo_moveBytes_61 : xd m_Mo_moveBytes 61 (.iload_n 0) 1 62 := ⟨by decide +kernel, rfl⟩
theorem D_Mo_moveBytes_62 : xd m_Mo_moveBytes 62 (.sipush 161) 3 65 := ⟨by decide +kernel, rfl⟩
theorem D_Mo_moveBytes_65 : xd m_Mo_moveBytes 65 (.isub) 1 66 := ⟨by decide +kernel, rfl⟩
theorem D_Mo_moveBytes_66 : xd m_Mo_moveBytes 66 (.goto 8) 3 69 := ⟨by decide +kernel, rfl⟩
theorem D_Mo_moveBytes_69 : xd m_Mo_moveBytes 69 (.iload_n 0) 1 70 := ⟨by decide +kernel, rfl⟩
theorem D_Mo_moveBytes_70 : xd m_Mo_moveBytes 70 (.sipush 166) 3 73 := ⟨by decide +kernel, rfl⟩
theorem D_Mo_moveBytes_73 : xd m_Mo_moveBytes 73 (.isub) 1 74 := ⟨by decide +kernel, rfl⟩
theorem D_Mo_moveBytes_74 : xd m_Mo_moveBytes 74 (.ireturn) 1 75 := ⟨by decide +kernel, rfl⟩
theorem D_Mo_isFontTold_0 : xd m_Mo_isFontTold 0 (.iload_n 1) 1 1 := ⟨by decide +kernel, rfl⟩
theorem D_Mo_isFontTold_1 : xd m_Mo_isFontTold 1 (.sipush 242) 3 4 := ⟨by decide +kernel, rfl⟩
theorem D_Mo_isFontTold_4 : xd m_Mo_isFontTold 4 (.if_icmp .le 14) 3 7 := ⟨by decide +kernel, rfl⟩
theorem D_Mo_isFontTold_7 : xd m_Mo_isFontTold 7 (.iload_n 1) 1 8 := ⟨by decide +kernel, rfl⟩
theorem D_Mo_isFontTold_8 : xd m_Mo_isFontTold 8 (.sipush 247) 3 11 := ⟨by decide +kernel, rfl⟩
theorem D_Mo_isFontTold_11 : xd m_Mo_isFontTold 11 (.if_icmp .ge 7) 3 14 := ⟨by decide +kernel, rfl⟩
theorem D_Mo_isFontTold_14 : xd m_Mo_isFontTold 14 (.iconst 1) 1 15 := ⟨by decide +kernel, rfl⟩
theorem D_Mo_isFontTold_15 : xd m_Mo_isFontTold 15 (.goto 4) 3 18 := ⟨by decide +kernel, rfl⟩
theorem D_Mo_isFontTold_18 : xd m_Mo_isFontTold 18 (.iconst 0) 1 19 := ⟨by decide +kernel, rfl⟩
theorem D_Mo_isFontTold_19 : xd m_Mo_isFontTold 19 (.ireturn) 1 20 := ⟨by decide +kernel, rfl⟩
theorem D_Mo_mayStand_0 : xd m_Mo_mayStand 0 (.aload_n 0) 1 1 := ⟨by decide +kernel, rfl⟩
theorem D_Mo_mayStand_1 : xd m_Mo_mayStand 1 (.getfield 232) 3 4 := ⟨by decide +kernel, rfl⟩
theorem D_Mo_mayStand_4 : xd m_Mo_mayStand 4 (.tableswitch 110 0 2 #[28, 55, 90]) 28 32 := ⟨by decide +kernel, rfl⟩
theorem D_Mo_mayStand_32 : xd m_Mo_mayStand 32 (.iload_n 1) 1 33 := ⟨by decide +kernel, rfl⟩
theorem D_Mo_mayStand_33 : xd m_Mo_mayStand 33 (.sipush 247) 3 36 := ⟨by decide +kernel, rfl⟩
theorem D_Mo_mayStand_36 : xd m_Mo_mayStand 36 (.if_icmp .ne 21) 3 39 := ⟨by decide +kernel, rfl⟩
theorem D_Mo_mayStand_39 : xd m_Mo_mayStand 39 (.aload_n 0) 1 40 := ⟨by decide +kernel, rfl⟩
theorem D_Mo_mayStand_40 : xd m_Mo_mayStand 40 (.aload_n 0) 1 41 := ⟨by decide +kernel, rfl⟩
theorem D_Mo_mayStand_41 : xd m_Mo_mayStand 41 (.getfield 203) 3 44 := ⟨by decide +kernel, rfl⟩
theorem D_Mo_mayStand_44 : xd m_Mo_mayStand 44 (.iconst 1) 1 45 := ⟨by decide +kernel, rfl⟩
theorem D_Mo_mayStand_45 : xd m_Mo_mayStand 45 (.iadd) 1 46 := ⟨by decide +kernel, rfl⟩
theorem D_Mo_mayStand_46 : xd m_Mo_mayStand 46 (.invokevirtual 200) 3 49 := ⟨by decide +kernel, rfl⟩
theorem D_Mo_mayStand_49 : xd m_Mo_mayStand 49 (.iconst 2) 1 50 := ⟨by decide +kernel, rfl⟩
theorem D_Mo_mayStand_50 : xd m_Mo_mayStand 50 (.if_icmp .ne 7) 3 53 := ⟨by decide +kernel, rfl⟩
theorem D_Mo_mayStand_53 : xd m_Mo_mayStand 53 (.iconst 1) 1 54 := ⟨by decide +kernel, rfl⟩
theorem D_Mo_mayStand_54 : xd m_Mo_mayStand 54 (.goto 4) 3 57 := ⟨by decide +kernel, rfl⟩
theorem D_Mo_mayStand_57 : xd m_Mo_mayStand 57 (.iconst 0) 1 58 := ⟨by decide +kernel, rfl⟩
theorem D_Mo_mayStand_58 : xd m_Mo_mayStand 58 (.ireturn) 1 59 := ⟨by decide +kernel, rfl⟩
theorem D_Mo_mayStand_59 : xd m_Mo_mayStand 59 (.iload_n 1) 1 60 := ⟨by decide +kernel, rfl⟩
theorem D_Mo_mayStand_60 : xd m_Mo_mayStand 60 (.sipush 138) 3 63 := ⟨by decide +kernel, rfl⟩
theorem D_Mo_mayStand_63 : xd m_Mo_mayStand 63 (.if_icmp .eq 25) 3 66 := ⟨by decide +kernel, rfl⟩
theorem D_Mo_mayStand_66 : xd m_Mo_mayStand 66 (.aload_n 0) 1 67 := ⟨by decide +kernel, rfl⟩
theorem D_Mo_mayStand_67 : xd m_Mo_mayStand 67 (.iload_n 1) 1 68 := ⟨by decide +kernel, rfl⟩
theorem D_Mo_mayStand_68 : xd m_Mo_mayStand 68 (.invokevirtual 235) 3 71 := ⟨by decide +kernel, rfl⟩
theorem D_Mo_mayStand_71 : xd m_Mo_mayStand 71 (.ifCond .ne 17) 3 74 := ⟨by decide +kernel, rfl⟩
theorem D_Mo_mayStand_74 : xd m_Mo_mayStand 74 (.iload_n 1) 1 75 := ⟨by decide +kernel, rfl⟩
theorem D_Mo_mayStand_75 : xd m_Mo_mayStand 75 (.sipush 139) 3 78 := ⟨by decide +kernel, rfl⟩
theorem D_Mo_mayStand_78 : xd m_Mo_mayStand 78 (.if_icmp .eq 10) 3 81 := ⟨by decide +kernel, rfl⟩
theorem D_Mo_mayStand_81 : xd m_Mo_mayStand 81 (.iload_n 1) 1 82 := ⟨by decide +kernel, rfl⟩
theorem D_Mo_mayStand_82 : xd m_Mo_mayStand 82 (.sipush 248) 3 85 := ⟨by decide +kernel, rfl⟩
theorem D_Mo_mayStand_85 : xd m_Mo_mayStand 85 (.if_icmp .ne 7) 3 88 := ⟨by decide +kernel, rfl⟩
theorem D_Mo_mayStand_88 : xd m_Mo_mayStand 88 (.iconst 1) 1 89 := ⟨by decide +kernel, rfl⟩
theorem D_Mo_mayStand_89 : xd m_Mo_mayStand 89 (.goto 4) 3 92 := ⟨by decide +kernel, rfl⟩
theorem D_Mo_mayStand_92 : xd m_Mo_mayStand 92 (.iconst 0) 1 93 := ⟨by decide +kernel, rfl⟩
theorem D_Mo_mayStand_93 : xd m_Mo_mayStand 93 (.ireturn) 1 94 := ⟨by decide +kernel, rfl⟩
theorem D_Mo_mayStand_94 : xd m_Mo_mayStand 94 (.iload_n 1) 1 95 := ⟨by decide +kernel, rfl⟩
theorem D_Mo_mayStand_95 : xd m_Mo_mayStand 95 (.sipush 139) 3 98 := ⟨by decide +kernel, rfl⟩
theorem D_Mo_mayStand_98 : xd m_Mo_mayStand 98 (.if_icmp .eq 14) 3 101 := ⟨by decide +kernel, rfl⟩
theorem D_Mo_mayStand_101 : xd m_Mo_mayStand 101 (.iload_n 1) 1 102 := ⟨by decide +kernel, rfl⟩
theorem D_Mo_mayStand_102 : xd m_Mo_mayStand 102 (.sipush 247) 3 105 := ⟨by decide +kernel, rfl⟩
theorem D_Mo_mayStand_105 : xd m_Mo_mayStand 105 (.if_icmp .ge 7) 3 108 := ⟨by decide +kernel, rfl⟩
theorem D_Mo_mayStand_108 : xd m_Mo_mayStand 108 (.iconst 1) 1 109 := ⟨by decide +kernel, rfl⟩
theorem D_Mo_mayStand_109 : xd m_Mo_mayStand 109 (.goto 4) 3 112 := ⟨by decide +kernel, rfl⟩
theorem D_Mo_mayStand_112 : xd m_Mo_mayStand 112 (.iconst 0) 1 113 := ⟨by decide +kernel, rfl⟩
theorem D_Mo_mayStand_113 : xd m_Mo_mayStand 113 (.ireturn) 1 114 := ⟨by decide +kernel, rfl⟩
theorem D_Mo_mayStand_114 : xd m_Mo_mayStand 114 (.iload_n 1) 1 115 := ⟨by decide +kernel, rfl⟩
theorem D_Mo_mayStand_115 : xd m_Mo_mayStand 115 (.sipush 138) 3 118 := ⟨by decide +kernel, rfl⟩
theorem D_Mo_mayStand_118 : xd m_Mo_mayStand 118 (.if_icmp .eq 32) 3 121 := ⟨by decide +kernel, rfl⟩
theorem D_Mo_mayStand_121 : xd m_Mo_mayStand 121 (.aload_n 0) 1 122 := ⟨by decide +kernel, rfl⟩
theorem D_Mo_mayStand_122 : xd m_Mo_mayStand 122 (.iload_n 1) 1 123 := ⟨by decide +kernel, rfl⟩
theorem D_Mo_mayStand_123 : xd m_Mo_mayStand 123 (.invokevirtual 235) 3 126 := ⟨by decide +kernel, rfl⟩
theorem D_Mo_mayStand_126 : xd m_Mo_mayStand 126 (.ifCond .ne 24) 3 129 := ⟨by decide +kernel, rfl⟩
theorem D_Mo_mayStand_129 : xd m_Mo_mayStand 129 (.iload_n 1) 1 130 := ⟨by decide +kernel, rfl⟩
theorem D_Mo_mayStand_130 : xd m_Mo_mayStand 130 (.sipush 249) 3 133 := ⟨by decide +kernel, rfl⟩
theorem D_Mo_mayStand_133 : xd m_Mo_mayStand 133 (.if_icmp .ne 21) 3 136 := ⟨by decide +kernel, rfl⟩
theorem D_Mo_mayStand_136 : xd m_Mo_mayStand 136 (.aload_n 0) 1 137 := ⟨by decide +kernel, rfl⟩
theorem D_Mo_mayStand_137 : xd m_Mo_mayStand 137 (.aload_n 0) 1 138 := ⟨by decide +kernel, rfl⟩
theorem D_Mo_mayStand_138 : xd m_Mo_mayStand 138 (.getfield 203) 3 141 := ⟨by decide +kernel, rfl⟩
theorem D_Mo_mayStand_141 : xd m_Mo_mayStand 141 (.iconst 5) 1 142 := ⟨by decide +kernel, rfl⟩
theorem D_Mo_mayStand_142 : xd m_Mo_mayStand 142 (.iadd) 1 143 := ⟨by decide +kernel, rfl⟩
theorem D_Mo_mayStand_143 : xd m_Mo_mayStand 143 (.invokevirtual 200) 3 146 := ⟨by decide +kernel, rfl⟩
theorem D_Mo_mayStand_146 : xd m_Mo_mayStand 146 (.iconst 2) 1 147 := ⟨by decide +kernel, rfl⟩
theorem D_Mo_mayStand_147 : xd m_Mo_mayStand 147 (.if_icmp .ne 7) 3 150 := ⟨by decide +kernel, rfl⟩
theorem D_Mo_mayStand_150 : xd m_Mo_mayStand 150 (.iconst 1) 1 151 := ⟨by decide +kernel, rfl⟩
theorem D_Mo_mayStand_151 : xd m_Mo_mayStand 151 (.goto 4) 3 154 := ⟨by decide +kernel, rfl⟩
theorem D_Mo_mayStand_154 : xd m_Mo_mayStand 154 (.iconst 0) 1 155 := ⟨by decide +kernel, rfl⟩
theorem D_Mo_mayStand_155 : xd m_Mo_mayStand 155 (.ireturn) 1 156 := ⟨by decide +kernel, rfl⟩
theorem D_Mo_fontAt_0 : xd m_Mo_fontAt 0 (.iconst (-1)) 1 1 := ⟨by decide +kernel, rfl⟩
theorem D_Mo_fontAt_1 : xd m_Mo_fontAt 1 (.istore_n 2) 1 2 := ⟨by decide +kernel, rfl⟩
theorem D_Mo_fontAt_2 : xd m_Mo_fontAt 2 (.iconst 0) 1 3 := ⟨by decide +kernel, rfl⟩
theorem D_Mo_fontAt_3 : xd m_Mo_fontAt 3 (.istore_n 3) 1 4 := ⟨by decide +kernel, rfl⟩
theorem D_Mo_fontAt_4 : xd m_Mo_fontAt 4 (.iload_n 3) 1 5 := ⟨by decide +kernel, rfl⟩
theorem D_Mo_fontAt_5 : xd m_Mo_fontAt 5 (.aload_n 0) 1 6 := ⟨by decide +kernel, rfl⟩
theorem D_Mo_fontAt_6 : xd m_Mo_fontAt 6 (.getfield 238) 3 9 := ⟨by decide +kernel, rfl⟩
theorem D_Mo_fontAt_9 : xd m_Mo_fontAt 9 (.if_icmp .ge 25) 3 12 := ⟨by decide +kernel, rfl⟩
theorem D_Mo_fontAt_12 : xd m_Mo_fontAt 12 (.aload_n 0) 1 13 := ⟨by decide +kernel, rfl⟩
theorem D_Mo_fontAt_13 : xd m_Mo_fontAt 13 (.getfield 85) 3 16 := ⟨by decide +kernel, rfl⟩
theorem D_Mo_fontAt_16 : xd m_Mo_fontAt 16 (.iload_n 3) 1 17 := ⟨by decide +kernel, rfl⟩
theorem D_Mo_fontAt_17 : xd m_Mo_fontAt 17 (.iaload) 1 18 := ⟨by decide +kernel, rfl⟩
theorem D_Mo_fontAt_18 : xd m_Mo_fontAt 18 (.iload_n 1) 1 19 := ⟨by decide +kernel, rfl⟩
theorem D_Mo_fontAt_19 : xd m_Mo_fontAt 19 (.if_icmp .ne 7) 3 22 := ⟨by decide +kernel, rfl⟩
theorem D_Mo_fontAt_22 : xd m_Mo_fontAt 22 (.iload_n 3) 1 23 := ⟨by decide +kernel, rfl⟩
theorem D_Mo_fontAt_23 : xd m_Mo_fontAt 23 (.goto 4) 3 26 := ⟨by decide +kernel, rfl⟩
theorem D_Mo_fontAt_26 : xd m_Mo_fontAt 26 (.iload_n 2) 1 27 := ⟨by decide +kernel, rfl⟩
theorem D_Mo_fontAt_27 : xd m_Mo_fontAt 27 (.istore_n 2) 1 28 := ⟨by decide +kernel, rfl⟩
theorem D_Mo_fontAt_28 : xd m_Mo_fontAt 28 (.iinc 3 1) 3 31 := ⟨by decide +kernel, rfl⟩
theorem D_Mo_fontAt_31 : xd m_Mo_fontAt 31 (.goto (-27)) 3 34 := ⟨by decide +kernel, rfl⟩
theorem D_Mo_fontAt_34 : xd m_Mo_fontAt 34 (.iload_n 2) 1 35 := ⟨by decide +kernel, rfl⟩
theorem D_Mo_fontAt_35 : xd m_Mo_fontAt 35 (.ireturn) 1 36 := ⟨by decide +kernel, rfl⟩
theorem D_Mo_behindNumber_0 : xd m_Mo_behindNumber 0 (.iload_n 1) 1 1 := ⟨by decide +kernel, rfl⟩
theorem D_Mo_behindNumber_1 : xd m_Mo_behindNumber 1 (.iconst 1) 1 2 := ⟨by decide +kernel, rfl⟩
theorem D_Mo_behindNumber_2 : xd m_Mo_behindNumber 2 (.iadd) 1 3 := ⟨by decide +kernel, rfl⟩
theorem D_Mo_behindNumber_3 : xd m_Mo_behindNumber 3 (.aload_n 0) 1 4 := ⟨by decide +kernel, rfl⟩
theorem D_Mo_behindNumber_4 : xd m_Mo_behindNumber 4 (.iload_n 1) 1 5 := ⟨by decide +kernel, rfl⟩
theorem D_Mo_behindNumber_5 : xd m_Mo_behindNumber 5 (.invokevirtual 200) 3 8 := ⟨by decide +kernel, rfl⟩
theorem D_Mo_behindNumber_8 : xd m_Mo_behindNumber 8 (.sipush 243) 3 11 := ⟨by decide +kernel, rfl⟩
theorem D_Mo_behindNumber_11 : xd m_Mo_behindNumber 11 (.invokestatic 209) 3 14 := ⟨by decide +kernel, rfl⟩
theorem D_Mo_behindNumber_14 : xd m_Mo_behindNumber 14 (.iadd) 1 15 := ⟨by decide +kernel, rfl⟩
theorem D_Mo_behindNumber_15 : xd m_Mo_behindNumber 15 (.ireturn) 1 16 := ⟨by decide +kernel, rfl⟩
theorem D_Mo_nameSize_0 : xd m_Mo_nameSize 0 (.aload_n 0) 1 1 := ⟨by decide +kernel, rfl⟩
theorem D_Mo_nameSize_1 : xd m_Mo_nameSize 1 (.iload_n 1) 1 2 := ⟨by decide +kernel, rfl⟩
theorem D_Mo_nameSize_2 : xd m_Mo_nameSize 2 (.invokevirtual 241) 3 5 := ⟨by decide +kernel, rfl⟩
theorem D_Mo_nameSize_5 : xd m_Mo_nameSize 5 (.istore_n 2) 1 6 := ⟨by decide +kernel, rfl⟩
theorem D_Mo_nameSize_6 : xd m_Mo_nameSize 6 (.aload_n 0) 1 7 := ⟨by decide +kernel, rfl⟩
theorem D_Mo_nameSize_7 : xd m_Mo_nameSize 7 (.iload_n 2) 1 8 := ⟨by decide +kernel, rfl⟩
theorem D_Mo_nameSize_8 : xd m_Mo_nameSize 8 (.bipush 12) 2 10 := ⟨by decide +kernel, rfl⟩
theorem D_Mo_nameSize_10 : xd m_Mo_nameSize 10 (.iadd) 1 11 := ⟨by decide +kernel, rfl⟩
theorem D_Mo_nameSize_11 : xd m_Mo_nameSize 11 (.invokevirtual 200) 3 14 := ⟨by decide +kernel, rfl⟩
theorem D_Mo_nameSize_14 : xd m_Mo_nameSize 14 (.aload_n 0) 1 15 := ⟨by decide +kernel, rfl⟩
theorem D_Mo_nameSize_15 : xd m_Mo_nameSize 15 (.iload_n 2) 1 16 := ⟨by decide +kernel, rfl⟩
theorem D_Mo_nameSize_16 : xd m_Mo_nameSize 16 (.bipush 13) 2 18 := ⟨by decide +kernel, rfl⟩
theorem D_Mo_nameSize_18 : xd m_Mo_nameSize 18 (.iadd) 1 19 := ⟨by decide +kernel, rfl⟩
theorem D_Mo_nameSize_19 : xd m_Mo_nameSize 19 (.invokevirtual 200) 3 22 := ⟨by decide +kernel, rfl⟩
theorem D_Mo_nameSize_22 : xd m_Mo_nameSize 22 (.iadd) 1 23 := ⟨by decide +kernel, rfl⟩
theorem D_Mo_nameSize_23 : xd m_Mo_nameSize 23 (.ireturn) 1 24 := ⟨by decide +kernel, rfl⟩
theorem D_Mo_isSame_0 : xd m_Mo_isSame 0 (.aload_n 0) 1 1 := ⟨by decide +kernel, rfl⟩
theorem D_Mo_isSame_1 : xd m_Mo_isSame 1 (.iload_n 1) 1 2 := ⟨by decide +kernel, rfl⟩
theorem D_Mo_isSame_2 : xd m_Mo_isSame 2 (.invokevirtual 244) 3 5 := ⟨by decide +kernel, rfl⟩
theorem D_Mo_isSame_5 : xd m_Mo_isSame 5 (.aload_n 0) 1 6 := ⟨by decide +kernel, rfl⟩
theorem D_Mo_isSame_6 : xd m_Mo_isSame 6 (.iload_n 2) 1 7 := ⟨by decide +kernel, rfl⟩
theorem D_Mo_isSame_7 : xd m_Mo_isSame 7 (.invokevirtual 244) 3 10 := ⟨by decide +kernel, rfl⟩
theorem D_Mo_isSame_10 : xd m_Mo_isSame 10 (.if_icmp .ne 7) 3 13 := ⟨by decide +kernel, rfl⟩
theorem D_Mo_isSame_13 : xd m_Mo_isSame 13 (.iconst 1) 1 14 := ⟨by decide +kernel, rfl⟩
theorem D_Mo_isSame_14 : xd m_Mo_isSame 14 (.goto 4) 3 17 := ⟨by decide +kernel, rfl⟩
theorem D_Mo_isSame_17 : xd m_Mo_isSame 17 (.iconst 0) 1 18 := ⟨by decide +kernel, rfl⟩
theorem D_Mo_isSame_18 : xd m_Mo_isSame 18 (.istore_n 3) 1 19 := ⟨by decide +kernel, rfl⟩
theorem D_Mo_isSame_19 : xd m_Mo_isSame 19 (.aload_n 0) 1 20 := ⟨by decide +kernel, rfl⟩
theorem D_Mo_isSame_20 : xd m_Mo_isSame 20 (.iload_n 1) 1 21 := ⟨by decide +kernel, rfl⟩
theorem D_Mo_isSame_21 : xd m_Mo_isSame 21 (.invokevirtual 241) 3 24 := ⟨by decide +kernel, rfl⟩
theorem D_Mo_isSame_24 : xd m_Mo_isSame 24 (.istore 4) 2 26 := ⟨by decide +kernel, rfl⟩
theorem D_Mo_isSame_26 : xd m_Mo_isSame 26 (.aload_n 0) 1 27 := ⟨by decide +kernel, rfl⟩
theorem D_Mo_isSame_27 : xd m_Mo_isSame 27 (.iload_n 2) 1 28 := ⟨by decide +kernel, rfl⟩
theorem D_Mo_isSame_28 : xd m_Mo_isSame 28 (.invokevirtual 241) 3 31 := ⟨by decide +kernel, rfl⟩
theorem D_Mo_isSame_31 : xd m_Mo_isSame 31 (.istore 5) 2 33 := ⟨by decide +kernel, rfl⟩
theorem D_Mo_isSame_33 : xd m_Mo_isSame 33 (.iconst 0) 1 34 := ⟨by decide +kernel, rfl⟩
theorem D_Mo_isSame_34 : xd m_Mo_isSame 34 (.istore 6) 2 36 := ⟨by decide +kernel, rfl⟩
theorem D_Mo_isSame_36 : xd m_Mo_isSame 36 (.iload 6) 2 38 := ⟨by decide +kernel, rfl⟩
theorem D_Mo_isSame_38 : xd m_Mo_isSame 38 (.bipush 12) 2 40 := ⟨by decide +kernel, rfl⟩
theorem D_Mo_isSame_40 : xd m_Mo_isSame 40 (.if_icmp .ge 40) 3 43 := ⟨by decide +kernel, rfl⟩
theorem D_Mo_isSame_43 : xd m_Mo_isSame 43 (.iload_n 3) 1 44 := ⟨by decide +kernel, rfl⟩
theorem D_Mo_isSame_44 : xd m_Mo_isSame 44 (.ifCond .eq 36) 3 47 := ⟨by decide +kernel, rfl⟩
theorem D_Mo_isSame_47 : xd m_Mo_isSame 47 (.aload_n 0) 1 48 := ⟨by decide +kernel, rfl⟩
theorem D_Mo_isSame_48 : xd m_Mo_isSame 48 (.iload 4) 2 50 := ⟨by decide +kernel, rfl⟩
theorem D_Mo_isSame_50 : xd m_Mo_isSame 50 (.iload 6) 2 52 := ⟨by decide +kernel, rfl⟩
theorem D_Mo_isSame_52 : xd m_Mo_isSame 52 (.iadd) 1 53 := ⟨by decide +kernel, rfl⟩
theorem D_Mo_isSame_53 : xd m_Mo_isSame 53 (.invokevirtual 200) 3 56 := ⟨by decide +kernel, rfl⟩
theorem D_Mo_isSame_56 : xd m_Mo_isSame 56 (.aload_n 0) 1 57 := ⟨by decide +kernel, rfl⟩
theorem D_Mo_isSame_57 : xd m_Mo_isSame 57 (.iload 5) 2 59 := ⟨by decide +kernel, rfl⟩
theorem D_Mo_isSame_59 : xd m_Mo_isSame 59 (.iload 6) 2 61 := ⟨by decide +kernel, rfl⟩
theorem D_Mo_isSame_61 : xd m_Mo_isSame 61 (.iadd) 1 62 := ⟨by decide +kernel, rfl⟩
theorem D_Mo_isSame_62 : xd m_Mo_isSame 62 (.invokevirtual 200) 3 65 := ⟨by decide +kernel, rfl⟩
theorem D_Mo_isSame_65 : xd m_Mo_isSame 65 (.if_icmp .ne 7) 3 68 := ⟨by decide +kernel, rfl⟩
theorem D_Mo_isSame_68 : xd m_Mo_isSame 68 (.iconst 1) 1 69 := ⟨by decide +kernel, rfl⟩
theorem D_Mo_isSame_69 : xd m_Mo_isSame 69 (.goto 4) 3 72 := ⟨by decide +kernel, rfl⟩
theorem D_Mo_isSame_72 : xd m_Mo_isSame 72 (.iconst 0) 1 73 := ⟨by decide +kernel, rfl⟩
theorem D_Mo_isSame_73 : xd m_Mo_isSame 73 (.istore_n 3) 1 74 := ⟨by decide +kernel, rfl⟩
theorem D_Mo_isSame_74 : xd m_Mo_isSame 74 (.iinc 6 1) 3 77 := ⟨by decide +kernel, rfl⟩
theorem D_Mo_isSame_77 : xd m_Mo_isSame 77 (.goto (-41)) 3 80 := ⟨by decide +kernel, rfl⟩
theorem D_Mo_isSame_80 : xd m_Mo_isSame 80 (.iconst 0) 1 81 := ⟨by decide +kernel, rfl⟩
theorem D_Mo_isSame_81 : xd m_Mo_isSame 81 (.istore 6) 2 83 := ⟨by decide +kernel, rfl⟩
theorem D_Mo_isSame_83 : xd m_Mo_isSame 83 (.iload 6) 2 85 := ⟨by decide +kernel, rfl⟩
theorem D_Mo_isSame_85 : xd m_Mo_isSame 85 (.aload_n 0) 1 86 := ⟨by decide +kernel, rfl⟩
theorem D_Mo_isSame_86 : xd m_Mo_isSame 86 (.iload_n 1) 1 87 := ⟨by decide +kernel, rfl⟩
theorem D_Mo_isSame_87 : xd m_Mo_isSame 87 (.invokevirtual 244) 3 90 := ⟨by decide +kernel, rfl⟩
theorem D_Mo_isSame_90 : xd m_Mo_isSame 90 (.if_icmp .ge 46) 3 93 := ⟨by decide +kernel, rfl⟩
theorem D_Mo_isSame_93 : xd m_Mo_isSame 93 (.iload_n 3) 1 94 := ⟨by decide +kernel, rfl⟩
theorem D_Mo_isSame_94 : xd m_Mo_isSame 94 (.ifCond .eq 42) 3 97 := ⟨by decide +kernel, rfl⟩
theorem D_Mo_isSame_97 : xd m_Mo_isSame 97 (.aload_n 0) 1 98 := ⟨by decide +kernel, rfl⟩
theorem D_Mo_isSame_98 : xd m_Mo_isSame 98 (.iload 4) 2 100 := ⟨by decide +kernel, rfl⟩
theorem D_Mo_isSame_100 : xd m_Mo_isSame 100 (.bipush 14) 2 102 := ⟨by decide +kernel, rfl⟩
theorem D_Mo_isSame_102 : xd m_Mo_isSame 102 (.iadd) 1 103 := ⟨by decide +kernel, rfl⟩
theorem D_Mo_isSame_103 : xd m_Mo_isSame 103 (.iload 6) 2 105 := ⟨by decide +kernel, rfl⟩
theorem D_Mo_isSame_105 : xd m_Mo_isSame 105 (.iadd) 1 106 := ⟨by decide +kernel, rfl⟩
theorem D_Mo_isSame_106 : xd m_Mo_isSame 106 (.invokevirtual 200) 3 109 := ⟨by decide +kernel, rfl⟩
theorem D_Mo_isSame_109 : xd m_Mo_isSame 109 (.aload_n 0) 1 110 := ⟨by decide +kernel, rfl⟩
theorem D_Mo_isSame_110 : xd m_Mo_isSame 110 (.iload 5) 2 112 := ⟨by decide +kernel, rfl⟩
theorem D_Mo_isSame_112 : xd m_Mo_isSame 112 (.bipush 14) 2 114 := ⟨by decide +kernel, rfl⟩
theorem D_Mo_isSame_114 : xd m_Mo_isSame 114 (.iadd) 1 115 := ⟨by decide +kernel, rfl⟩
theorem D_Mo_isSame_115 : xd m_Mo_isSame 115 (.iload 6) 2 117 := ⟨by decide +kernel, rfl⟩
theorem D_Mo_isSame_117 : xd m_Mo_isSame 117 (.iadd) 1 118 := ⟨by decide +kernel, rfl⟩
theorem D_Mo_isSame_118 : xd m_Mo_isSame 118 (.invokevirtual 200) 3 121 := ⟨by decide +kernel, rfl⟩
theorem D_Mo_isSame_121 : xd m_Mo_isSame 121 (.if_icmp .ne 7) 3 124 := ⟨by decide +kernel, rfl⟩
theorem D_Mo_isSame_124 : xd m_Mo_isSame 124 (.iconst 1) 1 125 := ⟨by decide +kernel, rfl⟩
theorem D_Mo_isSame_125 : xd m_Mo_isSame 125 (.goto 4) 3 128 := ⟨by decide +kernel, rfl⟩
theorem D_Mo_isSame_128 : xd m_Mo_isSame 128 (.iconst 0) 1 129 := ⟨by decide +kernel, rfl⟩
theorem D_Mo_isSame_129 : xd m_Mo_isSame 129 (.istore_n 3) 1 130 := ⟨by decide +kernel, rfl⟩
theorem D_Mo_isSame_130 : xd m_Mo_isSame 130 (.iinc 6 1) 3 133 := ⟨by decide +kernel, rfl⟩
theorem D_Mo_isSame_133 : xd m_Mo_isSame 133 (.goto (-50)) 3 136 := ⟨by decide +kernel, rfl⟩
theorem D_Mo_isSame_136 : xd m_Mo_isSame 136 (.iload_n 3) 1 137 := ⟨by decide +kernel, rfl⟩
theorem D_Mo_isSame_137 : xd m_Mo_isSame 137 (.ireturn) 1 138 := ⟨by decide +kernel, rfl⟩
theorem D_Mo_tell_0 : xd m_Mo_tell 0 (.aload_n 0) 1 1 := ⟨by decide +kernel, rfl⟩
theorem D_Mo_tell_1 : xd m_Mo_tell 1 (.aload_n 0) 1 2 := ⟨by decide +kernel, rfl⟩
theorem D_Mo_tell_2 : xd m_Mo_tell 2 (.getfield 203) 3 5 := ⟨by decide +kernel, rfl⟩
theorem D_Mo_tell_5 : xd m_Mo_tell 5 (.iconst 1) 1 6 := ⟨by decide +kernel, rfl⟩
theorem D_Mo_tell_6 : xd m_Mo_tell 6 (.iadd) 1 7 := ⟨by decide +kernel, rfl⟩
theorem D_Mo_tell_7 : xd m_Mo_tell 7 (.aload_n 0) 1 8 := ⟨by decide +kernel, rfl⟩
theorem D_Mo_tell_8 : xd m_Mo_tell 8 (.aload_n 0) 1 9 := ⟨by decide +kernel, rfl⟩
theorem D_Mo_tell_9 : xd m_Mo_tell 9 (.getfield 203) 3 12 := ⟨by decide +kernel, rfl⟩
theorem D_Mo_tell_12 : xd m_Mo_tell 12 (.invokevirtual 200) 3 15 := ⟨by decide +kernel, rfl⟩
theorem D_Mo_tell_15 : xd m_Mo_tell 15 (.sipush 243) 3 18 := ⟨by decide +kernel, rfl⟩
theorem D_Mo_tell_18 : xd m_Mo_tell 18 (.invokestatic 209) 3 21 := ⟨by decide +kernel, rfl⟩
theorem D_Mo_tell_21 : xd m_Mo_tell 21 (.iconst 0) 1 22 := ⟨by decide +kernel, rfl⟩
theorem D_Mo_tell_22 : xd m_Mo_tell 22 (.invokevirtual 220) 3 25 := ⟨by decide +kernel, rfl⟩
theorem D_Mo_tell_25 : xd m_Mo_tell 25 (.istore_n 1) 1 26 := ⟨by decide +kernel, rfl⟩
theorem D_Mo_tell_26 : xd m_Mo_tell 26 (.aload_n 0) 1 27 := ⟨by decide +kernel, rfl⟩
theorem D_Mo_tell_27 : xd m_Mo_tell 27 (.iload_n 1) 1 28 := ⟨by decide +kernel, rfl⟩
theorem D_Mo_tell_28 : xd m_Mo_tell 28 (.invokevirtual 247) 3 31 := ⟨by decide +kernel, rfl⟩
theorem D_Mo_tell_31 : xd m_Mo_tell 31 (.istore_n 2) 1 32 := ⟨by decide +kernel, rfl⟩
theorem D_Mo_tell_32 : xd m_Mo_tell 32 (.iload_n 2) 1 33 := ⟨by decide +kernel, rfl⟩
theorem D_Mo_tell_33 : xd m_Mo_tell 33 (.ifCond .lt 26) 3 36 := ⟨by decide +kernel, rfl⟩
theorem D_Mo_tell_36 : xd m_Mo_tell 36 (.aload_n 0) 1 37 := ⟨by decide +kernel, rfl⟩
theorem D_Mo_tell_37 : xd m_Mo_tell 37 (.aload_n 0) 1 38 := ⟨by decide +kernel, rfl⟩
theorem D_Mo_tell_38 : xd m_Mo_tell 38 (.getfield 88) 3 41 := ⟨by decide +kernel, rfl⟩
theorem D_Mo_tell_41 : xd m_Mo_tell 41 (.iload_n 2) 1 42 := ⟨by decide +kernel, rfl⟩
theorem D_Mo_tell_42 : xd m_Mo_tell 42 (.iaload) 1 43 := ⟨by decide +kernel, rfl⟩
theorem D_Mo_tell_43 : xd m_Mo_tell 43 (.aload_n 0) 1 44 := ⟨by decide +kernel, rfl⟩
theorem D_Mo_tell_44 : xd m_Mo_tell 44 (.getfield 203) 3 47 := ⟨by decide +kernel, rfl⟩
theorem D_Mo_tell_47 : xd m_Mo_tell 47 (.invokevirtual 250) 3 50 := ⟨by decide +kernel, rfl⟩
theorem D_Mo_tell_50 : xd m_Mo_tell 50 (.ifCond .eq 7) 3 53 := ⟨by decide +kernel, rfl⟩
theorem D_Mo_tell_53 : xd m_Mo_tell 53 (.iconst 0) 1 54 := ⟨by decide +kernel, rfl⟩
theorem D_Mo_tell_54 : xd m_Mo_tell 54 (.goto 4) 3 57 := ⟨by decide +kernel, rfl⟩
theorem D_Mo_tell_57 : xd m_Mo_tell 57 (.iconst 3) 1 58 := ⟨by decide +kernel, rfl⟩
theorem D_Mo_tell_58 : xd m_Mo_tell 58 (.ireturn) 1 59 := ⟨by decide +kernel, rfl⟩
theorem D_Mo_tell_59 : xd m_Mo_tell 59 (.aload_n 0) 1 60 := ⟨by decide +kernel, rfl⟩
theorem D_Mo_tell_60 : xd m_Mo_tell 60 (.getfield 232) 3 63 := ⟨by decide +kernel, rfl⟩
theorem D_Mo_tell_63 : xd m_Mo_tell 63 (.iconst 3) 1 64 := ⟨by decide +kernel, rfl⟩
theorem D_Mo_tell_64 : xd m_Mo_tell 64 (.if_icmp .ne 5) 3 67 := ⟨by decide +kernel, rfl⟩
theorem D_Mo_tell_67 : xd m_Mo_tell 67 (.iconst 3) 1 68 := ⟨by decide +kernel, rfl⟩
theorem D_Mo_tell_68 : xd m_Mo_tell 68 (.ireturn) 1 69 := ⟨by decide +kernel, rfl⟩
theorem D_Mo_tell_69 : xd m_Mo_tell 69 (.aload_n 0) 1 70 := ⟨by decide +kernel, rfl⟩
theorem D_Mo_tell_70 : xd m_Mo_tell 70 (.getfield 238) 3 73 := ⟨by decide +kernel, rfl⟩
theorem D_Mo_tell_73 : xd m_Mo_tell 73 (.sipush 256) 3 76 := ⟨by decide +kernel, rfl⟩
theorem D_Mo_tell_76 : xd m_Mo_tell 76 (.if_icmp .ne 6) 3 79 := ⟨by decide +kernel, rfl⟩
theorem D_Mo_tell_79 : xd m_Mo_tell 79 (.bipush 9) 2 81 := ⟨by decide +kernel, rfl⟩
theorem D_Mo_tell_81 : xd m_Mo_tell 81 (.ireturn) 1 82 := ⟨by decide +kernel, rfl⟩
theorem D_Mo_tell_82 : xd m_Mo_tell 82 (.aload_n 0) 1 83 := ⟨by decide +kernel, rfl⟩
theorem D_Mo_tell_83 : xd m_Mo_tell 83 (.getfield 85) 3 86 := ⟨by decide +kernel, rfl⟩
theorem D_Mo_tell_86 : xd m_Mo_tell 86 (.aload_n 0) 1 87 := ⟨by decide +kernel, rfl⟩
theorem D_Mo_tell_87 : xd m_Mo_tell 87 (.getfield 238) 3 90 := ⟨by decide +kernel, rfl⟩
theorem D_Mo_tell_90 : xd m_Mo_tell 90 (.iload_n 1) 1 91 := ⟨by decide +kernel, rfl⟩
theorem D_Mo_tell_91 : xd m_Mo_tell 91 (.iastore) 1 92 := ⟨by decide +kernel, rfl⟩
theorem D_Mo_tell_92 : xd m_Mo_tell 92 (.aload_n 0) 1 93 := ⟨by decide +kernel, rfl⟩
theorem D_Mo_tell_93 : xd m_Mo_tell 93 (.getfield 88) 3 96 := ⟨by decide +kernel, rfl⟩
theorem D_Mo_tell_96 : xd m_Mo_tell 96 (.aload_n 0) 1 97 := ⟨by decide +kernel, rfl⟩
theorem D_Mo_tell_97 : xd m_Mo_tell 97 (.getfield 238) 3 100 := ⟨by decide +kernel, rfl⟩
theorem D_Mo_tell_100 : xd m_Mo_tell 100 (.aload_n 0) 1 101 := ⟨by decide +kernel, rfl⟩
theorem D_Mo_tell_101 : xd m_Mo_tell 101 (.getfield 203) 3 104 := ⟨by decide +kernel, rfl⟩
theorem D_Mo_tell_104 : xd m_Mo_tell 104 (.iastore) 1 105 := ⟨by decide +kernel, rfl⟩
theorem D_Mo_tell_105 : xd m_Mo_tell 105 (.aload_n 0) 1 106 := ⟨by decide +kernel, rfl⟩
theorem D_Mo_tell_106 : xd m_Mo_tell 106 (.dup) 1 107 := ⟨by decide +kernel, rfl⟩
theorem D_Mo_tell_107 : xd m_Mo_tell 107 (.getfield 238) 3 110 := ⟨by decide +kernel, rfl⟩
theorem D_Mo_tell_110 : xd m_Mo_tell 110 (.iconst 1) 1 111 := ⟨by decide +kernel, rfl⟩
theorem D_Mo_tell_111 : xd m_Mo_tell 111 (.iadd) 1 112 := ⟨by decide +kernel, rfl⟩
theorem D_Mo_tell_112 : xd m_Mo_tell 112 (.putfield 238) 3 115 := ⟨by decide +kernel, rfl⟩
theorem D_Mo_tell_115 : xd m_Mo_tell 115 (.iconst 0) 1 116 := ⟨by decide +kernel, rfl⟩
theorem D_Mo_tell_116 : xd m_Mo_tell 116 (.ireturn) 1 117 := ⟨by decide +kernel, rfl⟩
theorem D_Mo_beginPage_0 : xd m_Mo_beginPage 0 (.aload_n 0) 1 1 := ⟨by decide +kernel, rfl⟩
theorem D_Mo_beginPage_1 : xd m_Mo_beginPage 1 (.aload_n 0) 1 2 := ⟨by decide +kernel, rfl⟩
theorem D_Mo_beginPage_2 : xd m_Mo_beginPage 2 (.getfield 203) 3 5 := ⟨by decide +kernel, rfl⟩
theorem D_Mo_beginPage_5 : xd m_Mo_beginPage 5 (.bipush 41) 2 7 := ⟨by decide +kernel, rfl⟩
theorem D_Mo_beginPage_7 : xd m_Mo_beginPage 7 (.iadd) 1 8 := ⟨by decide +kernel, rfl⟩
theorem D_Mo_beginPage_8 : xd m_Mo_beginPage 8 (.iconst 4) 1 9 := ⟨by decide +kernel, rfl⟩
theorem D_Mo_beginPage_9 : xd m_Mo_beginPage 9 (.iconst 1) 1 10 := ⟨by decide +kernel, rfl⟩
theorem D_Mo_beginPage_10 : xd m_Mo_beginPage 10 (.invokevirtual 220) 3 13 := ⟨by decide +kernel, rfl⟩
theorem D_Mo_beginPage_13 : xd m_Mo_beginPage 13 (.aload_n 0) 1 14 := ⟨by decide +kernel, rfl⟩
theorem D_Mo_beginPage_14 : xd m_Mo_beginPage 14 (.getfield 254) 3 17 := ⟨by decide +kernel, rfl⟩
theorem D_Mo_beginPage_17 : xd m_Mo_beginPage 17 (.if_icmp .eq 5) 3 20 := ⟨by decide +kernel, rfl⟩
theorem D_Mo_beginPage_20 : xd m_Mo_beginPage 20 (.iconst 5) 1 21 := ⟨by decide +kernel, rfl⟩
theorem D_Mo_beginPage_21 : xd m_Mo_beginPage 21 (.ireturn) 1 22 := ⟨by decide +kernel, rfl⟩
theorem D_Mo_beginPage_22 : xd m_Mo_beginPage 22 (.aload_n 0) 1 23 := ⟨by decide +kernel, rfl⟩
theorem D_Mo_beginPage_23 : xd m_Mo_beginPage 23 (.getfield 257) 3 26 := ⟨by decide +kernel, rfl⟩
theorem D_Mo_beginPage_26 : xd m_Mo_beginPage 26 (.sipush 1300) 3 29 := ⟨by decide +kernel, rfl⟩
theorem D_Mo_beginPage_29 : xd m_Mo_beginPage 29 (.if_icmp .ne 6) 3 32 := ⟨by decide +kernel, rfl⟩
theorem D_Mo_beginPage_32 : xd m_Mo_beginPage 32 (.bipush 9) 2 34 := ⟨by decide +kernel, rfl⟩
theorem D_Mo_beginPage_34 : xd m_Mo_beginPage 34 (.ireturn) 1 35 := ⟨by decide +kernel, rfl⟩
theorem D_Mo_beginPage_35 : xd m_Mo_beginPage 35 (.aload_n 0) 1 36 := ⟨by decide +kernel, rfl⟩
theorem D_Mo_beginPage_36 : xd m_Mo_beginPage 36 (.aload_n 0) 1 37 := ⟨by decide +kernel, rfl⟩
theorem D_Mo_beginPage_37 : xd m_Mo_beginPage 37 (.getfield 203) 3 40 := ⟨by decide +kernel, rfl⟩
theorem D_Mo_beginPage_40 : xd m_Mo_beginPage 40 (.putfield 254) 3 43 := ⟨by decide +kernel, rfl⟩
theorem D_Mo_beginPage_43 : xd m_Mo_beginPage 43 (.iconst 0) 1 44 := ⟨by decide +kernel, rfl⟩
theorem D_Mo_beginPage_44 : xd m_Mo_beginPage 44 (.istore_n 1) 1 45 := ⟨by decide +kernel, rfl⟩
theorem D_Mo_beginPage_45 : xd m_Mo_beginPage 45 (.iload_n 1) 1 46 := ⟨by decide +kernel, rfl⟩
theorem D_Mo_beginPage_46 : xd m_Mo_beginPage 46 (.bipush 10) 2 48 := ⟨by decide +kernel, rfl⟩
theorem D_Mo_beginPage_48 : xd m_Mo_beginPage 48 (.if_icmp .ge 39) 3 51 := ⟨by decide +kernel, rfl⟩
theorem D_Mo_beginPage_51 : xd m_Mo_beginPage 51 (.aload_n 0) 1 52 := ⟨by decide +kernel, rfl⟩
theorem D_Mo_beginPage_52 : xd m_Mo_beginPage 52 (.getfield 82) 3 55 := ⟨by decide +kernel, rfl⟩
theorem D_Mo_beginPage_55 : xd m_Mo_beginPage 55 (.bipush 10) 2 57 := ⟨by decide +kernel, rfl⟩
theorem D_Mo_beginPage_57 : xd m_Mo_beginPage 57 (.aload_n 0) 1 58 := ⟨by decide +kernel, rfl⟩
theorem D_Mo_beginPage_58 : xd m_Mo_beginPage 58 (.getfield 257) 3 61 := ⟨by decide +kernel, rfl⟩
theorem D_Mo_beginPage_61 : xd m_Mo_beginPage 61 (.imul) 1 62 := ⟨by decide +kernel, rfl⟩
theorem D_Mo_beginPage_62 : xd m_Mo_beginPage 62 (.iload_n 1) 1 63 := ⟨by decide +kernel, rfl⟩
theorem D_Mo_beginPage_63 : xd m_Mo_beginPage 63 (.iadd) 1 64 := ⟨by decide +kernel, rfl⟩
theorem D_Mo_beginPage_64 : xd m_Mo_beginPage 64 (.aload_n 0) 1 65 := ⟨by decide +kernel, rfl⟩
theorem D_Mo_beginPage_65 : xd m_Mo_beginPage 65 (.aload_n 0) 1 66 := ⟨by decide +kernel, rfl⟩
theorem D_Mo_beginPage_66 : xd m_Mo_beginPage 66 (.getfield 203) 3 69 := ⟨by decide +kernel, rfl⟩
theorem D_Mo_beginPage_69 : xd m_Mo_beginPage 69 (.iconst 1) 1 70 := ⟨by decide +kernel, rfl⟩
theorem D_Mo_beginPage_70 : xd m_Mo_beginPage 70 (.iadd) 1 71 := ⟨by decide +kernel, rfl⟩
theorem D_Mo_beginPage_71 : xd m_Mo_beginPage 71 (.iconst 4) 1 72 := ⟨by decide +kernel, rfl⟩
theorem D_Mo_beginPage_72 : xd m_Mo_beginPage 72 (.iload_n 1) 1 73 := ⟨by decide +kernel, rfl⟩
theorem D_Mo_beginPage_73 : xd m_Mo_beginPage 73 (.imul) 1 74 := ⟨by decide +kernel, rfl⟩
theorem D_Mo_beginPage_74 : xd m_Mo_beginPage 74 (.iadd) 1 75 := ⟨by decide +kernel, rfl⟩
theorem D_Mo_beginPage_75 : xd m_Mo_beginPage 75 (.iconst 4) 1 76 := ⟨by decide +kernel, rfl⟩
theorem D_Mo_beginPage_76 : xd m_Mo_beginPage 76 (.iconst 1) 1 77 := ⟨by decide +kernel, rfl⟩
theorem D_Mo_beginPage_77 : xd m_Mo_beginPage 77 (.invokevirtual 220) 3 80 := ⟨by decide +kernel, rfl⟩
theorem D_Mo_beginPage_80 : xd m_Mo_beginPage 80 (.iastore) 1 81 := ⟨by decide +kernel, rfl⟩
theorem D_Mo_beginPage_81 : xd m_Mo_beginPage 81 (.iinc 1 1) 3 84 := ⟨by decide +kernel, rfl⟩
theorem D_Mo_beginPage_84 : xd m_Mo_beginPage 84 (.goto (-39)) 3 87 := ⟨by decide +kernel, rfl⟩
theorem D_Mo_beginPage_87 : xd m_Mo_beginPage 87 (.aload_n 0) 1 88 := ⟨by decide +kernel, rfl⟩
theorem D_Mo_beginPage_88 : xd m_Mo_beginPage 88 (.dup) 1 89 := ⟨by decide +kernel, rfl⟩
theorem D_Mo_beginPage_89 : xd m_Mo_beginPage 89 (.getfield 257) 3 92 := ⟨by decide +kernel, rfl⟩
theorem D_Mo_beginPage_92 : xd m_Mo_beginPage 92 (.iconst 1) 1 93 := ⟨by decide +kernel, rfl⟩
theorem D_Mo_beginPage_93 : xd m_Mo_beginPage 93 (.iadd) 1 94 := ⟨by decide +kernel, rfl⟩
theorem D_Mo_beginPage_94 : xd m_Mo_beginPage 94 (.putfield 257) 3 97 := ⟨by decide +kernel, rfl⟩
theorem D_Mo_beginPage_97 : xd m_Mo_beginPage 97 (.aload_n 0) 1 98 := ⟨by decide +kernel, rfl⟩
theorem D_Mo_beginPage_98 : xd m_Mo_beginPage 98 (.iconst 2) 1 99 := ⟨by decide +kernel, rfl⟩
theorem D_Mo_beginPage_99 : xd m_Mo_beginPage 99 (.putfield 232) 3 102 := ⟨by decide +kernel, rfl⟩
theorem D_Mo_beginPage_102 : xd m_Mo_beginPage 102 (.aload_n 0) 1 103 := ⟨by decide +kernel, rfl⟩
theorem D_Mo_beginPage_103 : xd m_Mo_beginPage 103 (.iconst 0) 1 104 := ⟨by decide +kernel, rfl⟩
theorem D_Mo_beginPage_104 : xd m_Mo_beginPage 104 (.putfield 260) 3 107 := ⟨by decide +kernel, rfl⟩
theorem D_Mo_beginPage_107 : xd m_Mo_beginPage 107 (.aload_n 0) 1 108 := ⟨by decide +kernel, rfl⟩
theorem D_Mo_beginPage_108 : xd m_Mo_beginPage 108 (.iconst 0) 1 109 := ⟨by decide +kernel, rfl⟩
theorem D_Mo_beginPage_109 : xd m_Mo_beginPage 109 (.putfield 263) 3 112 := ⟨by decide +kernel, rfl⟩
theorem D_Mo_beginPage_112 : xd m_Mo_beginPage 112 (.iconst 0) 1 113 := ⟨by decide +kernel, rfl⟩
theorem D_Mo_beginPage_113 : xd m_Mo_beginPage 113 (.istore_n 1) 1 114 := ⟨by decide +kernel, rfl⟩
theorem D_Mo_beginPage_114 : xd m_Mo_beginPage 114 (.iload_n 1) 1 115 := ⟨by decide +kernel, rfl⟩
theorem D_Mo_beginPage_115 : xd m_Mo_beginPage 115 (.bipush 6) 2 117 := ⟨by decide +kernel, rfl⟩
theorem D_Mo_beginPage_117 : xd m_Mo_beginPage 117 (.if_icmp .ge 16) 3 120 := ⟨by decide +kernel, rfl⟩
theorem D_Mo_beginPage_120 : xd m_Mo_beginPage 120 (.aload_n 0) 1 121 := ⟨by decide +kernel, rfl⟩
theorem D_Mo_beginPage_121 : xd m_Mo_beginPage 121 (.getfield 94) 3 124 := ⟨by decide +kernel, rfl⟩
theorem D_Mo_beginPage_124 : xd m_Mo_beginPage 124 (.iload_n 1) 1 125 := ⟨by decide +kernel, rfl⟩
theorem D_Mo_beginPage_125 : xd m_Mo_beginPage 125 (.iconst 0) 1 126 := ⟨by decide +kernel, rfl⟩
theorem D_Mo_beginPage_126 : xd m_Mo_beginPage 126 (.iastore) 1 127 := ⟨by decide +kernel, rfl⟩
theorem D_Mo_beginPage_127 : xd m_Mo_beginPage 127 (.iinc 1 1) 3 130 := ⟨by decide +kernel, rfl⟩
theorem D_Mo_beginPage_130 : xd m_Mo_beginPage 130 (.goto (-16)) 3 133 := ⟨by decide +kernel, rfl⟩
theorem D_Mo_beginPage_133 : xd m_Mo_beginPage 133 (.iconst 0) 1 134 := ⟨by decide +kernel, rfl⟩
theorem D_Mo_beginPage_134 : xd m_Mo_beginPage 134 (.ireturn) 1 135 := ⟨by decide +kernel, rfl⟩
theorem D_Mo_post_0 : xd m_Mo_post 0 (.aload_n 0) 1 1 := ⟨by decide +kernel, rfl⟩
theorem D_Mo_post_1 : xd m_Mo_post 1 (.aload_n 0) 1 2 := ⟨by decide +kernel, rfl⟩
theorem D_Mo_post_2 : xd m_Mo_post 2 (.getfield 203) 3 5 := ⟨by decide +kernel, rfl⟩
theorem D_Mo_post_5 : xd m_Mo_post 5 (.iconst 1) 1 6 := ⟨by decide +kernel, rfl⟩
theorem D_Mo_post_6 : xd m_Mo_post 6 (.iadd) 1 7 := ⟨by decide +kernel, rfl⟩
theorem D_Mo_post_7 : xd m_Mo_post 7 (.iconst 4) 1 8 := ⟨by decide +kernel, rfl⟩
theorem D_Mo_post_8 : xd m_Mo_post 8 (.iconst 1) 1 9 := ⟨by decide +kernel, rfl⟩
theorem D_Mo_post_9 : xd m_Mo_post 9 (.invokevirtual 220) 3 12 := ⟨by decide +kernel, rfl⟩
theorem D_Mo_post_12 : xd m_Mo_post 12 (.aload_n 0) 1 13 := ⟨by decide +kernel, rfl⟩
theorem D_Mo_post_13 : xd m_Mo_post 13 (.getfield 254) 3 16 := ⟨by decide +kernel, rfl⟩
theorem D_Mo_post_16 : xd m_Mo_post 16 (.if_icmp .eq 5) 3 19 := ⟨by decide +kernel, rfl⟩
theorem D_Mo_post_19 : xd m_Mo_post 19 (.iconst 5) 1 20 := ⟨by decide +kernel, rfl⟩
theorem D_Mo_post_20 : xd m_Mo_post 20 (.ireturn) 1 21 := ⟨by decide +kernel, rfl⟩
theorem D_Mo_post_21 : xd m_Mo_post 21 (.aload_n 0) 1 22 := ⟨by decide +kernel, rfl⟩
theorem D_Mo_post_22 : xd m_Mo_post 22 (.aload_n 0) 1 23 := ⟨by decide +kernel, rfl⟩
theorem D_Mo_post_23 : xd m_Mo_post 23 (.getfield 203) 3 26 := ⟨by decide +kernel, rfl⟩
theorem D_Mo_post_26 : xd m_Mo_post 26 (.bipush 26) 2 28 := ⟨by decide +kernel, rfl⟩
theorem D_Mo_post_28 : xd m_Mo_post 28 (.iadd) 1 29 := ⟨by decide +kernel, rfl⟩
theorem D_Mo_post_29 : xd m_Mo_post 29 (.iconst 1) 1 30 := ⟨by decide +kernel, rfl⟩
theorem D_Mo_post_30 : xd m_Mo_post 30 (.iadd) 1 31 := ⟨by decide +kernel, rfl⟩
theorem D_Mo_post_31 : xd m_Mo_post 31 (.iconst 2) 1 32 := ⟨by decide +kernel, rfl⟩
theorem D_Mo_post_32 : xd m_Mo_post 32 (.iconst 0) 1 33 := ⟨by decide +kernel, rfl⟩
theorem D_Mo_post_33 : xd m_Mo_post 33 (.invokevirtual 220) 3 36 := ⟨by decide +kernel, rfl⟩
theorem D_Mo_post_36 : xd m_Mo_post 36 (.aload_n 0) 1 37 := ⟨by decide +kernel, rfl⟩
theorem D_Mo_post_37 : xd m_Mo_post 37 (.getfield 257) 3 40 := ⟨by decide +kernel, rfl⟩
theorem D_Mo_post_40 : xd m_Mo_post 40 (.ldc_w 266) 3 43 := ⟨by decide +kernel, rfl⟩
theorem D_Mo_post_43 : xd m_Mo_post 43 (.iand) 1 44 := ⟨by decide +kernel, rfl⟩
theorem D_Mo_post_44 : xd m_Mo_post 44 (.if_icmp .ne 7) 3 47 := ⟨by decide +kernel, rfl⟩
theorem D_Mo_post_47 : xd m_Mo_post 47 (.iconst 1) 1 48 := ⟨by decide +kernel, rfl⟩
theorem D_Mo_post_48 : xd m_Mo_post 48 (.goto 4) 3 51 := ⟨by decide +kernel, rfl⟩
theorem D_Mo_post_51 : xd m_Mo_post 51 (.iconst 0) 1 52 := ⟨by decide +kernel, rfl⟩
theorem D_Mo_post_52 : xd m_Mo_post 52 (.istore_n 1) 1 53 := ⟨by decide +kernel, rfl⟩
theorem D_Mo_post_53 : xd m_Mo_post 53 (.iconst 0) 1 54 := ⟨by decide +kernel, rfl⟩
theorem D_Mo_post_54 : xd m_Mo_post 54 (.istore_n 2) 1 55 := ⟨by decide +kernel, rfl⟩
theorem D_Mo_post_55 : xd m_Mo_post 55 (.iload_n 2) 1 56 := ⟨by decide +kernel, rfl⟩
theorem D_Mo_post_56 : xd m_Mo_post 56 (.bipush 12) 2 58 := ⟨by decide +kernel, rfl⟩
theorem D_Mo_post_58 : xd m_Mo_post 58 (.if_icmp .ge 41) 3 61 := ⟨by decide +kernel, rfl⟩
theorem D_Mo_post_61 : xd m_Mo_post 61 (.iload_n 1) 1 62 := ⟨by decide +kernel, rfl⟩
theorem D_Mo_post_62 : xd m_Mo_post 62 (.ifCond .eq 29) 3 65 := ⟨by decide +kernel, rfl⟩
theorem D_Mo_post_65 : xd m_Mo_post 65 (.aload_n 0) 1 66 := ⟨by decide +kernel, rfl⟩
theorem D_Mo_post_66 : xd m_Mo_post 66 (.aload_n 0) 1 67 := ⟨by decide +kernel, rfl⟩
theorem D_Mo_post_67 : xd m_Mo_post 67 (.getfield 203) 3 70 := ⟨by decide +kernel, rfl⟩
theorem D_Mo_post_70 : xd m_Mo_post 70 (.iconst 5) 1 71 := ⟨by decide +kernel, rfl⟩
theorem D_Mo_post_71 : xd m_Mo_post 71 (.iadd) 1 72 := ⟨by decide +kernel, rfl⟩
theorem D_Mo_post_72 : xd m_Mo_post 72 (.iload_n 2) 1 73 := ⟨by decide +kernel, rfl⟩
theorem D_Mo_post_73 : xd m_Mo_post 73 (.iadd) 1 74 := ⟨by decide +kernel, rfl⟩
theorem D_Mo_post_74 : xd m_Mo_post 74 (.invokevirtual 200) 3 77 := ⟨by decide +kernel, rfl⟩
theorem D_Mo_post_77 : xd m_Mo_post 77 (.aload_n 0) 1 78 := ⟨by decide +kernel, rfl⟩
theorem D_Mo_post_78 : xd m_Mo_post 78 (.iconst 2) 1 79 := ⟨by decide +kernel, rfl⟩
theorem D_Mo_post_79 : xd m_Mo_post 79 (.iload_n 2) 1 80 := ⟨by decide +kernel, rfl⟩
theorem D_Mo_post_80 : xd m_Mo_post 80 (.iadd) 1 81 := ⟨by decide +kernel, rfl⟩
theorem D_Mo_post_81 : xd m_Mo_post 81 (.invokevirtual 200) 3 84 := ⟨by decide +kernel, rfl⟩
theorem D_Mo_post_84 : xd m_Mo_post 84 (.if_icmp .ne 7) 3 87 := ⟨by decide +kernel, rfl⟩
theorem D_Mo_post_87 : xd m_Mo_post 87 (.iconst 1) 1 88 := ⟨by decide +kernel, rfl⟩
theorem D_Mo_post_88 : xd m_Mo_post 88 (.goto 4) 3 91 := ⟨by decide +kernel, rfl⟩
theorem D_Mo_post_91 : xd m_Mo_post 91 (.iconst 0) 1 92 := ⟨by decide +kernel, rfl⟩
theorem D_Mo_post_92 : xd m_Mo_post 92 (.istore_n 1) 1 93 := ⟨by decide +kernel, rfl⟩
theorem D_Mo_post_93 : xd m_Mo_post 93 (.iinc 2 1) 3 96 := ⟨by decide +kernel, rfl⟩
theorem D_Mo_post_96 : xd m_Mo_post 96 (.goto (-41)) 3 99 := ⟨by decide +kernel, rfl⟩
theorem D_Mo_post_99 : xd m_Mo_post 99 (.iload_n 1) 1 100 := ⟨by decide +kernel, rfl⟩
theorem D_Mo_post_100 : xd m_Mo_post 100 (.ifCond .ne 6) 3 103 := ⟨by decide +kernel, rfl⟩
theorem D_Mo_post_103 : xd m_Mo_post 103 (.bipush 6) 2 105 := ⟨by decide +kernel, rfl⟩
theorem D_Mo_post_105 : xd m_Mo_post 105 (.ireturn) 1 106 := ⟨by decide +kernel, rfl⟩
theorem D_Mo_post_106 : xd m_Mo_post 106 (.aload_n 0) 1 107 := ⟨by decide +kernel, rfl⟩
theorem D_Mo_post_107 : xd m_Mo_post 107 (.aload_n 0) 1 108 := ⟨by decide +kernel, rfl⟩
theorem D_Mo_post_108 : xd m_Mo_post 108 (.aload_n 0) 1 109 := ⟨by decide +kernel, rfl⟩
theorem D_Mo_post_109 : xd m_Mo_post 109 (.getfield 203) 3 112 := ⟨by decide +kernel, rfl⟩
theorem D_Mo_post_112 : xd m_Mo_post 112 (.bipush 13) 2 114 := ⟨by decide +kernel, rfl⟩
theorem D_Mo_post_114 : xd m_Mo_post 114 (.iadd) 1 115 := ⟨by decide +kernel, rfl⟩
theorem D_Mo_post_115 : xd m_Mo_post 115 (.iconst 4) 1 116 := ⟨by decide +kernel, rfl⟩
theorem D_Mo_post_116 : xd m_Mo_post 116 (.iconst 1) 1 117 := ⟨by decide +kernel, rfl⟩
theorem D_Mo_post_117 : xd m_Mo_post 117 (.invokevirtual 220) 3 120 := ⟨by decide +kernel, rfl⟩
theorem D_Mo_post_120 : xd m_Mo_post 120 (.putfield 267) 3 123 := ⟨by decide +kernel, rfl⟩
theorem D_Mo_post_123 : xd m_Mo_post 123 (.aload_n 0) 1 124 := ⟨by decide +kernel, rfl⟩
theorem D_Mo_post_124 : xd m_Mo_post 124 (.aload_n 0) 1 125 := ⟨by decide +kernel, rfl⟩
theorem D_Mo_post_125 : xd m_Mo_post 125 (.aload_n 0) 1 126 := ⟨by decide +kernel, rfl⟩
theorem D_Mo_post_126 : xd m_Mo_post 126 (.getfield 203) 3 129 := ⟨by decide +kernel, rfl⟩
theorem D_Mo_post_129 : xd m_Mo_post 129 (.bipush 17) 2 131 := ⟨by decide +kernel, rfl⟩
theorem D_Mo_post_131 : xd m_Mo_post 131 (.iadd) 1 132 := ⟨by decide +kernel, rfl⟩
theorem D_Mo_post_132 : xd m_Mo_post 132 (.iconst 4) 1 133 := ⟨by decide +kernel, rfl⟩
theorem D_Mo_post_133 : xd m_Mo_post 133 (.iconst 1) 1 134 := ⟨by decide +kernel, rfl⟩
theorem D_Mo_post_134 : xd m_Mo_post 134 (.invokevirtual 220) 3 137 := ⟨by decide +kernel, rfl⟩
theorem D_Mo_post_137 : xd m_Mo_post 137 (.putfield 270) 3 140 := ⟨by decide +kernel, rfl⟩
theorem D_Mo_post_140 : xd m_Mo_post 140 (.aload_n 0) 1 141 := ⟨by decide +kernel, rfl⟩
theorem D_Mo_post_141 : xd m_Mo_post 141 (.aload_n 0) 1 142 := ⟨by decide +kernel, rfl⟩
theorem D_Mo_post_142 : xd m_Mo_post 142 (.aload_n 0) 1 143 := ⟨by decide +kernel, rfl⟩
theorem D_Mo_post_143 : xd m_Mo_post 143 (.getfield 203) 3 146 := ⟨by decide +kernel, rfl⟩
theorem D_Mo_post_146 : xd m_Mo_post 146 (.bipush 21) 2 148 := ⟨by decide +kernel, rfl⟩
theorem D_Mo_post_148 : xd m_Mo_post 148 (.iadd) 1 149 := ⟨by decide +kernel, rfl⟩
theorem D_Mo_post_149 : xd m_Mo_post 149 (.iconst 4) 1 150 := ⟨by decide +kernel, rfl⟩
theorem D_Mo_post_150 : xd m_Mo_post 150 (.iconst 1) 1 151 := ⟨by decide +kernel, rfl⟩
theorem D_Mo_post_151 : xd m_Mo_post 151 (.invokevirtual 220) 3 154 := ⟨by decide +kernel, rfl⟩
theorem D_Mo_post_154 : xd m_Mo_post 154 (.putfield 273) 3 157 := ⟨by decide +kernel, rfl⟩
theorem D_Mo_post_157 : xd m_Mo_post 157 (.aload_n 0) 1 158 := ⟨by decide +kernel, rfl⟩
theorem D_Mo_post_158 : xd m_Mo_post 158 (.aload_n 0) 1 159 := ⟨by decide +kernel, rfl⟩
theorem D_Mo_post_159 : xd m_Mo_post 159 (.getfield 203) 3 162 := ⟨by decide +kernel, rfl⟩
theorem D_Mo_post_162 : xd m_Mo_post 162 (.putfield 276) 3 165 := ⟨by decide +kernel, rfl⟩
theorem D_Mo_post_165 : xd m_Mo_post 165 (.aload_n 0) 1 166 := ⟨by decide +kernel, rfl⟩
theorem D_Mo_post_166 : xd m_Mo_post 166 (.iconst 3) 1 167 := ⟨by decide +kernel, rfl⟩
theorem D_Mo_post_167 : xd m_Mo_post 167 (.putfield 232) 3 170 := ⟨by decide +kernel, rfl⟩
theorem D_Mo_post_170 : xd m_Mo_post 170 (.iconst 0) 1 171 := ⟨by decide +kernel, rfl⟩
theorem D_Mo_post_171 : xd m_Mo_post 171 (.ireturn) 1 172 := ⟨by decide +kernel, rfl⟩
theorem D_Mo_add_0 : xd m_Mo_add 0 (.aload_n 0) 1 1 := ⟨by decide +kernel, rfl⟩
theorem D_Mo_add_1 : xd m_Mo_add 1 (.getfield 94) 3 4 := ⟨by decide +kernel, rfl⟩
theorem D_Mo_add_4 : xd m_Mo_add 4 (.iload_n 1) 1 5 := ⟨by decide +kernel, rfl⟩
theorem D_Mo_add_5 : xd m_Mo_add 5 (.iaload) 1 6 := ⟨by decide +kernel, rfl⟩
theorem D_Mo_add_6 : xd m_Mo_add 6 (.i2l) 1 7 := ⟨by decide +kernel, rfl⟩
theorem D_Mo_add_7 : xd m_Mo_add 7 (.iload_n 2) 1 8 := ⟨by decide +kernel, rfl⟩
theorem D_Mo_add_8 : xd m_Mo_add 8 (.i2l) 1 9 := ⟨by decide +kernel, rfl⟩
theorem D_Mo_add_9 : xd m_Mo_add 9 (.ladd) 1 10 := ⟨by decide +kernel, rfl⟩
theorem D_Mo_add_10 : xd m_Mo_add 10 (.lstore_n 3) 1 11 := ⟨by decide +kernel, rfl⟩
theorem D_Mo_add_11 : xd m_Mo_add 11 (.lload_n 3) 1 12 := ⟨by decide +kernel, rfl⟩
theorem D_Mo_add_12 : xd m_Mo_add 12 (.invokestatic 158) 3 15 := ⟨by decide +kernel, rfl⟩
theorem D_Mo_add_15 : xd m_Mo_add 15 (.ifCond .ne 6) 3 18 := ⟨by decide +kernel, rfl⟩
theorem D_Mo_add_18 : xd m_Mo_add 18 (.bipush 8) 2 20 := ⟨by decide +kernel, rfl⟩
theorem D_Mo_add_20 : xd m_Mo_add 20 (.ireturn) 1 21 := ⟨by decide +kernel, rfl⟩
theorem D_Mo_add_21 : xd m_Mo_add 21 (.aload_n 0) 1 22 := ⟨by decide +kernel, rfl⟩
theorem D_Mo_add_22 : xd m_Mo_add 22 (.getfield 94) 3 25 := ⟨by decide +kernel, rfl⟩
theorem D_Mo_add_25 : xd m_Mo_add 25 (.iload_n 1) 1 26 := ⟨by decide +kernel, rfl⟩
theorem D_Mo_add_26 : xd m_Mo_add 26 (.lload_n 3) 1 27 := ⟨by decide +kernel, rfl⟩
theorem D_Mo_add_27 : xd m_Mo_add 27 (.l2i) 1 28 := ⟨by decide +kernel, rfl⟩
theorem D_Mo_add_28 : xd m_Mo_add 28 (.iastore) 1 29 := ⟨by decide +kernel, rfl⟩
theorem D_Mo_add_29 : xd m_Mo_add 29 (.iconst 0) 1 30 := ⟨by decide +kernel, rfl⟩
theorem D_Mo_add_30 : xd m_Mo_add 30 (.ireturn) 1 31 := ⟨by decide +kernel, rfl⟩
theorem D_Mo_noteMark_0 : xd m_Mo_noteMark 0 (.bipush 6) 2 2 := ⟨by decide +kernel, rfl⟩
theorem D_Mo_noteMark_2 : xd m_Mo_noteMark 2 (.aload_n 0) 1 3 := ⟨by decide +kernel, rfl⟩
theorem D_Mo_noteMark_3 : xd m_Mo_noteMark 3 (.getfield 279) 3 6 := ⟨by decide +kernel, rfl⟩
theorem D_Mo_noteMark_6 : xd m_Mo_noteMark 6 (.imul) 1 7 := ⟨by decide +kernel, rfl⟩
theorem D_Mo_noteMark_7 : xd m_Mo_noteMark 7 (.istore 4) 2 9 := ⟨by decide +kernel, rfl⟩
theorem D_Mo_noteMark_9 : xd m_Mo_noteMark 9 (.aload_n 0) 1 10 := ⟨by decide +kernel, rfl⟩
theorem D_Mo_noteMark_10 : xd m_Mo_noteMark 10 (.getfield 79) 3 13 := ⟨by decide +kernel, rfl⟩
theorem D_Mo_noteMark_13 : xd m_Mo_noteMark 13 (.iload 4) 2 15 := ⟨by decide +kernel, rfl⟩
theorem D_Mo_noteMark_15 : xd m_Mo_noteMark 15 (.aload_n 0) 1 16 := ⟨by decide +kernel, rfl⟩
theorem D_Mo_noteMark_16 : xd m_Mo_noteMark 16 (.getfield 257) 3 19 := ⟨by decide +kernel, rfl⟩
theorem D_Mo_noteMark_19 : xd m_Mo_noteMark 19 (.iconst 1) 1 20 := ⟨by decide +kernel, rfl⟩
theorem D_Mo_noteMark_20 : xd m_Mo_noteMark 20 (.isub) 1 21 := ⟨by decide +kernel, rfl⟩
theorem D_Mo_noteMark_21 : xd m_Mo_noteMark 21 (.iastore) 1 22 := ⟨by decide +kernel, rfl⟩
theorem D_Mo_noteMark_22 : xd m_Mo_noteMark 22 (.aload_n 0) 1 23 := ⟨by decide +kernel, rfl⟩
theorem D_Mo_noteMark_23 : xd m_Mo_noteMark 23 (.getfield 79) 3 26 := ⟨by decide +kernel, rfl⟩
theorem D_Mo_noteMark_26 : xd m_Mo_noteMark 26 (.iload 4) 2 28 := ⟨by decide +kernel, rfl⟩
theorem D_Mo_noteMark_28 : xd m_Mo_noteMark 28 (.iconst 1) 1 29 := ⟨by decide +kernel, rfl⟩
theorem D_Mo_noteMark_29 : xd m_Mo_noteMark 29 (.iadd) 1 30 := ⟨by decide +kernel, rfl⟩
theorem D_Mo_noteMark_30 : xd m_Mo_noteMark 30 (.iload_n 1) 1 31 := ⟨by decide +kernel, rfl⟩
theorem D_Mo_noteMark_31 : xd m_Mo_noteMark 31 (.iastore) 1 32 := ⟨by decide +kernel, rfl⟩
theorem D_Mo_noteMark_32 : xd m_Mo_noteMark 32 (.aload_n 0) 1 33 := ⟨by decide +kernel, rfl⟩
theorem D_Mo_noteMark_33 : xd m_Mo_noteMark 33 (.getfield 79) 3 36 := ⟨by decide +kernel, rfl⟩
theorem D_Mo_noteMark_36 : xd m_Mo_noteMark 36 (.iload 4) 2 38 := ⟨by decide +kernel, rfl⟩
theorem D_Mo_noteMark_38 : xd m_Mo_noteMark 38 (.iconst 2) 1 39 := ⟨by decide +kernel, rfl⟩
theorem D_Mo_noteMark_39 : xd m_Mo_noteMark 39 (.iadd) 1 40 := ⟨by decide +kernel, rfl⟩
theorem D_Mo_noteMark_40 : xd m_Mo_noteMark 40 (.iload_n 2) 1 41 := ⟨by decide +kernel, rfl⟩
theorem D_Mo_noteMark_41 : xd m_Mo_noteMark 41 (.iastore) 1 42 := ⟨by decide +kernel, rfl⟩
theorem D_Mo_noteMark_42 : xd m_Mo_noteMark 42 (.aload_n 0) 1 43 := ⟨by decide +kernel, rfl⟩
theorem D_Mo_noteMark_43 : xd m_Mo_noteMark 43 (.getfield 79) 3 46 := ⟨by decide +kernel, rfl⟩
theorem D_Mo_noteMark_46 : xd m_Mo_noteMark 46 (.iload 4) 2 48 := ⟨by decide +kernel, rfl⟩
theorem D_Mo_noteMark_48 : xd m_Mo_noteMark 48 (.iconst 3) 1 49 := ⟨by decide +kernel, rfl⟩
theorem D_Mo_noteMark_49 : xd m_Mo_noteMark 49 (.iadd) 1 50 := ⟨by decide +kernel, rfl⟩
theorem D_Mo_noteMark_50 : xd m_Mo_noteMark 50 (.aload_n 0) 1 51 := ⟨by decide +kernel, rfl⟩
theorem D_Mo_noteMark_51 : xd m_Mo_noteMark 51 (.getfield 94) 3 54 := ⟨by decide +kernel, rfl⟩
theorem D_Mo_noteMark_54 : xd m_Mo_noteMark 54 (.iconst 0) 1 55 := ⟨by decide +kernel, rfl⟩
theorem D_Mo_noteMark_55 : xd m_Mo_noteMark 55 (.iaload) 1 56 := ⟨by decide +kernel, rfl⟩
theorem D_Mo_noteMark_56 : xd m_Mo_noteMark 56 (.iastore) 1 57 := ⟨by decide +kernel, rfl⟩
theorem D_Mo_noteMark_57 : xd m_Mo_noteMark 57 (.aload_n 0) 1 58 := ⟨by decide +kernel, rfl⟩
theorem D_Mo_noteMark_58 : xd m_Mo_noteMark 58 (.getfield 79) 3 61 := ⟨by decide +kernel, rfl⟩
theorem D_Mo_noteMark_61 : xd m_Mo_noteMark 61 (.iload 4) 2 63 := ⟨by decide +kernel, rfl⟩
theorem D_Mo_noteMark_63 : xd m_Mo_noteMark 63 (.iconst 4) 1 64 := ⟨by decide +kernel, rfl⟩
theorem D_Mo_noteMark_64 : xd m_Mo_noteMark 64 (.iadd) 1 65 := ⟨by decide +kernel, rfl⟩
theorem D_Mo_noteMark_65 : xd m_Mo_noteMark 65 (.aload_n 0) 1 66 := ⟨by decide +kernel, rfl⟩
theorem D_Mo_noteMark_66 : xd m_Mo_noteMark 66 (.getfield 94) 3 69 := ⟨by decide +kernel, rfl⟩
theorem D_Mo_noteMark_69 : xd m_Mo_noteMark 69 (.iconst 1) 1 70 := ⟨by decide +kernel, rfl⟩
theorem D_Mo_noteMark_70 : xd m_Mo_noteMark 70 (.iaload) 1 71 := ⟨by decide +kernel, rfl⟩
theorem D_Mo_noteMark_71 : xd m_Mo_noteMark 71 (.iastore) 1 72 := ⟨by decide +kernel, rfl⟩
theorem D_Mo_noteMark_72 : xd m_Mo_noteMark 72 (.aload_n 0) 1 73 := ⟨by decide +kernel, rfl⟩
theorem D_Mo_noteMark_73 : xd m_Mo_noteMark 73 (.getfield 79) 3 76 := ⟨by decide +kernel, rfl⟩
theorem D_Mo_noteMark_76 : xd m_Mo_noteMark 76 (.iload 4) 2 78 := ⟨by decide +kernel, rfl⟩
theorem D_Mo_noteMark_78 : xd m_Mo_noteMark 78 (.iconst 5) 1 79 := ⟨by decide +kernel, rfl⟩
theorem D_Mo_noteMark_79 : xd m_Mo_noteMark 79 (.iadd) 1 80 := ⟨by decide +kernel, rfl⟩
theorem D_Mo_noteMark_80 : xd m_Mo_noteMark 80 (.iload_n 3) 1 81 := ⟨by decide +kernel, rfl⟩
theorem D_Mo_noteMark_81 : xd m_Mo_noteMark 81 (.iastore) 1 82 := ⟨by decide +kernel, rfl⟩
theorem D_Mo_noteMark_82 : xd m_Mo_noteMark 82 (.aload_n 0) 1 83 := ⟨by decide +kernel, rfl⟩
theorem D_Mo_noteMark_83 : xd m_Mo_noteMark 83 (.dup) 1 84 := ⟨by decide +kernel, rfl⟩
theorem D_Mo_noteMark_84 : xd m_Mo_noteMark 84 (.getfield 279) 3 87 := ⟨by decide +kernel, rfl⟩
theorem D_Mo_noteMark_87 : xd m_Mo_noteMark 87 (.iconst 1) 1 88 := ⟨by decide +kernel, rfl⟩
theorem D_Mo_noteMark_88 : xd m_Mo_noteMark 88 (.iadd) 1 89 := ⟨by decide +kernel, rfl⟩
theorem D_Mo_noteMark_89 : xd m_Mo_noteMark 89 (.putfield 279) 3 92 := ⟨by decide +kernel, rfl⟩
theorem D_Mo_noteMark_92 : xd m_Mo_noteMark 92 (.return_) 1 93 := ⟨by decide +kernel, rfl⟩
theorem D_Mo_setCharacter_0 : xd m_Mo_setCharacter 0 (.aload_n 0) 1 1 := ⟨by decide +kernel, rfl⟩
theorem D_Mo_setCharacter_1 : xd m_Mo_setCharacter 1 (.getfield 260) 3 4 := ⟨by decide +kernel, rfl⟩
theorem D_Mo_setCharacter_4 : xd m_Mo_setCharacter 4 (.ifCond .ne 6) 3 7 := ⟨by decide +kernel, rfl⟩
theorem D_Mo_setCharacter_7 : xd m_Mo_setCharacter 7 (.bipush 7) 2 9 := ⟨by decide +kernel, rfl⟩
theorem D_Mo_setCharacter_9 : xd m_Mo_setCharacter 9 (.ireturn) 1 10 := ⟨by decide +kernel, rfl⟩
theorem D_Mo_setCharacter_10 : xd m_Mo_setCharacter 10 (.aload_n 0) 1 11 := ⟨by decide +kernel, rfl⟩
theorem D_Mo_setCharacter_11 : xd m_Mo_setCharacter 11 (.getfield 282) 3 14 := ⟨by decide +kernel, rfl⟩
theorem D_Mo_setCharacter_14 : xd m_Mo_setCharacter 14 (.invokestatic 105) 3 17 := ⟨by decide +kernel, rfl⟩
theorem D_Mo_setCharacter_17 : xd m_Mo_setCharacter 17 (.ifCond .eq 28) 3 20 := ⟨by decide +kernel, rfl⟩
theorem D_Mo_setCharacter_20 : xd m_Mo_setCharacter 20 (.iload_n 1) 1 21 := ⟨by decide +kernel, rfl⟩
theorem D_Mo_setCharacter_21 : xd m_Mo_setCharacter 21 (.invokestatic 105) 3 24 := ⟨by decide +kernel, rfl⟩
theorem D_Mo_setCharacter_24 : xd m_Mo_setCharacter 24 (.ifCond .eq 21) 3 27 := ⟨by decide +kernel, rfl⟩
theorem D_Mo_setCharacter_27 : xd m_Mo_setCharacter 27 (.aload_n 0) 1 28 := ⟨by decide +kernel, rfl⟩
theorem D_Mo_setCharacter_28 : xd m_Mo_setCharacter 28 (.getfield 31) 3 31 := ⟨by decide +kernel, rfl⟩
theorem D_Mo_setCharacter_31 : xd m_Mo_setCharacter 31 (.sipush 256) 3 34 := ⟨by decide +kernel, rfl⟩
theorem D_Mo_setCharacter_34 : xd m_Mo_setCharacter 34 (.aload_n 0) 1 35 := ⟨by decide +kernel, rfl⟩
theorem D_Mo_setCharacter_35 : xd m_Mo_setCharacter 35 (.getfield 282) 3 38 := ⟨by decide +kernel, rfl⟩
theorem D_Mo_setCharacter_38 : xd m_Mo_setCharacter 38 (.imul) 1 39 := ⟨by decide +kernel, rfl⟩
theorem D_Mo_setCharacter_39 : xd m_Mo_setCharacter 39 (.iload_n 1) 1 40 := ⟨by decide +kernel, rfl⟩
theorem D_Mo_setCharacter_40 : xd m_Mo_setCharacter 40 (.iadd) 1 41 := ⟨by decide +kernel, rfl⟩
theorem D_Mo_setCharacter_41 : xd m_Mo_setCharacter 41 (.iaload) 1 42 := ⟨by decide +kernel, rfl⟩
theorem D_Mo_setCharacter_42 : xd m_Mo_setCharacter 42 (.goto 4) 3 45 := ⟨by decide +kernel, rfl⟩
theorem D_Mo_setCharacter_45 : xd m_Mo_setCharacter 45 (.iconst 0) 1 46 := ⟨by decide +kernel, rfl⟩
theorem D_Mo_setCharacter_46 : xd m_Mo_setCharacter 46 (.istore_n 3) 1 47 := ⟨by decide +kernel, rfl⟩
theorem D_Mo_setCharacter_47 : xd m_Mo_setCharacter 47 (.iload_n 2) 1 48 := ⟨by decide +kernel, rfl⟩
theorem D_Mo_setCharacter_48 : xd m_Mo_setCharacter 48 (.ifCond .eq 22) 3 51 := ⟨by decide +kernel, rfl⟩
theorem D_Mo_setCharacter_51 : xd m_Mo_setCharacter 51 (.aload_n 0) 1 52 := ⟨by decide +kernel, rfl⟩
theorem D_Mo_setCharacter_52 : xd m_Mo_setCharacter 52 (.getfield 94) 3 55 := ⟨by decide +kernel, rfl⟩
theorem D_Mo_setCharacter_55 : xd m_Mo_setCharacter 55 (.iconst 0) 1 56 := ⟨by decide +kernel, rfl⟩
theorem D_Mo_setCharacter_56 : xd m_Mo_setCharacter 56 (.iaload) 1 57 := ⟨by decide +kernel, rfl⟩
theorem D_Mo_setCharacter_57 : xd m_Mo_setCharacter 57 (.i2l) 1 58 := ⟨by decide +kernel, rfl⟩
theorem D_Mo_setCharacter_58 : xd m_Mo_setCharacter 58 (.iload_n 3) 1 59 := ⟨by decide +kernel, rfl⟩
theorem D_Mo_setCharacter_59 : xd m_Mo_setCharacter 59 (.i2l) 1 60 := ⟨by decide +kernel, rfl⟩
theorem D_Mo_setCharacter_60 : xd m_Mo_setCharacter 60 (.ladd) 1 61 := ⟨by decide +kernel, rfl⟩
theorem D_Mo_setCharacter_61 : xd m_Mo_setCharacter 61 (.invokestatic 158) 3 64 := ⟨by decide +kernel, rfl⟩
theorem D_Mo_setCharacter_64 : xd m_Mo_setCharacter 64 (.ifCond .ne 6) 3 67 := ⟨by decide +kernel, rfl⟩
theorem D_Mo_setCharacter_67 : xd m_Mo_setCharacter 67 (.bipush 8) 2 69 := ⟨by decide +kernel, rfl⟩
theorem D_Mo_setCharacter_69 : xd m_Mo_setCharacter 69 (.ireturn) 1 70 := ⟨by decide +kernel, rfl⟩
theorem D_Mo_setCharacter_70 : xd m_Mo_setCharacter 70 (.aload_n 0) 1 71 := ⟨by decide +kernel, rfl⟩
theorem D_Mo_setCharacter_71 : xd m_Mo_setCharacter 71 (.getfield 279) 3 74 := ⟨by decide +kernel, rfl⟩
theorem D_Mo_setCharacter_74 : xd m_Mo_setCharacter 74 (.sipush 2000) 3 77 := ⟨by decide +kernel, rfl⟩
theorem D_Mo_setCharacter_77 : xd m_Mo_setCharacter 77 (.if_icmp .ne 6) 3 80 := ⟨by decide +kernel, rfl⟩
theorem D_Mo_setCharacter_80 : xd m_Mo_setCharacter 80 (.bipush 9) 2 82 := ⟨by decide +kernel, rfl⟩
theorem D_Mo_setCharacter_82 : xd m_Mo_setCharacter 82 (.ireturn) 1 83 := ⟨by decide +kernel, rfl⟩
theorem D_Mo_setCharacter_83 : xd m_Mo_setCharacter 83 (.aload_n 0) 1 84 := ⟨by decide +kernel, rfl⟩
theorem D_Mo_setCharacter_84 : xd m_Mo_setCharacter 84 (.aload_n 0) 1 85 := ⟨by decide +kernel, rfl⟩
theorem D_Mo_setCharacter_85 : xd m_Mo_setCharacter 85 (.getfield 282) 3 88 := ⟨by decide +kernel, rfl⟩
theorem D_Mo_setCharacter_88 : xd m_Mo_setCharacter 88 (.iload_n 1) 1 89 := ⟨by decide +kernel, rfl⟩
theorem D_Mo_setCharacter_89 : xd m_Mo_setCharacter 89 (.iconst 0) 1 90 := ⟨by decide +kernel, rfl⟩
theorem D_Mo_setCharacter_90 : xd m_Mo_setCharacter 90 (.invokevirtual 285) 3 93 := ⟨by decide +kernel, rfl⟩
theorem D_Mo_setCharacter_93 : xd m_Mo_setCharacter 93 (.iload_n 2) 1 94 := ⟨by decide +kernel, rfl⟩
theorem D_Mo_setCharacter_94 : xd m_Mo_setCharacter 94 (.ifCond .eq 12) 3 97 := ⟨by decide +kernel, rfl⟩
theorem D_Mo_setCharacter_97 : xd m_Mo_setCharacter 97 (.aload_n 0) 1 98 := ⟨by decide +kernel, rfl⟩
theorem D_Mo_setCharacter_98 : xd m_Mo_setCharacter 98 (.iconst 0) 1 99 := ⟨by decide +kernel, rfl⟩
theorem D_Mo_setCharacter_99 : xd m_Mo_setCharacter 99 (.iload_n 3) 1 100 := ⟨by decide +kernel, rfl⟩
theorem D_Mo_setCharacter_100 : xd m_Mo_setCharacter 100 (.invokevirtual 289) 3 103 := ⟨by decide +kernel, rfl⟩
theorem D_Mo_setCharacter_103 : xd m_Mo_setCharacter 103 (.goto 4) 3 106 := ⟨by decide +kernel, rfl⟩
theorem D_Mo_setCharacter_106 : xd m_Mo_setCharacter 106 (.iconst 0) 1 107 := ⟨by decide +kernel, rfl⟩
theorem D_Mo_setCharacter_107 : xd m_Mo_setCharacter 107 (.ireturn) 1 108 := ⟨by decide +kernel, rfl⟩
theorem D_Mo_setRule_0 : xd m_Mo_setRule 0 (.aload_n 0) 1 1 := ⟨by decide +kernel, rfl⟩
theorem D_Mo_setRule_1 : xd m_Mo_setRule 1 (.aload_n 0) 1 2 := ⟨by decide +kernel, rfl⟩
theorem D_Mo_setRule_2 : xd m_Mo_setRule 2 (.getfield 203) 3 5 := ⟨by decide +kernel, rfl⟩
theorem D_Mo_setRule_5 : xd m_Mo_setRule 5 (.iconst 1) 1 6 := ⟨by decide +kernel, rfl⟩
theorem D_Mo_setRule_6 : xd m_Mo_setRule 6 (.iadd) 1 7 := ⟨by decide +kernel, rfl⟩
theorem D_Mo_setRule_7 : xd m_Mo_setRule 7 (.iconst 4) 1 8 := ⟨by decide +kernel, rfl⟩
theorem D_Mo_setRule_8 : xd m_Mo_setRule 8 (.iconst 1) 1 9 := ⟨by decide +kernel, rfl⟩
theorem D_Mo_setRule_9 : xd m_Mo_setRule 9 (.invokevirtual 220) 3 12 := ⟨by decide +kernel, rfl⟩
theorem D_Mo_setRule_12 : xd m_Mo_setRule 12 (.istore_n 2) 1 13 := ⟨by decide +kernel, rfl⟩
theorem D_Mo_setRule_13 : xd m_Mo_setRule 13 (.aload_n 0) 1 14 := ⟨by decide +kernel, rfl⟩
theorem D_Mo_setRule_14 : xd m_Mo_setRule 14 (.aload_n 0) 1 15 := ⟨by decide +kernel, rfl⟩
theorem D_Mo_setRule_15 : xd m_Mo_setRule 15 (.getfield 203) 3 18 := ⟨by decide +kernel, rfl⟩
theorem D_Mo_setRule_18 : xd m_Mo_setRule 18 (.iconst 5) 1 19 := ⟨by decide +kernel, rfl⟩
theorem D_Mo_setRule_19 : xd m_Mo_setRule 19 (.iadd) 1 20 := ⟨by decide +kernel, rfl⟩
theorem D_Mo_setRule_20 : xd m_Mo_setRule 20 (.iconst 4) 1 21 := ⟨by decide +kernel, rfl⟩
theorem D_Mo_setRule_21 : xd m_Mo_setRule 21 (.iconst 1) 1 22 := ⟨by decide +kernel, rfl⟩
theorem D_Mo_setRule_22 : xd m_Mo_setRule 22 (.invokevirtual 220) 3 25 := ⟨by decide +kernel, rfl⟩
theorem D_Mo_setRule_25 : xd m_Mo_setRule 25 (.istore_n 3) 1 26 := ⟨by decide +kernel, rfl⟩
theorem D_Mo_setRule_26 : xd m_Mo_setRule 26 (.iload_n 2) 1 27 := ⟨by decide +kernel, rfl⟩
theorem D_Mo_setRule_27 : xd m_Mo_setRule 27 (.ifCond .le 11) 3 30 := ⟨by decide +kernel, rfl⟩
theorem D_Mo_setRule_30 : xd m_Mo_setRule 30 (.iload_n 3) 1 31 := ⟨by decide +kernel, rfl⟩
theorem D_Mo_setRule_31 : xd m_Mo_setRule 31 (.ifCond .le 7) 3 34 := ⟨by decide +kernel, rfl⟩
theorem D_Mo_setRule_34 : xd m_Mo_setRule 34 (.iconst 1) 1 35 := ⟨by decide +kernel, rfl⟩
theorem D_Mo_setRule_35 : xd m_Mo_setRule 35 (.goto 4) 3 38 := ⟨by decide +kernel, rfl⟩
theorem D_Mo_setRule_38 : xd m_Mo_setRule 38 (.iconst 0) 1 39 := ⟨by decide +kernel, rfl⟩
theorem D_Mo_setRule_39 : xd m_Mo_setRule 39 (.istore 4) 2 41 := ⟨by decide +kernel, rfl⟩
theorem D_Mo_setRule_41 : xd m_Mo_setRule 41 (.iload_n 1) 1 42 := ⟨by decide +kernel, rfl⟩
theorem D_Mo_setRule_42 : xd m_Mo_setRule 42 (.ifCond .eq 22) 3 45 := ⟨by decide +kernel, rfl⟩
theorem D_Mo_setRule_45 : xd m_Mo_setRule 45 (.aload_n 0) 1 46 := ⟨by decide +kernel, rfl⟩
theorem D_Mo_setRule_46 : xd m_Mo_setRule 46 (.getfield 94) 3 49 := ⟨by decide +kernel, rfl⟩
theorem D_Mo_setRule_49 : xd m_Mo_setRule 49 (.iconst 0) 1 50 := ⟨by decide +kernel, rfl⟩
theorem D_Mo_setRule_50 : xd m_Mo_setRule 50 (.iaload) 1 51 := ⟨by decide +kernel, rfl⟩
theorem D_Mo_setRule_51 : xd m_Mo_setRule 51 (.i2l) 1 52 := ⟨by decide +kernel, rfl⟩
theorem D_Mo_setRule_52 : xd m_Mo_setRule 52 (.iload_n 3) 1 53 := ⟨by decide +kernel, rfl⟩
theorem D_Mo_setRule_53 : xd m_Mo_setRule 53 (.i2l) 1 54 := ⟨by decide +kernel, rfl⟩
theorem D_Mo_setRule_54 : xd m_Mo_setRule 54 (.ladd) 1 55 := ⟨by decide +kernel, rfl⟩
theorem D_Mo_setRule_55 : xd m_Mo_setRule 55 (.invokestatic 158) 3 58 := ⟨by decide +kernel, rfl⟩
theorem D_Mo_setRule_58 : xd m_Mo_setRule 58 (.ifCond .ne 6) 3 61 := ⟨by decide +kernel, rfl⟩
theorem D_Mo_setRule_61 : xd m_Mo_setRule 61 (.bipush 8) 2 63 := ⟨by decide +kernel, rfl⟩
theorem D_Mo_setRule_63 : xd m_Mo_setRule 63 (.ireturn) 1 64 := ⟨by decide +kernel, rfl⟩
theorem D_Mo_setRule_64 : xd m_Mo_setRule 64 (.iload 4) 2 66 := ⟨by decide +kernel, rfl⟩
theorem D_Mo_setRule_66 : xd m_Mo_setRule 66 (.ifCond .eq 16) 3 69 := ⟨by decide +kernel, rfl⟩
theorem D_Mo_setRule_69 : xd m_Mo_setRule 69 (.aload_n 0) 1 70 := ⟨by decide +kernel, rfl⟩
theorem D_Mo_setRule_70 : xd m_Mo_setRule 70 (.getfield 279) 3 73 := ⟨by decide +kernel, rfl⟩
theorem D_Mo_setRule_73 : xd m_Mo_setRule 73 (.sipush 2000) 3 76 := ⟨by decide +kernel, rfl⟩
theorem D_Mo_setRule_76 : xd m_Mo_setRule 76 (.if_icmp .ne 6) 3 79 := ⟨by decide +kernel, rfl⟩
theorem D_Mo_setRule_79 : xd m_Mo_setRule 79 (.bipush 9) 2 81 := ⟨by decide +kernel, rfl⟩
theorem D_Mo_setRule_81 : xd m_Mo_setRule 81 (.ireturn) 1 82 := ⟨by decide +kernel, rfl⟩
theorem D_Mo_setRule_82 : xd m_Mo_setRule 82 (.iload 4) 2 84 := ⟨by decide +kernel, rfl⟩
theorem D_Mo_setRule_84 : xd m_Mo_setRule 84 (.ifCond .eq 10) 3 87 := ⟨by decide +kernel, rfl⟩
theorem D_Mo_setRule_87 : xd m_Mo_setRule 87 (.aload_n 0) 1 88 := ⟨by decide +kernel, rfl⟩
theorem D_Mo_setRule_88 : xd m_Mo_setRule 88 (.iconst (-1)) 1 89 := ⟨by decide +kernel, rfl⟩
theorem D_Mo_setRule_89 : xd m_Mo_setRule 89 (.iload_n 3) 1 90 := ⟨by decide +kernel, rfl⟩
theorem D_Mo_setRule_90 : xd m_Mo_setRule 90 (.iload_n 2) 1 91 := ⟨by decide +kernel, rfl⟩
theorem D_Mo_setRule_91 : xd m_Mo_setRule 91 (.invokevirtual 285) 3 94 := ⟨by decide +kernel, rfl⟩
theorem D_Mo_setRule_94 : xd m_Mo_setRule 94 (.iload_n 1) 1 95 := ⟨by decide +kernel, rfl⟩
theorem D_Mo_setRule_95 : xd m_Mo_setRule 95 (.ifCond .eq 12) 3 98 := ⟨by decide +kernel, rfl⟩
theorem D_Mo_setRule_98 : xd m_Mo_setRule 98 (.aload_n 0) 1 99 := ⟨by decide +kernel, rfl⟩
theorem D_Mo_setRule_99 : xd m_Mo_setRule 99 (.iconst 0) 1 100 := ⟨by decide +kernel, rfl⟩
theorem D_Mo_setRule_100 : xd m_Mo_setRule 100 (.iload_n 3) 1 101 := ⟨by decide +kernel, rfl⟩
theorem D_Mo_setRule_101 : xd m_Mo_setRule 101 (.invokevirtual 289) 3 104 := ⟨by decide +kernel, rfl⟩
theorem D_Mo_setRule_104 : xd m_Mo_setRule 104 (.goto 4) 3 107 := ⟨by decide +kernel, rfl⟩
theorem D_Mo_setRule_107 : xd m_Mo_setRule 107 (.iconst 0) 1 108 := ⟨by decide +kernel, rfl⟩
theorem D_Mo_setRule_108 : xd m_Mo_setRule 108 (.ireturn) 1 109 := ⟨by decide +kernel, rfl⟩
theorem D_Mo_moveBy_0 : xd m_Mo_moveBy 0 (.iload_n 1) 1 1 := ⟨by decide +kernel, rfl⟩
theorem D_Mo_moveBy_1 : xd m_Mo_moveBy 1 (.invokestatic 217) 3 4 := ⟨by decide +kernel, rfl⟩
theorem D_Mo_moveBy_4 : xd m_Mo_moveBy 4 (.istore_n 2) 1 5 := ⟨by decide +kernel, rfl⟩
theorem D_Mo_moveBy_5 : xd m_Mo_moveBy 5 (.iload_n 1) 1 6 := ⟨by decide +kernel, rfl⟩
theorem D_Mo_moveBy_6 : xd m_Mo_moveBy 6 (.sipush 157) 3 9 := ⟨by decide +kernel, rfl⟩
theorem D_Mo_moveBy_9 : xd m_Mo_moveBy 9 (.if_icmp .ge 7) 3 12 := ⟨by decide +kernel, rfl⟩
theorem D_Mo_moveBy_12 : xd m_Mo_moveBy 12 (.iconst 0) 1 13 := ⟨by decide +kernel, rfl⟩
theorem D_Mo_moveBy_13 : xd m_Mo_moveBy 13 (.goto 4) 3 16 := ⟨by decide +kernel, rfl⟩
theorem D_Mo_moveBy_16 : xd m_Mo_moveBy 16 (.iconst 1) 1 17 := ⟨by decide +kernel, rfl⟩
theorem D_Mo_moveBy_17 : xd m_Mo_moveBy 17 (.istore_n 3) 1 18 := ⟨by decide +kernel, rfl⟩
theorem D_Mo_moveBy_18 : xd m_Mo_moveBy 18 (.iload_n 1) 1 19 := ⟨by decide +kernel, rfl⟩
theorem D_Mo_moveBy_19 : xd m_Mo_moveBy 19 (.sipush 147) 3 22 := ⟨by decide +kernel, rfl⟩
theorem D_Mo_moveBy_22 : xd m_Mo_moveBy 22 (.if_icmp .ge 7) 3 25 := ⟨by decide +kernel, rfl⟩
theorem D_Mo_moveBy_25 : xd m_Mo_moveBy 25 (.iconst 0) 1 26 := ⟨by decide +kernel, rfl⟩
theorem D_Mo_moveBy_26 : xd m_Mo_moveBy 26 (.goto 48) 3 29 := ⟨by decide +kernel, rfl⟩
theorem D_Mo_moveBy_29 : xd m_Mo_moveBy 29 (.iload_n 1) 1 30 := ⟨by decide +kernel, rfl⟩
theorem D_Mo_moveBy_30 : xd m_Mo_moveBy 30 (.sipush 152) 3 33 := ⟨by decide +kernel, rfl⟩
theorem D_Mo_moveBy_33 : xd m_Mo_moveBy 33 (.if_icmp .ge 7) 3 36 := ⟨by decide +kernel, rfl⟩
theorem D_Mo_moveBy_36 : xd m_Mo_moveBy 36 (.iconst 2) 1 37 := ⟨by decide +kernel, rfl⟩
theorem D_Mo_moveBy_37 : xd m_Mo_moveBy 37 (.goto 37) 3 40 := ⟨by decide +kernel, rfl⟩
theorem D_Mo_moveBy_40 : xd m_Mo_moveBy 40 (.iload_n 1) 1 41 := ⟨by decide +kernel, rfl⟩
theorem D_Mo_moveBy_41 : xd m_Mo_moveBy 41 (.sipush 157) 3 44 := ⟨by decide +kernel, rfl⟩
theorem D_Mo_moveBy_44 : xd m_Mo_moveBy 44 (.if_icmp .ge 7) 3 47 := ⟨by decide +kernel, rfl⟩
theorem D_Mo_moveBy_47 : xd m_Mo_moveBy 47 (.iconst 3) 1 48 := ⟨by decide +kernel, rfl⟩
theorem D_Mo_moveBy_48 : xd m_Mo_moveBy 48 (.goto 26) 3 51 := ⟨by decide +kernel, rfl⟩
theorem D_Mo_moveBy_51 : xd m_Mo_moveBy 51 (.iload_n 1) 1 52 := ⟨by decide +kernel, rfl⟩
theorem D_Mo_moveBy_52 : xd m_Mo_moveBy 52 (.sipush 161) 3 55 := ⟨by decide +kernel, rfl⟩
theorem D_Mo_moveBy_55 : xd m_Mo_moveBy 55 (.if_icmp .ge 7) 3 58 := ⟨by decide +kernel, rfl⟩
theorem D_Mo_moveBy_58 : xd m_Mo_moveBy 58 (.iconst 0) 1 59 := ⟨by decide +kernel, rfl⟩
theorem D_Mo_moveBy_59 : xd m_Mo_moveBy 59 (.goto 15) 3 62 := ⟨by decide +kernel, rfl⟩
theorem D_Mo_moveBy_62 : xd m_Mo_moveBy 62 (.iload_n 1) 1 63 := ⟨by decide +kernel, rfl⟩
theorem D_Mo_moveBy_63 : xd m_Mo_moveBy 63 (.sipush 166) 3 66 := ⟨by decide +kernel, rfl⟩
theorem D_Mo_moveBy_66 : xd m_Mo_moveBy 66 (.if_icmp .ge 7) 3 69 := ⟨by decide +kernel, rfl⟩
theorem D_Mo_moveBy_69 : xd m_Mo_moveBy 69 (.iconst 4) 1 70 := ⟨by decide +kernel, rfl⟩
theorem D_Mo_moveBy_70 : xd m_Mo_moveBy 70 (.goto 4) 3 73 := ⟨by decide +kernel, rfl⟩
theorem D_Mo_moveBy_73 : xd m_Mo_moveBy 73 (.iconst 5) 1 74 := ⟨by decide +kernel, rfl⟩
theorem D_Mo_moveBy_74 : xd m_Mo_moveBy 74 (.istore 4) 2 76 := ⟨by decide +kernel, rfl⟩
theorem D_Mo_moveBy_76 : xd m_Mo_moveBy 76 (.iload_n 2) 1 77 := ⟨by decide +kernel, rfl⟩
theorem D_Mo_moveBy_77 : xd m_Mo_moveBy 77 (.ifCond .le 18) 3 80 := ⟨by decide +kernel, rfl⟩
theorem D_Mo_moveBy_80 : xd m_Mo_moveBy 80 (.aload_n 0) 1 81 := ⟨by decide +kernel, rfl⟩
theorem D_Mo_moveBy_81 : xd m_Mo_moveBy 81 (.aload_n 0) 1 82 := ⟨by decide +kernel, rfl⟩
theorem D_Mo_moveBy_82 : xd m_Mo_moveBy 82 (.getfield 203) 3 85 := ⟨by decide +kernel, rfl⟩
theorem D_Mo_moveBy_85 : xd m_Mo_moveBy 85 (.iconst 1) 1 86 := ⟨by decide +kernel, rfl⟩
theorem D_Mo_moveBy_86 : xd m_Mo_moveBy 86 (.iadd) 1 87 := ⟨by decide +kernel, rfl⟩
theorem D_Mo_moveBy_87 : xd m_Mo_moveBy 87 (.iload_n 2) 1 88 := ⟨by decide +kernel, rfl⟩
theorem D_Mo_moveBy_88 : xd m_Mo_moveBy 88 (.iconst 1) 1 89 := ⟨by decide +kernel, rfl⟩
theorem D_Mo_moveBy_89 : xd m_Mo_moveBy 89 (.invokevirtual 220) 3 92 := ⟨by decide +kernel, rfl⟩
theorem D_Mo_moveBy_92 : xd m_Mo_moveBy 92 (.goto 10) 3 95 := ⟨by decide +kernel, rfl⟩
theorem D_Mo_moveBy_95 : xd m_Mo_moveBy 95 (.aload_n 0) 1 96 := ⟨by decide +kernel, rfl⟩
theorem D_Mo_moveBy_96 : xd m_Mo_moveBy 96 (.getfield 94) 3 99 := ⟨by decide +kernel, rfl⟩
theorem D_Mo_moveBy_99 : xd m_Mo_moveBy 99 (.iload 4) 2 101 := ⟨by decide +kernel, rfl⟩
theorem D_Mo_moveBy_101 : xd m_Mo_moveBy 101 (.iaload) 1 102 := ⟨by decide +kernel, rfl⟩
theorem D_Mo_moveBy_102 : xd m_Mo_moveBy 102 (.istore 5) 2 104 := ⟨by decide +kernel, rfl⟩
theorem D_Mo_moveBy_104 : xd m_Mo_moveBy 104 (.aload_n 0) 1 105 := ⟨by decide +kernel, rfl⟩
theorem D_Mo_moveBy_105 : xd m_Mo_moveBy 105 (.iload_n 3) 1 106 := ⟨by decide +kernel, rfl⟩
theorem D_Mo_moveBy_106 : xd m_Mo_moveBy 106 (.iload 5) 2 108 := ⟨by decide +kernel, rfl⟩
theorem D_Mo_moveBy_108 : xd m_Mo_moveBy 108 (.invokevirtual 289) 3 111 := ⟨by decide +kernel, rfl⟩
theorem D_Mo_moveBy_111 : xd m_Mo_moveBy 111 (.istore 6) 2 113 := ⟨by decide +kernel, rfl⟩
theorem D_Mo_moveBy_113 : xd m_Mo_moveBy 113 (.iload 6) 2 115 := ⟨by decide +kernel, rfl⟩
theorem D_Mo_moveBy_115 : xd m_Mo_moveBy 115 (.ifCond .ne 17) 3 118 := ⟨by decide +kernel, rfl⟩
theorem D_Mo_moveBy_118 : xd m_Mo_moveBy 118 (.iload 4) 2 120 := ⟨by decide +kernel, rfl⟩
theorem D_Mo_moveBy_120 : xd m_Mo_moveBy 120 (.ifCond .le 12) 3 123 := ⟨by decide +kernel, rfl⟩
theorem D_Mo_moveBy_123 : xd m_Mo_moveBy 123 (.aload_n 0) 1 124 := ⟨by decide +kernel, rfl⟩
theorem D_Mo_moveBy_124 : xd m_Mo_moveBy 124 (.getfield 94) 3 127 := ⟨by decide +kernel, rfl⟩
theorem D_Mo_moveBy_127 : xd m_Mo_moveBy 127 (.iload 4) 2 129 := ⟨by decide +kernel, rfl⟩
theorem D_Mo_moveBy_129 : xd m_Mo_moveBy 129 (.iload 5) 2 131 := ⟨by decide +kernel, rfl⟩
theorem D_Mo_moveBy_131 : xd m_Mo_moveBy 131 (.iastore) 1 132 := ⟨by decide +kernel, rfl⟩
theorem D_Mo_moveBy_132 : xd m_Mo_moveBy 132 (.iload 6) 2 134 := ⟨by decide +kernel, rfl⟩
theorem D_Mo_moveBy_134 : xd m_Mo_moveBy 134 (.ireturn) 1 135 := ⟨by decide +kernel, rfl⟩
theorem D_Mo_push_0 : xd m_Mo_push 0 (.aload_n 0) 1 1 := ⟨by decide +kernel, rfl⟩
theorem D_Mo_push_1 : xd m_Mo_push 1 (.getfield 263) 3 4 := ⟨by decide +kernel, rfl⟩
theorem D_Mo_push_4 : xd m_Mo_push 4 (.bipush 100) 2 6 := ⟨by decide +kernel, rfl⟩
theorem D_Mo_push_6 : xd m_Mo_push 6 (.if_icmp .ne 5) 3 9 := ⟨by decide +kernel, rfl⟩
theorem D_Mo_push_9 : xd m_Mo_push 9 (.iconst 4) 1 10 := ⟨by decide +kernel, rfl⟩
theorem D_Mo_push_10 : xd m_Mo_push 10 (.ireturn) 1 11 := ⟨by decide +kernel, rfl⟩
theorem D_Mo_push_11 : xd m_Mo_push 11 (.iconst 0) 1 12 := ⟨by decide +kernel, rfl⟩
theorem D_Mo_push_12 : xd m_Mo_push 12 (.istore_n 1) 1 13 := ⟨by decide +kernel, rfl⟩
theorem D_Mo_push_13 : xd m_Mo_push 13 (.iload_n 1) 1 14 := ⟨by decide +kernel, rfl⟩
theorem D_Mo_push_14 : xd m_Mo_push 14 (.bipush 6) 2 16 := ⟨by decide +kernel, rfl⟩
theorem D_Mo_push_16 : xd m_Mo_push 16 (.if_icmp .ge 29) 3 19 := ⟨by decide +kernel, rfl⟩
theorem D_Mo_push_19 : xd m_Mo_push 19 (.aload_n 0) 1 20 := ⟨by decide +kernel, rfl⟩
theorem D_Mo_push_20 : xd m_Mo_push 20 (.getfield 91) 3 23 := ⟨by decide +kernel, rfl⟩
theorem D_Mo_push_23 : xd m_Mo_push 23 (.bipush 6) 2 25 := ⟨by decide +kernel, rfl⟩
theorem D_Mo_push_25 : xd m_Mo_push 25 (.aload_n 0) 1 26 := ⟨by decide +kernel, rfl⟩
theorem D_Mo_push_26 : xd m_Mo_push 26 (.getfield 263) 3 29 := ⟨by decide +kernel, rfl⟩
theorem D_Mo_push_29 : xd m_Mo_push 29 (.imul) 1 30 := ⟨by decide +kernel, rfl⟩
theorem D_Mo_push_30 : xd m_Mo_push 30 (.iload_n 1) 1 31 := ⟨by decide +kernel, rfl⟩
theorem D_Mo_push_31 : xd m_Mo_push 31 (.iadd) 1 32 := ⟨by decide +kernel, rfl⟩
theorem D_Mo_push_32 : xd m_Mo_push 32 (.aload_n 0) 1 33 := ⟨by decide +kernel, rfl⟩
theorem D_Mo_push_33 : xd m_Mo_push 33 (.getfield 94) 3 36 := ⟨by decide +kernel, rfl⟩
theorem D_Mo_push_36 : xd m_Mo_push 36 (.iload_n 1) 1 37 := ⟨by decide +kernel, rfl⟩
theorem D_Mo_push_37 : xd m_Mo_push 37 (.iaload) 1 38 := ⟨by decide +kernel, rfl⟩
theorem D_Mo_push_38 : xd m_Mo_push 38 (.iastore) 1 39 := ⟨by decide +kernel, rfl⟩
theorem D_Mo_push_39 : xd m_Mo_push 39 (.iinc 1 1) 3 42 := ⟨by decide +kernel, rfl⟩
theorem D_Mo_push_42 : xd m_Mo_push 42 (.goto (-29)) 3 45 := ⟨by decide +kernel, rfl⟩
theorem D_Mo_push_45 : xd m_Mo_push 45 (.aload_n 0) 1 46 := ⟨by decide +kernel, rfl⟩
theorem D_Mo_push_46 : xd m_Mo_push 46 (.dup) 1 47 := ⟨by decide +kernel, rfl⟩
theorem D_Mo_push_47 : xd m_Mo_push 47 (.getfield 263) 3 50 := ⟨by decide +kernel, rfl⟩
theorem D_Mo_push_50 : xd m_Mo_push 50 (.iconst 1) 1 51 := ⟨by decide +kernel, rfl⟩
theorem D_Mo_push_51 : xd m_Mo_push 51 (.iadd) 1 52 := ⟨by decide +kernel, rfl⟩
theorem D_Mo_push_52 : xd m_Mo_push 52 (.putfield 263) 3 55 := ⟨by decide +kernel, rfl⟩
theorem D_Mo_push_55 : xd m_Mo_push 55 (.aload_n 0) 1 56 := ⟨by decide +kernel, rfl⟩
theorem D_Mo_push_56 : xd m_Mo_push 56 (.aload_n 0) 1 57 := ⟨by decide +kernel, rfl⟩
theorem D_Mo_push_57 : xd m_Mo_push 57 (.getfield 263) 3 60 := ⟨by decide +kernel, rfl⟩
theorem D_Mo_push_60 : xd m_Mo_push 60 (.aload_n 0) 1 61 := ⟨by decide +kernel, rfl⟩
theorem D_Mo_push_61 : xd m_Mo_push 61 (.getfield 292) 3 64 := ⟨by decide +kernel, rfl⟩
theorem D_Mo_push_64 : xd m_Mo_push 64 (.if_icmp .le 10) 3 67 := ⟨by decide +kernel, rfl⟩
theorem D_Mo_push_67 : xd m_Mo_push 67 (.aload_n 0) 1 68 := ⟨by decide +kernel, rfl⟩
theorem D_Mo_push_68 : xd m_Mo_push 68 (.getfield 263) 3 71 := ⟨by decide +kernel, rfl⟩
theorem D_Mo_push_71 : xd m_Mo_push 71 (.goto 7) 3 74 := ⟨by decide +kernel, rfl⟩
theorem D_Mo_push_74 : xd m_Mo_push 74 (.aload_n 0) 1 75 := ⟨by decide +kernel, rfl⟩
theorem D_Mo_push_75 : xd m_Mo_push 75 (.getfield 292) 3 78 := ⟨by decide +kernel, rfl⟩
theorem D_Mo_push_78 : xd m_Mo_push 78 (.putfield 292) 3 81 := ⟨by decide +kernel, rfl⟩
theorem D_Mo_push_81 : xd m_Mo_push 81 (.iconst 0) 1 82 := ⟨by decide +kernel, rfl⟩
theorem D_Mo_push_82 : xd m_Mo_push 82 (.ireturn) 1 83 := ⟨by decide +kernel, rfl⟩
theorem D_Mo_pop_0 : xd m_Mo_pop 0 (.aload_n 0) 1 1 := ⟨by decide +kernel, rfl⟩
theorem D_Mo_pop_1 : xd m_Mo_pop 1 (.getfield 263) 3 4 := ⟨by decide +kernel, rfl⟩
theorem D_Mo_pop_4 : xd m_Mo_pop 4 (.ifCond .ne 5) 3 7 := ⟨by decide +kernel, rfl⟩
theorem D_Mo_pop_7 : xd m_Mo_pop 7 (.iconst 4) 1 8 := ⟨by decide +kernel, rfl⟩
theorem D_Mo_pop_8 : xd m_Mo_pop 8 (.ireturn) 1 9 := ⟨by decide +kernel, rfl⟩
theorem D_Mo_pop_9 : xd m_Mo_pop 9 (.aload_n 0) 1 10 := ⟨by decide +kernel, rfl⟩
theorem D_Mo_pop_10 : xd m_Mo_pop 10 (.dup) 1 11 := ⟨by decide +kernel, rfl⟩
theorem D_Mo_pop_11 : xd m_Mo_pop 11 (.getfield 263) 3 14 := ⟨by decide +kernel, rfl⟩
theorem D_Mo_pop_14 : xd m_Mo_pop 14 (.iconst 1) 1 15 := ⟨by decide +kernel, rfl⟩
theorem D_Mo_pop_15 : xd m_Mo_pop 15 (.isub) 1 16 := ⟨by decide +kernel, rfl⟩
theorem D_Mo_pop_16 : xd m_Mo_pop 16 (.putfield 263) 3 19 := ⟨by decide +kernel, rfl⟩
theorem D_Mo_pop_19 : xd m_Mo_pop 19 (.iconst 0) 1 20 := ⟨by decide +kernel, rfl⟩
theorem D_Mo_pop_20 : xd m_Mo_pop 20 (.istore_n 1) 1 21 := ⟨by decide +kernel, rfl⟩
theorem D_Mo_pop_21 : xd m_Mo_pop 21 (.iload_n 1) 1 22 := ⟨by decide +kernel, rfl⟩
theorem D_Mo_pop_22 : xd m_Mo_pop 22 (.bipush 6) 2 24 := ⟨by decide +kernel, rfl⟩
theorem D_Mo_pop_24 : xd m_Mo_pop 24 (.if_icmp .ge 29) 3 27 := ⟨by decide +kernel, rfl⟩
theorem D_Mo_pop_27 : xd m_Mo_pop 27 (.aload_n 0) 1 28 := ⟨by decide +kernel, rfl⟩
theorem D_Mo_pop_28 : xd m_Mo_pop 28 (.getfield 94) 3 31 := ⟨by decide +kernel, rfl⟩
theorem D_Mo_pop_31 : xd m_Mo_pop 31 (.iload_n 1) 1 32 := ⟨by decide +kernel, rfl⟩
theorem D_Mo_pop_32 : xd m_Mo_pop 32 (.aload_n 0) 1 33 := ⟨by decide +kernel, rfl⟩
theorem D_Mo_pop_33 : xd m_Mo_pop 33 (.getfield 91) 3 36 := ⟨by decide +kernel, rfl⟩
theorem D_Mo_pop_36 : xd m_Mo_pop 36 (.bipush 6) 2 38 := ⟨by decide +kernel, rfl⟩
theorem D_Mo_pop_38 : xd m_Mo_pop 38 (.aload_n 0) 1 39 := ⟨by decide +kernel, rfl⟩
theorem D_Mo_pop_39 : xd m_Mo_pop 39 (.getfield 263) 3 42 := ⟨by decide +kernel, rfl⟩
theorem D_Mo_pop_42 : xd m_Mo_pop 42 (.imul) 1 43 := ⟨by decide +kernel, rfl⟩
theorem D_Mo_pop_43 : xd m_Mo_pop 43 (.iload_n 1) 1 44 := ⟨by decide +kernel, rfl⟩
theorem D_Mo_pop_44 : xd m_Mo_pop 44 (.iadd) 1 45 := ⟨by decide +kernel, rfl⟩
theorem D_Mo_pop_45 : xd m_Mo_pop 45 (.iaload) 1 46 := ⟨by decide +kernel, rfl⟩
theorem D_Mo_pop_46 : xd m_Mo_pop 46 (.iastore) 1 47 := ⟨by decide +kernel, rfl⟩
theorem D_Mo_pop_47 : xd m_Mo_pop 47 (.iinc 1 1) 3 50 := ⟨by decide +kernel, rfl⟩
theorem D_Mo_pop_50 : xd m_Mo_pop 50 (.goto (-29)) 3 53 := ⟨by decide +kernel, rfl⟩
theorem D_Mo_pop_53 : xd m_Mo_pop 53 (.iconst 0) 1 54 := ⟨by decide +kernel, rfl⟩
theorem D_Mo_pop_54 : xd m_Mo_pop 54 (.ireturn) 1 55 := ⟨by decide +kernel, rfl⟩
theorem D_Mo_take_0 : xd m_Mo_take 0 (.aload_n 0) 1 1 := ⟨by decide +kernel, rfl⟩
theorem D_Mo_take_1 : xd m_Mo_take 1 (.iload_n 1) 1 2 := ⟨by decide +kernel, rfl⟩
theorem D_Mo_take_2 : xd m_Mo_take 2 (.invokevirtual 247) 3 5 := ⟨by decide +kernel, rfl⟩
theorem D_Mo_take_5 : xd m_Mo_take 5 (.ifCond .ge 5) 3 8 := ⟨by decide +kernel, rfl⟩
theorem D_Mo_take_8 : xd m_Mo_take 8 (.iconst 3) 1 9 := ⟨by decide +kernel, rfl⟩
theorem D_Mo_take_9 : xd m_Mo_take 9 (.ireturn) 1 10 := ⟨by decide +kernel, rfl⟩
theorem D_Mo_take_10 : xd m_Mo_take 10 (.aload_n 0) 1 11 := ⟨by decide +kernel, rfl⟩
theorem D_Mo_take_11 : xd m_Mo_take 11 (.iload_n 1) 1 12 := ⟨by decide +kernel, rfl⟩
theorem D_Mo_take_12 : xd m_Mo_take 12 (.putfield 282) 3 15 := ⟨by decide +kernel, rfl⟩
theorem D_Mo_take_15 : xd m_Mo_take 15 (.aload_n 0) 1 16 := ⟨by decide +kernel, rfl⟩
theorem D_Mo_take_16 : xd m_Mo_take 16 (.iconst 1) 1 17 := ⟨by decide +kernel, rfl⟩
theorem D_Mo_take_17 : xd m_Mo_take 17 (.putfield 260) 3 20 := ⟨by decide +kernel, rfl⟩
theorem D_Mo_take_20 : xd m_Mo_take 20 (.iconst 0) 1 21 := ⟨by decide +kernel, rfl⟩
theorem D_Mo_take_21 : xd m_Mo_take 21 (.ireturn) 1 22 := ⟨by decide +kernel, rfl⟩
theorem D_Mo_within_0 : xd m_Mo_within 0 (.iload_n 1) 1 1 := ⟨by decide +kernel, rfl⟩
theorem D_Mo_within_1 : xd m_Mo_within 1 (.sipush 128) 3 4 := ⟨by decide +kernel, rfl⟩
theorem D_Mo_within_4 : xd m_Mo_within 4 (.if_icmp .ge 10) 3 7 := ⟨by decide +kernel, rfl⟩
theorem D_Mo_within_7 : xd m_Mo_within 7 (.aload_n 0) 1 8 := ⟨by decide +kernel, rfl⟩
theorem D_Mo_within_8 : xd m_Mo_within 8 (.iload_n 1) 1 9 := ⟨by decide +kernel, rfl⟩
theorem D_Mo_within_9 : xd m_Mo_within 9 (.iconst 1) 1 10 := ⟨by decide +kernel, rfl⟩
theorem D_Mo_within_10 : xd m_Mo_within 10 (.invokevirtual 295) 3 13 := ⟨by decide +kernel, rfl⟩
theorem D_Mo_within_13 : xd m_Mo_within 13 (.ireturn) 1 14 := ⟨by decide +kernel, rfl⟩
theorem D_Mo_within_14 : xd m_Mo_within 14 (.iload_n 1) 1 15 := ⟨by decide +kernel, rfl⟩
theorem D_Mo_within_15 : xd m_Mo_within 15 (.sipush 132) 3 18 := ⟨by decide +kernel, rfl⟩
theorem D_Mo_within_18 : xd m_Mo_within 18 (.if_icmp .ge 27) 3 21 := ⟨by decide +kernel, rfl⟩
theorem D_Mo_within_21 : xd m_Mo_within 21 (.aload_n 0) 1 22 := ⟨by decide +kernel, rfl⟩
theorem D_Mo_within_22 : xd m_Mo_within 22 (.aload_n 0) 1 23 := ⟨by decide +kernel, rfl⟩
theorem D_Mo_within_23 : xd m_Mo_within 23 (.aload_n 0) 1 24 := ⟨by decide +kernel, rfl⟩
theorem D_Mo_within_24 : xd m_Mo_within 24 (.getfield 203) 3 27 := ⟨by decide +kernel, rfl⟩
theorem D_Mo_within_27 : xd m_Mo_within 27 (.iconst 1) 1 28 := ⟨by decide +kernel, rfl⟩
theorem D_Mo_within_28 : xd m_Mo_within 28 (.iadd) 1 29 := ⟨by decide +kernel, rfl⟩
theorem D_Mo_within_29 : xd m_Mo_within 29 (.iload_n 1) 1 30 := ⟨by decide +kernel, rfl⟩
theorem D_Mo_within_30 : xd m_Mo_within 30 (.sipush 128) 3 33 := ⟨by decide +kernel, rfl⟩
theorem D_Mo_within_33 : xd m_Mo_within 33 (.invokestatic 209) 3 36 := ⟨by decide +kernel, rfl⟩
theorem D_Mo_within_36 : xd m_Mo_within 36 (.iconst 0) 1 37 := ⟨by decide +kernel, rfl⟩
theorem D_Mo_within_37 : xd m_Mo_within 37 (.invokevirtual 220) 3 40 := ⟨by decide +kernel, rfl⟩
theorem D_Mo_within_40 : xd m_Mo_within 40 (.iconst 1) 1 41 := ⟨by decide +kernel, rfl⟩
theorem D_Mo_within_41 : xd m_Mo_within 41 (.invokevirtual 295) 3 44 := ⟨by decide +kernel, rfl⟩
theorem D_Mo_within_44 : xd m_Mo_within 44 (.ireturn) 1 45 := ⟨by decide +kernel, rfl⟩
theorem D_Mo_within_45 : xd m_Mo_within 45 (.iload_n 1) 1 46 := ⟨by decide +kernel, rfl⟩
theorem D_Mo_within_46 : xd m_Mo_within 46 (.sipush 132) 3 49 := ⟨by decide +kernel, rfl⟩
theorem D_Mo_within_49 : xd m_Mo_within 49 (.if_icmp .ne 9) 3 52 := ⟨by decide +kernel, rfl⟩
theorem D_Mo_within_52 : xd m_Mo_within 52 (.aload_n 0) 1 53 := ⟨by decide +kernel, rfl⟩
theorem D_Mo_within_53 : xd m_Mo_within 53 (.iconst 1) 1 54 := ⟨by decide +kernel, rfl⟩
theorem D_Mo_within_54 : xd m_Mo_within 54 (.invokevirtual 299) 3 57 := ⟨by decide +kernel, rfl⟩
theorem D_Mo_within_57 : xd m_Mo_within 57 (.ireturn) 1 58 := ⟨by decide +kernel, rfl⟩
theorem D_Mo_within_58 : xd m_Mo_within 58 (.iload_n 1) 1 59 := ⟨by decide +kernel, rfl⟩
theorem D_Mo_within_59 : xd m_Mo_within 59 (.sipush 137) 3 62 := ⟨by decide +kernel, rfl⟩
theorem D_Mo_within_62 : xd m_Mo_within 62 (.if_icmp .ge 27) 3 65 := ⟨by decide +kernel, rfl⟩
theorem D_Mo_within_65 : xd m_Mo_within 65 (.aload_n 0) 1 66 := ⟨by decide +kernel, rfl⟩
theorem D_Mo_within_66 : xd m_Mo_within 66 (.aload_n 0) 1 67 := ⟨by decide +kernel, rfl⟩
theorem D_Mo_within_67 : xd m_Mo_within 67 (.aload_n 0) 1 68 := ⟨by decide +kernel, rfl⟩
theorem D_Mo_within_68 : xd m_Mo_within 68 (.getfield 203) 3 71 := ⟨by decide +kernel, rfl⟩
theorem D_Mo_within_71 : xd m_Mo_within 71 (.iconst 1) 1 72 := ⟨by decide +kernel, rfl⟩
theorem D_Mo_within_72 : xd m_Mo_within 72 (.iadd) 1 73 := ⟨by decide +kernel, rfl⟩
theorem D_Mo_within_73 : xd m_Mo_within 73 (.iload_n 1) 1 74 := ⟨by decide +kernel, rfl⟩
theorem D_Mo_within_74 : xd m_Mo_within 74 (.sipush 133) 3 77 := ⟨by decide +kernel, rfl⟩
theorem D_Mo_within_77 : xd m_Mo_within 77 (.invokestatic 209) 3 80 := ⟨by decide +kernel, rfl⟩
theorem D_Mo_within_80 : xd m_Mo_within 80 (.iconst 0) 1 81 := ⟨by decide +kernel, rfl⟩
theorem D_Mo_within_81 : xd m_Mo_within 81 (.invokevirtual 220) 3 84 := ⟨by decide +kernel, rfl⟩
theorem D_Mo_within_84 : xd m_Mo_within 84 (.iconst 0) 1 85 := ⟨by decide +kernel, rfl⟩
theorem D_Mo_within_85 : xd m_Mo_within 85 (.invokevirtual 295) 3 88 := ⟨by decide +kernel, rfl⟩
theorem D_Mo_within_88 : xd m_Mo_within 88 (.ireturn) 1 89 := ⟨by decide +kernel, rfl⟩
theorem D_Mo_within_89 : xd m_Mo_within 89 (.iload_n 1) 1 90 := ⟨by decide +kernel, rfl⟩
theorem D_Mo_within_90 : xd m_Mo_within 90 (.sipush 137) 3 93 := ⟨by decide +kernel, rfl⟩
theorem D_Mo_within_93 : xd m_Mo_within 93 (.if_icmp .ne 9) 3 96 := ⟨by decide +kernel, rfl⟩
theorem D_Mo_within_96 : xd m_Mo_within 96 (.aload_n 0) 1 97 := ⟨by decide +kernel, rfl⟩
theorem D_Mo_within_97 : xd m_Mo_within 97 (.iconst 0) 1 98 := ⟨by decide +kernel, rfl⟩
theorem D_Mo_within_98 : xd m_Mo_within 98 (.invokevirtual 299) 3 101 := ⟨by decide +kernel, rfl⟩
theorem D_Mo_within_101 : xd m_Mo_within 101 (.ireturn) 1 102 := ⟨by decide +kernel, rfl⟩
theorem D_Mo_within_102 : xd m_Mo_within 102 (.iload_n 1) 1 103 := ⟨by decide +kernel, rfl⟩
theorem D_Mo_within_103 : xd m_Mo_within 103 (.sipush 140) 3 106 := ⟨by decide +kernel, rfl⟩
theorem D_Mo_within_106 : xd m_Mo_within 106 (.if_icmp .ne 35) 3 109 := ⟨by decide +kernel, rfl⟩
theorem D_Mo_within_109 : xd m_Mo_within 109 (.aload_n 0) 1 110 := ⟨by decide +kernel, rfl⟩
theorem D_Mo_within_110 : xd m_Mo_within 110 (.aload_n 0) 1 111 := ⟨by decide +kernel, rfl⟩
theorem D_Mo_within_111 : xd m_Mo_within 111 (.getfield 263) 3 114 := ⟨by decide +kernel, rfl⟩
theorem D_Mo_within_114 : xd m_Mo_within 114 (.ifCond .le 10) 3 117 := ⟨by decide +kernel, rfl⟩
theorem D_Mo_within_117 : xd m_Mo_within 117 (.aload_n 0) 1 118 := ⟨by decide +kernel, rfl⟩
theorem D_Mo_within_118 : xd m_Mo_within 118 (.getfield 232) 3 121 := ⟨by decide +kernel, rfl⟩
theorem D_Mo_within_121 : xd m_Mo_within 121 (.goto 4) 3 124 := ⟨by decide +kernel, rfl⟩
theorem D_Mo_within_124 : xd m_Mo_within 124 (.iconst 1) 1 125 := ⟨by decide +kernel, rfl⟩
theorem D_Mo_within_125 : xd m_Mo_within 125 (.putfield 232) 3 128 := ⟨by decide +kernel, rfl⟩
theorem D_Mo_within_128 : xd m_Mo_within 128 (.aload_n 0) 1 129 := ⟨by decide +kernel, rfl⟩
theorem D_Mo_within_129 : xd m_Mo_within 129 (.getfield 263) 3 132 := ⟨by decide +kernel, rfl⟩
theorem D_Mo_within_132 : xd m_Mo_within 132 (.ifCond .le 7) 3 135 := ⟨by decide +kernel, rfl⟩
theorem D_Mo_within_135 : xd m_Mo_within 135 (.iconst 4) 1 136 := ⟨by decide +kernel, rfl⟩
theorem D_Mo_within_136 : xd m_Mo_within 136 (.goto 4) 3 139 := ⟨by decide +kernel, rfl⟩
theorem D_Mo_within_139 : xd m_Mo_within 139 (.iconst 0) 1 140 := ⟨by decide +kernel, rfl⟩
theorem D_Mo_within_140 : xd m_Mo_within 140 (.ireturn) 1 141 := ⟨by decide +kernel, rfl⟩
theorem D_Mo_within_141 : xd m_Mo_within 141 (.iload_n 1) 1 142 := ⟨by decide +kernel, rfl⟩
theorem D_Mo_within_142 : xd m_Mo_within 142 (.sipush 141) 3 145 := ⟨by decide +kernel, rfl⟩
theorem D_Mo_within_145 : xd m_Mo_within 145 (.if_icmp .ne 8) 3 148 := ⟨by decide +kernel, rfl⟩
theorem D_Mo_within_148 : xd m_Mo_within 148 (.aload_n 0) 1 149 := ⟨by decide +kernel, rfl⟩
theorem D_Mo_within_149 : xd m_Mo_within 149 (.invokevirtual 303) 3 152 := ⟨by decide +kernel, rfl⟩
theorem D_Mo_within_152 : xd m_Mo_within 152 (.ireturn) 1 153 := ⟨by decide +kernel, rfl⟩
theorem D_Mo_within_153 : xd m_Mo_within 153 (.iload_n 1) 1 154 := ⟨by decide +kernel, rfl⟩
theorem D_Mo_within_154 : xd m_Mo_within 154 (.sipush 142) 3 157 := ⟨by decide +kernel, rfl⟩
theorem D_Mo_within_157 : xd m_Mo_within 157 (.if_icmp .ne 8) 3 160 := ⟨by decide +kernel, rfl⟩
theorem D_Mo_within_160 : xd m_Mo_within 160 (.aload_n 0) 1 161 := ⟨by decide +kernel, rfl⟩
theorem D_Mo_within_161 : xd m_Mo_within 161 (.invokevirtual 307) 3 164 := ⟨by decide +kernel, rfl⟩
theorem D_Mo_within_164 : xd m_Mo_within 164 (.ireturn) 1 165 := ⟨by decide +kernel, rfl⟩
theorem D_Mo_within_165 : xd m_Mo_within 165 (.iload_n 1) 1 166 := ⟨by decide +kernel, rfl⟩
theorem D_Mo_within_166 : xd m_Mo_within 166 (.sipush 142) 3 169 := ⟨by decide +kernel, rfl⟩
theorem D_Mo_within_169 : xd m_Mo_within 169 (.if_icmp .le 16) 3 172 := ⟨by decide +kernel, rfl⟩
theorem D_Mo_within_172 : xd m_Mo_within 172 (.iload_n 1) 1 173 := ⟨by decide +kernel, rfl⟩
theorem D_Mo_within_173 : xd m_Mo_within 173 (.sipush 171) 3 176 := ⟨by decide +kernel, rfl⟩
theorem D_Mo_within_176 : xd m_Mo_within 176 (.if_icmp .ge 9) 3 179 := ⟨by decide +kernel, rfl⟩
theorem D_Mo_within_179 : xd m_Mo_within 179 (.aload_n 0) 1 180 := ⟨by decide +kernel, rfl⟩
theorem D_Mo_within_180 : xd m_Mo_within 180 (.iload_n 1) 1 181 := ⟨by decide +kernel, rfl⟩
theorem D_Mo_within_181 : xd m_Mo_within 181 (.invokevirtual 310) 3 184 := ⟨by decide +kernel, rfl⟩
theorem D_Mo_within_184 : xd m_Mo_within 184 (.ireturn) 1 185 := ⟨by decide +kernel, rfl⟩
theorem D_Mo_within_185 : xd m_Mo_within 185 (.iload_n 1) 1 186 := ⟨by decide +kernel, rfl⟩
theorem D_Mo_within_186 : xd m_Mo_within 186 (.sipush 170) 3 189 := ⟨by decide +kernel, rfl⟩
theorem D_Mo_within_189 : xd m_Mo_within 189 (.if_icmp .le 20) 3 192 := ⟨by decide +kernel, rfl⟩
theorem D_Mo_within_192 : xd m_Mo_within 192 (.iload_n 1) 1 193 := ⟨by decide +kernel, rfl⟩
theorem D_Mo_within_193 : xd m_Mo_within 193 (.sipush 235) 3 196 := ⟨by decide +kernel, rfl⟩
theorem D_Mo_within_196 : xd m_Mo_within 196 (.if_icmp .ge 13) 3 199 := ⟨by decide +kernel, rfl⟩
theorem D_Mo_within_199 : xd m_Mo_within 199 (.aload_n 0) 1 200 := ⟨by decide +kernel, rfl⟩
theorem D_Mo_within_200 : xd m_Mo_within 200 (.iload_n 1) 1 201 := ⟨by decide +kernel, rfl⟩
theorem D_Mo_within_201 : xd m_Mo_within 201 (.sipush 171) 3 204 := ⟨by decide +kernel, rfl⟩
theorem D_Mo_within_204 : xd m_Mo_within 204 (.isub) 1 205 := ⟨by decide +kernel, rfl⟩
theorem D_Mo_within_205 : xd m_Mo_within 205 (.invokevirtual 313) 3 208 := ⟨by decide +kernel, rfl⟩
theorem D_Mo_within_208 : xd m_Mo_within 208 (.ireturn) 1 209 := ⟨by decide +kernel, rfl⟩
theorem D_Mo_within_209 : xd m_Mo_within 209 (.iload_n 1) 1 210 := ⟨by decide +kernel, rfl⟩
theorem D_Mo_within_210 : xd m_Mo_within 210 (.sipush 234) 3 213 := ⟨by decide +kernel, rfl⟩
theorem D_Mo_within_213 : xd m_Mo_within 213 (.if_icmp .le 33) 3 216 := ⟨by decide +kernel, rfl⟩
theorem D_Mo_within_216 : xd m_Mo_within 216 (.iload_n 1) 1 217 := ⟨by decide +kernel, rfl⟩
theorem D_Mo_within_217 : xd m_Mo_within 217 (.sipush 239) 3 220 := ⟨by decide +kernel, rfl⟩
theorem D_Mo_within_220 : xd m_Mo_within 220 (.if_icmp .ge 26) 3 223 := ⟨by decide +kernel, rfl⟩
theorem D_Mo_within_223 : xd m_Mo_within 223 (.aload_n 0) 1 224 := ⟨by decide +kernel, rfl⟩
theorem D_Mo_within_224 : xd m_Mo_within 224 (.aload_n 0) 1 225 := ⟨by decide +kernel, rfl⟩
theorem D_Mo_within_225 : xd m_Mo_within 225 (.aload_n 0) 1 226 := ⟨by decide +kernel, rfl⟩
theorem D_Mo_within_226 : xd m_Mo_within 226 (.getfield 203) 3 229 := ⟨by decide +kernel, rfl⟩
theorem D_Mo_within_229 : xd m_Mo_within 229 (.iconst 1) 1 230 := ⟨by decide +kernel, rfl⟩
theorem D_Mo_within_230 : xd m_Mo_within 230 (.iadd) 1 231 := ⟨by decide +kernel, rfl⟩
theorem D_Mo_within_231 : xd m_Mo_within 231 (.iload_n 1) 1 232 := ⟨by decide +kernel, rfl⟩
theorem D_Mo_within_232 : xd m_Mo_within 232 (.sipush 235) 3 235 := ⟨by decide +kernel, rfl⟩
theorem D_Mo_within_235 : xd m_Mo_within 235 (.invokestatic 209) 3 238 := ⟨by decide +kernel, rfl⟩
theorem D_Mo_within_238 : xd m_Mo_within 238 (.iconst 0) 1 239 := ⟨by decide +kernel, rfl⟩
theorem D_Mo_within_239 : xd m_Mo_within 239 (.invokevirtual 220) 3 242 := ⟨by decide +kernel, rfl⟩
theorem D_Mo_within_242 : xd m_Mo_within 242 (.invokevirtual 313) 3 245 := ⟨by decide +kernel, rfl⟩
theorem D_Mo_within_245 : xd m_Mo_within 245 (.ireturn) 1 246 := ⟨by decide +kernel, rfl⟩
theorem D_Mo_within_246 : xd m_Mo_within 246 (.aload_n 0) 1 247 := ⟨by decide +kernel, rfl⟩
theorem D_Mo_within_247 : xd m_Mo_within 247 (.iload_n 1) 1 248 := ⟨by decide +kernel, rfl⟩
theorem D_Mo_within_248 : xd m_Mo_within 248 (.invokevirtual 235) 3 251 := ⟨by decide +kernel, rfl⟩
theorem D_Mo_within_251 : xd m_Mo_within 251 (.ifCond .eq 10) 3 254 := ⟨by decide +kernel, rfl⟩
theorem D_Mo_within_254 : xd m_Mo_within 254 (.aload_n 0) 1 255 := ⟨by decide +kernel, rfl⟩
theorem D_Mo_within_255 : xd m_Mo_within 255 (.invokevirtual 316) 3 258 := ⟨by decide +kernel, rfl⟩
theorem D_Mo_within_258 : xd m_Mo_within 258 (.goto 4) 3 261 := ⟨by decide +kernel, rfl⟩
theorem D_Mo_within_261 : xd m_Mo_within 261 (.iconst 0) 1 262 := ⟨by decide +kernel, rfl⟩
theorem D_Mo_within_262 : xd m_Mo_within 262 (.ireturn) 1 263 := ⟨by decide +kernel, rfl⟩
theorem D_Mo_outside_0 : xd m_Mo_outside 0 (.iload_n 1) 1 1 := ⟨by decide +kernel, rfl⟩
theorem D_Mo_outside_1 : xd m_Mo_outside 1 (.sipush 247) 3 4 := ⟨by decide +kernel, rfl⟩
theorem D_Mo_outside_4 : xd m_Mo_outside 4 (.if_icmp .ne 11) 3 7 := ⟨by decide +kernel, rfl⟩
theorem D_Mo_outside_7 : xd m_Mo_outside 7 (.aload_n 0) 1 8 := ⟨by decide +kernel, rfl⟩
theorem D_Mo_outside_8 : xd m_Mo_outside 8 (.iconst 1) 1 9 := ⟨by decide +kernel, rfl⟩
theorem D_Mo_outside_9 : xd m_Mo_outside 9 (.putfield 232) 3 12 := ⟨by decide +kernel, rfl⟩
theorem D_Mo_outside_12 : xd m_Mo_outside 12 (.goto 77) 3 15 := ⟨by decide +kernel, rfl⟩
theorem D_Mo_outside_15 : xd m_Mo_outside 15 (.iload_n 1) 1 16 := ⟨by decide +kernel, rfl⟩
theorem D_Mo_outside_16 : xd m_Mo_outside 16 (.sipush 139) 3 19 := ⟨by decide +kernel, rfl⟩
theorem D_Mo_outside_19 : xd m_Mo_outside 19 (.if_icmp .ne 8) 3 22 := ⟨by decide +kernel, rfl⟩
theorem D_Mo_outside_22 : xd m_Mo_outside 22 (.aload_n 0) 1 23 := ⟨by decide +kernel, rfl⟩
theorem D_Mo_outside_23 : xd m_Mo_outside 23 (.invokevirtual 319) 3 26 := ⟨by decide +kernel, rfl⟩
theorem D_Mo_outside_26 : xd m_Mo_outside 26 (.ireturn) 1 27 := ⟨by decide +kernel, rfl⟩
theorem D_Mo_outside_27 : xd m_Mo_outside 27 (.iload_n 1) 1 28 := ⟨by decide +kernel, rfl⟩
theorem D_Mo_outside_28 : xd m_Mo_outside 28 (.sipush 248) 3 31 := ⟨by decide +kernel, rfl⟩
theorem D_Mo_outside_31 : xd m_Mo_outside 31 (.if_icmp .ne 8) 3 34 := ⟨by decide +kernel, rfl⟩
theorem D_Mo_outside_34 : xd m_Mo_outside 34 (.aload_n 0) 1 35 := ⟨by decide +kernel, rfl⟩
theorem D_Mo_outside_35 : xd m_Mo_outside 35 (.invokevirtual 322) 3 38 := ⟨by decide +kernel, rfl⟩
theorem D_Mo_outside_38 : xd m_Mo_outside 38 (.ireturn) 1 39 := ⟨by decide +kernel, rfl⟩
theorem D_Mo_outside_39 : xd m_Mo_outside 39 (.iload_n 1) 1 40 := ⟨by decide +kernel, rfl⟩
theorem D_Mo_outside_40 : xd m_Mo_outside 40 (.sipush 249) 3 43 := ⟨by decide +kernel, rfl⟩
theorem D_Mo_outside_43 : xd m_Mo_outside 43 (.if_icmp .ne 33) 3 46 := ⟨by decide +kernel, rfl⟩
theorem D_Mo_outside_46 : xd m_Mo_outside 46 (.aload_n 0) 1 47 := ⟨by decide +kernel, rfl⟩
theorem D_Mo_outside_47 : xd m_Mo_outside 47 (.iconst 4) 1 48 := ⟨by decide +kernel, rfl⟩
theorem D_Mo_outside_48 : xd m_Mo_outside 48 (.putfield 232) 3 51 := ⟨by decide +kernel, rfl⟩
theorem D_Mo_outside_51 : xd m_Mo_outside 51 (.aload_n 0) 1 52 := ⟨by decide +kernel, rfl⟩
theorem D_Mo_outside_52 : xd m_Mo_outside 52 (.aload_n 0) 1 53 := ⟨by decide +kernel, rfl⟩
theorem D_Mo_outside_53 : xd m_Mo_outside 53 (.getfield 203) 3 56 := ⟨by decide +kernel, rfl⟩
theorem D_Mo_outside_56 : xd m_Mo_outside 56 (.iconst 1) 1 57 := ⟨by decide +kernel, rfl⟩
theorem D_Mo_outside_57 : xd m_Mo_outside 57 (.iadd) 1 58 := ⟨by decide +kernel, rfl⟩
theorem D_Mo_outside_58 : xd m_Mo_outside 58 (.iconst 4) 1 59 := ⟨by decide +kernel, rfl⟩
theorem D_Mo_outside_59 : xd m_Mo_outside 59 (.iconst 1) 1 60 := ⟨by decide +kernel, rfl⟩
theorem D_Mo_outside_60 : xd m_Mo_outside 60 (.invokevirtual 220) 3 63 := ⟨by decide +kernel, rfl⟩
theorem D_Mo_outside_63 : xd m_Mo_outside 63 (.aload_n 0) 1 64 := ⟨by decide +kernel, rfl⟩
theorem D_Mo_outside_64 : xd m_Mo_outside 64 (.getfield 276) 3 67 := ⟨by decide +kernel, rfl⟩
theorem D_Mo_outside_67 : xd m_Mo_outside 67 (.if_icmp .eq 7) 3 70 := ⟨by decide +kernel, rfl⟩
theorem D_Mo_outside_70 : xd m_Mo_outside 70 (.iconst 5) 1 71 := ⟨by decide +kernel, rfl⟩
theorem D_Mo_outside_71 : xd m_Mo_outside 71 (.goto 4) 3 74 := ⟨by decide +kernel, rfl⟩
theorem D_Mo_outside_74 : xd m_Mo_outside 74 (.iconst 0) 1 75 := ⟨by decide +kernel, rfl⟩
theorem D_Mo_outside_75 : xd m_Mo_outside 75 (.ireturn) 1 76 := ⟨by decide +kernel, rfl⟩
theorem D_Mo_outside_76 : xd m_Mo_outside 76 (.aload_n 0) 1 77 := ⟨by decide +kernel, rfl⟩
theorem D_Mo_outside_77 : xd m_Mo_outside 77 (.iload_n 1) 1 78 := ⟨by decide +kernel, rfl⟩
theorem D_Mo_outside_78 : xd m_Mo_outside 78 (.invokevirtual 235) 3 81 := ⟨by decide +kernel, rfl⟩
theorem D_Mo_outside_81 : xd m_Mo_outside 81 (.ifCond .eq 8) 3 84 := ⟨by decide +kernel, rfl⟩
theorem D_Mo_outside_84 : xd m_Mo_outside 84 (.aload_n 0) 1 85 := ⟨by decide +kernel, rfl⟩
theorem D_Mo_outside_85 : xd m_Mo_outside 85 (.invokevirtual 316) 3 88 := ⟨by decide +kernel, rfl⟩
theorem D_Mo_outside_88 : xd m_Mo_outside 88 (.ireturn) 1 89 := ⟨by decide +kernel, rfl⟩
theorem D_Mo_outside_89 : xd m_Mo_outside 89 (.iconst 0) 1 90 := ⟨by decide +kernel, rfl⟩
theorem D_Mo_outside_90 : xd m_Mo_outside 90 (.ireturn) 1 91 := ⟨by decide +kernel, rfl⟩
theorem D_Mo_fault_0 : xd m_Mo_fault 0 (.ldc_w 325) 3 3 := ⟨by decide +kernel, rfl⟩
theorem D_Mo_fault_3 : xd m_Mo_fault 3 (.iload_n 0) 1 4 := ⟨by decide +kernel, rfl⟩
theorem D_Mo_fault_4 : xd m_Mo_fault 4 (.imul) 1 5 := ⟨by decide +kernel, rfl⟩
theorem D_Mo_fault_5 : xd m_Mo_fault 5 (.iload_n 1) 1 6 := ⟨by decide +kernel, rfl⟩
theorem D_Mo_fault_6 : xd m_Mo_fault 6 (.iadd) 1 7 := ⟨by decide +kernel, rfl⟩
theorem D_Mo_fault_7 : xd m_Mo_fault 7 (.ireturn) 1 8 := ⟨by decide +kernel, rfl⟩
theorem D_Mo_goThrough_0 : xd m_Mo_goThrough 0 (.aload_n 0) 1 1 := ⟨by decide +kernel, rfl⟩
theorem D_Mo_goThrough_1 : xd m_Mo_goThrough 1 (.iconst 0) 1 2 := ⟨by decide +kernel, rfl⟩
theorem D_Mo_goThrough_2 : xd m_Mo_goThrough 2 (.putfield 203) 3 5 := ⟨by decide +kernel, rfl⟩
theorem D_Mo_goThrough_5 : xd m_Mo_goThrough 5 (.aload_n 0) 1 6 := ⟨by decide +kernel, rfl⟩
theorem D_Mo_goThrough_6 : xd m_Mo_goThrough 6 (.iconst 0) 1 7 := ⟨by decide +kernel, rfl⟩
theorem D_Mo_goThrough_7 : xd m_Mo_goThrough 7 (.putfield 232) 3 10 := ⟨by decide +kernel, rfl⟩
theorem D_Mo_goThrough_10 : xd m_Mo_goThrough 10 (.aload_n 0) 1 11 := ⟨by decide +kernel, rfl⟩
theorem D_Mo_goThrough_11 : xd m_Mo_goThrough 11 (.iconst (-1)) 1 12 := ⟨by decide +kernel, rfl⟩
theorem D_Mo_goThrough_12 : xd m_Mo_goThrough 12 (.putfield 254) 3 15 := ⟨by decide +kernel, rfl⟩
theorem D_Mo_goThrough_15 : xd m_Mo_goThrough 15 (.aload_n 0) 1 16 := ⟨by decide +kernel, rfl⟩
theorem D_Mo_goThrough_16 : xd m_Mo_goThrough 16 (.getfield 232) 3 19 := ⟨by decide +kernel, rfl⟩
theorem D_Mo_goThrough_19 : xd m_Mo_goThrough 19 (.iconst 4) 1 20 := ⟨by decide +kernel, rfl⟩
theorem D_Mo_goThrough_20 : xd m_Mo_goThrough 20 (.if_icmp .ge 117) 3 23 := ⟨by decide +kernel, rfl⟩
theorem D_Mo_goThrough_23 : xd m_Mo_goThrough 23 (.aload_n 0) 1 24 := ⟨by decide +kernel, rfl⟩
theorem D_Mo_goThrough_24 : xd m_Mo_goThrough 24 (.getfield 203) 3 27 := ⟨by decide +kernel, rfl⟩
theorem D_Mo_goThrough_27 : xd m_Mo_goThrough 27 (.aload_n 0) 1 28 := ⟨by decide +kernel, rfl⟩
theorem D_Mo_goThrough_28 : xd m_Mo_goThrough 28 (.getfield 206) 3 31 := ⟨by decide +kernel, rfl⟩
theorem D_Mo_goThrough_31 : xd m_Mo_goThrough 31 (.if_icmp .lt 12) 3 34 := ⟨by decide +kernel, rfl⟩
theorem D_Mo_goThrough_34 : xd m_Mo_goThrough 34 (.iconst 2) 1 35 := ⟨by decide +kernel, rfl⟩
theorem D_Mo_goThrough_35 : xd m_Mo_goThrough 35 (.aload_n 0) 1 36 := ⟨by decide +kernel, rfl⟩
theorem D_Mo_goThrough_36 : xd m_Mo_goThrough 36 (.getfield 206) 3 39 := ⟨by decide +kernel, rfl⟩
theorem D_Mo_goThrough_39 : xd m_Mo_goThrough 39 (.invokestatic 326) 3 42 := ⟨by decide +kernel, rfl⟩
theorem D_Mo_goThrough_42 : xd m_Mo_goThrough 42 (.ireturn) 1 43 := ⟨by decide +kernel, rfl⟩
theorem D_Mo_goThrough_43 : xd m_Mo_goThrough 43 (.aload_n 0) 1 44 := ⟨by decide +kernel, rfl⟩
theorem D_Mo_goThrough_44 : xd m_Mo_goThrough 44 (.aload_n 0) 1 45 := ⟨by decide +kernel, rfl⟩
theorem D_Mo_goThrough_45 : xd m_Mo_goThrough 45 (.getfield 203) 3 48 := ⟨by decide +kernel, rfl⟩
theorem D_Mo_goThrough_48 : xd m_Mo_goThrough 48 (.invokevirtual 200) 3 51 := ⟨by decide +kernel, rfl⟩
theorem D_Mo_goThrough_51 : xd m_Mo_goThrough 51 (.istore_n 1) 1 52 := ⟨by decide +kernel, rfl⟩
theorem D_Mo_goThrough_52 : xd m_Mo_goThrough 52 (.aload_n 0) 1 53 := ⟨by decide +kernel, rfl⟩
theorem D_Mo_goThrough_53 : xd m_Mo_goThrough 53 (.invokevirtual 329) 3 56 := ⟨by decide +kernel, rfl⟩
theorem D_Mo_goThrough_56 : xd m_Mo_goThrough 56 (.istore_n 2) 1 57 := ⟨by decide +kernel, rfl⟩
theorem D_Mo_goThrough_57 : xd m_Mo_goThrough 57 (.iload_n 2) 1 58 := ⟨by decide +kernel, rfl⟩
theorem D_Mo_goThrough_58 : xd m_Mo_goThrough 58 (.ifCond .ge 12) 3 61 := ⟨by decide +kernel, rfl⟩
theorem D_Mo_goThrough_61 : xd m_Mo_goThrough 61 (.iconst 1) 1 62 := ⟨by decide +kernel, rfl⟩
theorem D_Mo_goThrough_62 : xd m_Mo_goThrough 62 (.aload_n 0) 1 63 := ⟨by decide +kernel, rfl⟩
theorem D_Mo_goThrough_63 : xd m_Mo_goThrough 63 (.getfield 203) 3 66 := ⟨by decide +kernel, rfl⟩
theorem D_Mo_goThrough_66 : xd m_Mo_goThrough 66 (.invokestatic 326) 3 69 := ⟨by decide +kernel, rfl⟩
theorem D_Mo_goThrough_69 : xd m_Mo_goThrough 69 (.ireturn) 1 70 := ⟨by decide +kernel, rfl⟩
theorem D_Mo_goThrough_70 : xd m_Mo_goThrough 70 (.aload_n 0) 1 71 := ⟨by decide +kernel, rfl⟩
theorem D_Mo_goThrough_71 : xd m_Mo_goThrough 71 (.iload_n 1) 1 72 := ⟨by decide +kernel, rfl⟩
theorem D_Mo_goThrough_72 : xd m_Mo_goThrough 72 (.invokevirtual 332) 3 75 := ⟨by decide +kernel, rfl⟩
theorem D_Mo_goThrough_75 : xd m_Mo_goThrough 75 (.ifCond .ne 12) 3 78 := ⟨by decide +kernel, rfl⟩
theorem D_Mo_goThrough_78 : xd m_Mo_goThrough 78 (.iconst 2) 1 79 := ⟨by decide +kernel, rfl⟩
theorem D_Mo_goThrough_79 : xd m_Mo_goThrough 79 (.aload_n 0) 1 80 := ⟨by decide +kernel, rfl⟩
theorem D_Mo_goThrough_80 : xd m_Mo_goThrough 80 (.getfield 203) 3 83 := ⟨by decide +kernel, rfl⟩
theorem D_Mo_goThrough_83 : xd m_Mo_goThrough 83 (.invokestatic 326) 3 86 := ⟨by decide +kernel, rfl⟩
theorem D_Mo_goThrough_86 : xd m_Mo_goThrough 86 (.ireturn) 1 87 := ⟨by decide +kernel, rfl⟩
theorem D_Mo_goThrough_87 : xd m_Mo_goThrough 87 (.aload_n 0) 1 88 := ⟨by decide +kernel, rfl⟩
theorem D_Mo_goThrough_88 : xd m_Mo_goThrough 88 (.getfield 232) 3 91 := ⟨by decide +kernel, rfl⟩
theorem D_Mo_goThrough_91 : xd m_Mo_goThrough 91 (.iconst 2) 1 92 := ⟨by decide +kernel, rfl⟩
theorem D_Mo_goThrough_92 : xd m_Mo_goThrough 92 (.if_icmp .ne 11) 3 95 := ⟨by decide +kernel, rfl⟩
theorem D_Mo_goThrough_95 : xd m_Mo_goThrough 95 (.aload_n 0) 1 96 := ⟨by decide +kernel, rfl⟩
theorem D_Mo_goThrough_96 : xd m_Mo_goThrough 96 (.iload_n 1) 1 97 := ⟨by decide +kernel, rfl⟩
theorem D_Mo_goThrough_97 : xd m_Mo_goThrough 97 (.invokevirtual 335) 3 100 := ⟨by decide +kernel, rfl⟩
theorem D_Mo_goThrough_100 : xd m_Mo_goThrough 100 (.goto 8) 3 103 := ⟨by decide +kernel, rfl⟩
theorem D_Mo_goThrough_103 : xd m_Mo_goThrough 103 (.aload_n 0) 1 104 := ⟨by decide +kernel, rfl⟩
theorem D_Mo_goThrough_104 : xd m_Mo_goThrough 104 (.iload_n 1) 1 105 := ⟨by decide +kernel, rfl⟩
theorem D_Mo_goThrough_105 : xd m_Mo_goThrough 105 (.invokevirtual 338) 3 108 := ⟨by decide +kernel, rfl⟩
theorem D_Mo_goThrough_108 : xd m_Mo_goThrough 108 (.istore_n 3) 1 109 := ⟨by decide +kernel, rfl⟩
theorem D_Mo_goThrough_109 : xd m_Mo_goThrough 109 (.iload_n 3) 1 110 := ⟨by decide +kernel, rfl⟩
theorem D_Mo_goThrough_110 : xd m_Mo_goThrough 110 (.ifCond .le 12) 3 113 := ⟨by decide +kernel, rfl⟩
theorem D_Mo_goThrough_113 : xd m_Mo_goThrough 113 (.iload_n 3) 1 114 := ⟨by decide +kernel, rfl⟩
theorem D_Mo_goThrough_114 : xd m_Mo_goThrough 114 (.aload_n 0) 1 115 := ⟨by decide +kernel, rfl⟩
theorem D_Mo_goThrough_115 : xd m_Mo_goThrough 115 (.getfield 203) 3 118 := ⟨by decide +kernel, rfl⟩
theorem D_Mo_goThrough_118 : xd m_Mo_goThrough 118 (.invokestatic 326) 3 121 := ⟨by decide +kernel, rfl⟩
theorem D_Mo_goThrough_121 : xd m_Mo_goThrough 121 (.ireturn) 1 122 := ⟨by decide +kernel, rfl⟩
theorem D_Mo_goThrough_122 : xd m_Mo_goThrough 122 (.aload_n 0) 1 123 := ⟨by decide +kernel, rfl⟩
theorem D_Mo_goThrough_123 : xd m_Mo_goThrough 123 (.aload_n 0) 1 124 := ⟨by decide +kernel, rfl⟩
theorem D_Mo_goThrough_124 : xd m_Mo_goThrough 124 (.getfield 203) 3 127 := ⟨by decide +kernel, rfl⟩
theorem D_Mo_goThrough_127 : xd m_Mo_goThrough 127 (.iconst 1) 1 128 := ⟨by decide +kernel, rfl⟩
theorem D_Mo_goThrough_128 : xd m_Mo_goThrough 128 (.iadd) 1 129 := ⟨by decide +kernel, rfl⟩
theorem D_Mo_goThrough_129 : xd m_Mo_goThrough 129 (.iload_n 2) 1 130 := ⟨by decide +kernel, rfl⟩
theorem D_Mo_goThrough_130 : xd m_Mo_goThrough 130 (.iadd) 1 131 := ⟨by decide +kernel, rfl⟩
theorem D_Mo_goThrough_131 : xd m_Mo_goThrough 131 (.putfield 203) 3 134 := ⟨by decide +kernel, rfl⟩
theorem D_Mo_goThrough_134 : xd m_Mo_goThrough 134 (.goto (-119)) 3 137 := ⟨by decide +kernel, rfl⟩
theorem D_Mo_goThrough_137 : xd m_Mo_goThrough 137 (.iconst 0) 1 138 := ⟨by decide +kernel, rfl⟩
theorem D_Mo_goThrough_138 : xd m_Mo_goThrough 138 (.istore_n 1) 1 139 := ⟨by decide +kernel, rfl⟩
theorem D_Mo_goThrough_139 : xd m_Mo_goThrough 139 (.aload_n 0) 1 140 := ⟨by decide +kernel, rfl⟩
theorem D_Mo_goThrough_140 : xd m_Mo_goThrough 140 (.getfield 203) 3 143 := ⟨by decide +kernel, rfl⟩
theorem D_Mo_goThrough_143 : xd m_Mo_goThrough 143 (.aload_n 0) 1 144 := ⟨by decide +kernel, rfl⟩
theorem D_Mo_goThrough_144 : xd m_Mo_goThrough 144 (.getfield 206) 3 147 := ⟨by decide +kernel, rfl⟩
theorem D_Mo_goThrough_147 : xd m_Mo_goThrough 147 (.if_icmp .ge 58) 3 150 := ⟨by decide +kernel, rfl⟩
theorem D_Mo_goThrough_150 : xd m_Mo_goThrough 150 (.aload_n 0) 1 151 := ⟨by decide +kernel, rfl⟩
theorem D_Mo_goThrough_151 : xd m_Mo_goThrough 151 (.invokevirtual 329) 3 154 := ⟨by decide +kernel, rfl⟩
theorem D_Mo_goThrough_154 : xd m_Mo_goThrough 154 (.ifCond .ge 12) 3 157 := ⟨by decide +kernel, rfl⟩
theorem D_Mo_goThrough_157 : xd m_Mo_goThrough 157 (.iconst 1) 1 158 := ⟨by decide +kernel, rfl⟩
theorem D_Mo_goThrough_158 : xd m_Mo_goThrough 158 (.aload_n 0) 1 159 := ⟨by decide +kernel, rfl⟩
theorem D_Mo_goThrough_159 : xd m_Mo_goThrough 159 (.getfield 203) 3 162 := ⟨by decide +kernel, rfl⟩
theorem D_Mo_goThrough_162 : xd m_Mo_goThrough 162 (.invokestatic 326) 3 165 := ⟨by decide +kernel, rfl⟩
theorem D_Mo_goThrough_165 : xd m_Mo_goThrough 165 (.ireturn) 1 166 := ⟨by decide +kernel, rfl⟩
theorem D_Mo_goThrough_166 : xd m_Mo_goThrough 166 (.aload_n 0) 1 167 := ⟨by decide +kernel, rfl⟩
theorem D_Mo_goThrough_167 : xd m_Mo_goThrough 167 (.aload_n 0) 1 168 := ⟨by decide +kernel, rfl⟩
theorem D_Mo_goThrough_168 : xd m_Mo_goThrough 168 (.getfield 203) 3 171 := ⟨by decide +kernel, rfl⟩
theorem D_Mo_goThrough_171 : xd m_Mo_goThrough 171 (.invokevirtual 200) 3 174 := ⟨by decide +kernel, rfl⟩
theorem D_Mo_goThrough_174 : xd m_Mo_goThrough 174 (.sipush 223) 3 177 := ⟨by decide +kernel, rfl⟩
theorem D_Mo_goThrough_177 : xd m_Mo_goThrough 177 (.if_icmp .eq 12) 3 180 := ⟨by decide +kernel, rfl⟩
theorem D_Mo_goThrough_180 : xd m_Mo_goThrough 180 (.iconst 2) 1 181 := ⟨by decide +kernel, rfl⟩
theorem D_Mo_goThrough_181 : xd m_Mo_goThrough 181 (.aload_n 0) 1 182 := ⟨by decide +kernel, rfl⟩
theorem D_Mo_goThrough_182 : xd m_Mo_goThrough 182 (.getfield 203) 3 185 := ⟨by decide +kernel, rfl⟩
theorem D_Mo_goThrough_185 : xd m_Mo_goThrough 185 (.invokestatic 326) 3 188 := ⟨by decide +kernel, rfl⟩
theorem D_Mo_goThrough_188 : xd m_Mo_goThrough 188 (.ireturn) 1 189 := ⟨by decide +kernel, rfl⟩
theorem D_Mo_goThrough_189 : xd m_Mo_goThrough 189 (.aload_n 0) 1 190 := ⟨by decide +kernel, rfl⟩
theorem D_Mo_goThrough_190 : xd m_Mo_goThrough 190 (.dup) 1 191 := ⟨by decide +kernel, rfl⟩
theorem D_Mo_goThrough_191 : xd m_Mo_goThrough 191 (.getfield 203) 3 194 := ⟨by decide +kernel, rfl⟩
theorem D_Mo_goThrough_194 : xd m_Mo_goThrough 194 (.iconst 1) 1 195 := ⟨by decide +kernel, rfl⟩
theorem D_Mo_goThrough_195 : xd m_Mo_goThrough 195 (.iadd) 1 196 := ⟨by decide +kernel, rfl⟩
theorem D_Mo_goThrough_196 : xd m_Mo_goThrough 196 (.putfield 203) 3 199 := ⟨by decide +kernel, rfl⟩
theorem D_Mo_goThrough_199 : xd m_Mo_goThrough 199 (.iinc 1 1) 3 202 := ⟨by decide +kernel, rfl⟩
theorem D_Mo_goThrough_202 : xd m_Mo_goThrough 202 (.goto (-63)) 3 205 := ⟨by decide +kernel, rfl⟩
theorem D_Mo_goThrough_205 : xd m_Mo_goThrough 205 (.iload_n 1) 1 206 := ⟨by decide +kernel, rfl⟩
theorem D_Mo_goThrough_206 : xd m_Mo_goThrough 206 (.iconst 4) 1 207 := ⟨by decide +kernel, rfl⟩
theorem D_Mo_goThrough_207 : xd m_Mo_goThrough 207 (.if_icmp .ge 14) 3 210 := ⟨by decide +kernel, rfl⟩
theorem D_Mo_goThrough_210 : xd m_Mo_goThrough 210 (.iconst 2) 1 211 := ⟨by decide +kernel, rfl⟩
theorem D_Mo_goThrough_211 : xd m_Mo_goThrough 211 (.aload_n 0) 1 212 := ⟨by decide +kernel, rfl⟩
theorem D_Mo_goThrough_212 : xd m_Mo_goThrough 212 (.getfield 206) 3 215 := ⟨by decide +kernel, rfl⟩
theorem D_Mo_goThrough_215 : xd m_Mo_goThrough 215 (.invokestatic 326) 3 218 := ⟨by decide +kernel, rfl⟩
theorem D_Mo_goThrough_218 : xd m_Mo_goThrough 218 (.goto 4) 3 221 := ⟨by decide +kernel, rfl⟩
theorem D_Mo_goThrough_221 : xd m_Mo_goThrough 221 (.iconst 0) 1 222 := ⟨by decide +kernel, rfl⟩
theorem D_Mo_goThrough_222 : xd m_Mo_goThrough 222 (.ireturn) 1 223 := ⟨by decide +kernel, rfl⟩
theorem D_Mo_forget_0 : xd m_Mo_forget 0 (.aload_n 0) 1 1 := ⟨by decide +kernel, rfl⟩
theorem D_Mo_forget_1 : xd m_Mo_forget 1 (.iconst 0) 1 2 := ⟨by decide +kernel, rfl⟩
theorem D_Mo_forget_2 : xd m_Mo_forget 2 (.putfield 279) 3 5 := ⟨by decide +kernel, rfl⟩
theorem D_Mo_forget_5 : xd m_Mo_forget 5 (.aload_n 0) 1 6 := ⟨by decide +kernel, rfl⟩
theorem D_Mo_forget_6 : xd m_Mo_forget 6 (.iconst 0) 1 7 := ⟨by decide +kernel, rfl⟩
theorem D_Mo_forget_7 : xd m_Mo_forget 7 (.putfield 257) 3 10 := ⟨by decide +kernel, rfl⟩
theorem D_Mo_forget_10 : xd m_Mo_forget 10 (.aload_n 0) 1 11 := ⟨by decide +kernel, rfl⟩
theorem D_Mo_forget_11 : xd m_Mo_forget 11 (.iconst 0) 1 12 := ⟨by decide +kernel, rfl⟩
theorem D_Mo_forget_12 : xd m_Mo_forget 12 (.putfield 238) 3 15 := ⟨by decide +kernel, rfl⟩
theorem D_Mo_forget_15 : xd m_Mo_forget 15 (.aload_n 0) 1 16 := ⟨by decide +kernel, rfl⟩
theorem D_Mo_forget_16 : xd m_Mo_forget 16 (.iconst 0) 1 17 := ⟨by decide +kernel, rfl⟩
theorem D_Mo_forget_17 : xd m_Mo_forget 17 (.putfield 267) 3 20 := ⟨by decide +kernel, rfl⟩
theorem D_Mo_forget_20 : xd m_Mo_forget 20 (.aload_n 0) 1 21 := ⟨by decide +kernel, rfl⟩
theorem D_Mo_forget_21 : xd m_Mo_forget 21 (.iconst 0) 1 22 := ⟨by decide +kernel, rfl⟩
theorem D_Mo_forget_22 : xd m_Mo_forget 22 (.putfield 270) 3 25 := ⟨by decide +kernel, rfl⟩
theorem D_Mo_forget_25 : xd m_Mo_forget 25 (.aload_n 0) 1 26 := ⟨by decide +kernel, rfl⟩
theorem D_Mo_forget_26 : xd m_Mo_forget 26 (.iconst 0) 1 27 := ⟨by decide +kernel, rfl⟩
theorem D_Mo_forget_27 : xd m_Mo_forget 27 (.putfield 273) 3 30 := ⟨by decide +kernel, rfl⟩
theorem D_Mo_forget_30 : xd m_Mo_forget 30 (.aload_n 0) 1 31 := ⟨by decide +kernel, rfl⟩
theorem D_Mo_forget_31 : xd m_Mo_forget 31 (.iconst 0) 1 32 := ⟨by decide +kernel, rfl⟩
theorem D_Mo_forget_32 : xd m_Mo_forget 32 (.putfield 292) 3 35 := ⟨by decide +kernel, rfl⟩
theorem D_Mo_forget_35 : xd m_Mo_forget 35 (.return_) 1 36 := ⟨by decide +kernel, rfl⟩
theorem D_Mo_read_0 : xd m_Mo_read 0 (.aload_n 0) 1 1 := ⟨by decide +kernel, rfl⟩
theorem D_Mo_read_1 : xd m_Mo_read 1 (.iconst 0) 1 2 := ⟨by decide +kernel, rfl⟩
theorem D_Mo_read_2 : xd m_Mo_read 2 (.putfield 97) 3 5 := ⟨by decide +kernel, rfl⟩
theorem D_Mo_read_5 : xd m_Mo_read 5 (.aload_n 0) 1 6 := ⟨by decide +kernel, rfl⟩
theorem D_Mo_read_6 : xd m_Mo_read 6 (.invokevirtual 341) 3 9 := ⟨by decide +kernel, rfl⟩
theorem D_Mo_read_9 : xd m_Mo_read 9 (.aload_n 0) 1 10 := ⟨by decide +kernel, rfl⟩
theorem D_Mo_read_10 : xd m_Mo_read 10 (.aload_n 0) 1 11 := ⟨by decide +kernel, rfl⟩
theorem D_Mo_read_11 : xd m_Mo_read 11 (.getfield 197) 3 14 := ⟨by decide +kernel, rfl⟩
theorem D_Mo_read_14 : xd m_Mo_read 14 (.putfield 206) 3 17 := ⟨by decide +kernel, rfl⟩
theorem D_Mo_read_17 : xd m_Mo_read 17 (.iconst 0) 1 18 := ⟨by decide +kernel, rfl⟩
theorem D_Mo_read_18 : xd m_Mo_read 18 (.istore_n 1) 1 19 := ⟨by decide +kernel, rfl⟩
theorem D_Mo_read_19 : xd m_Mo_read 19 (.iload_n 1) 1 20 := ⟨by decide +kernel, rfl⟩
theorem D_Mo_read_20 : xd m_Mo_read 20 (.aload_n 0) 1 21 := ⟨by decide +kernel, rfl⟩
theorem D_Mo_read_21 : xd m_Mo_read 21 (.getfield 197) 3 24 := ⟨by decide +kernel, rfl⟩
theorem D_Mo_read_24 : xd m_Mo_read 24 (.if_icmp .ge 21) 3 27 := ⟨by decide +kernel, rfl⟩
theorem D_Mo_read_27 : xd m_Mo_read 27 (.aload_n 0) 1 28 := ⟨by decide +kernel, rfl⟩
theorem D_Mo_read_28 : xd m_Mo_read 28 (.getfield 76) 3 31 := ⟨by decide +kernel, rfl⟩
theorem D_Mo_read_31 : xd m_Mo_read 31 (.iload_n 1) 1 32 := ⟨by decide +kernel, rfl⟩
theorem D_Mo_read_32 : xd m_Mo_read 32 (.aload_n 0) 1 33 := ⟨by decide +kernel, rfl⟩
theorem D_Mo_read_33 : xd m_Mo_read 33 (.getfield 73) 3 36 := ⟨by decide +kernel, rfl⟩
theorem D_Mo_read_36 : xd m_Mo_read 36 (.iload_n 1) 1 37 := ⟨by decide +kernel, rfl⟩
theorem D_Mo_read_37 : xd m_Mo_read 37 (.baload) 1 38 := ⟨by decide +kernel, rfl⟩
theorem D_Mo_read_38 : xd m_Mo_read 38 (.bastore) 1 39 := ⟨by decide +kernel, rfl⟩
theorem D_Mo_read_39 : xd m_Mo_read 39 (.iinc 1 1) 3 42 := ⟨by decide +kernel, rfl⟩
theorem D_Mo_read_42 : xd m_Mo_read 42 (.goto (-23)) 3 45 := ⟨by decide +kernel, rfl⟩
theorem D_Mo_read_45 : xd m_Mo_read 45 (.aload_n 0) 1 46 := ⟨by decide +kernel, rfl⟩
theorem D_Mo_read_46 : xd m_Mo_read 46 (.invokevirtual 344) 3 49 := ⟨by decide +kernel, rfl⟩
theorem D_Mo_read_49 : xd m_Mo_read 49 (.istore_n 1) 1 50 := ⟨by decide +kernel, rfl⟩
theorem D_Mo_read_50 : xd m_Mo_read 50 (.iload_n 1) 1 51 := ⟨by decide +kernel, rfl⟩
theorem D_Mo_read_51 : xd m_Mo_read 51 (.ifCond .le 7) 3 54 := ⟨by decide +kernel, rfl⟩
theorem D_Mo_read_54 : xd m_Mo_read 54 (.aload_n 0) 1 55 := ⟨by decide +kernel, rfl⟩
theorem D_Mo_read_55 : xd m_Mo_read 55 (.invokevirtual 341) 3 58 := ⟨by decide +kernel, rfl⟩
theorem D_Mo_read_58 : xd m_Mo_read 58 (.iload_n 1) 1 59 := ⟨by decide +kernel, rfl⟩
theorem D_Mo_read_59 : xd m_Mo_read 59 (.ireturn) 1 60 := ⟨by decide +kernel, rfl⟩
theorem D_Mo_about_0 : xd m_Mo_about 0 (.aload_n 0) 1 1 := ⟨by decide +kernel, rfl⟩
theorem D_Mo_about_1 : xd m_Mo_about 1 (.iload_n 1) 1 2 := ⟨by decide +kernel, rfl⟩
theorem D_Mo_about_2 : xd m_Mo_about 2 (.ifCond .lt 9) 3 5 := ⟨by decide +kernel, rfl⟩
theorem D_Mo_about_5 : xd m_Mo_about 5 (.iload_n 1) 1 6 := ⟨by decide +kernel, rfl⟩
theorem D_Mo_about_6 : xd m_Mo_about 6 (.bipush 6) 2 8 := ⟨by decide +kernel, rfl⟩
theorem D_Mo_about_8 : xd m_Mo_about 8 (.if_icmp .le 7) 3 11 := ⟨by decide +kernel, rfl⟩
theorem D_Mo_about_11 : xd m_Mo_about 11 (.iconst 1) 1 12 := ⟨by decide +kernel, rfl⟩
theorem D_Mo_about_12 : xd m_Mo_about 12 (.goto 4) 3 15 := ⟨by decide +kernel, rfl⟩
theorem D_Mo_about_15 : xd m_Mo_about 15 (.iconst 0) 1 16 := ⟨by decide +kernel, rfl⟩
theorem D_Mo_about_16 : xd m_Mo_about 16 (.putfield 97) 3 19 := ⟨by decide +kernel, rfl⟩
theorem D_Mo_about_19 : xd m_Mo_about 19 (.aload_n 0) 1 20 := ⟨by decide +kernel, rfl⟩
theorem D_Mo_about_20 : xd m_Mo_about 20 (.getfield 97) 3 23 := ⟨by decide +kernel, rfl⟩
theorem D_Mo_about_23 : xd m_Mo_about 23 (.ifCond .le 5) 3 26 := ⟨by decide +kernel, rfl⟩
theorem D_Mo_about_26 : xd m_Mo_about 26 (.iconst 0) 1 27 := ⟨by decide +kernel, rfl⟩
theorem D_Mo_about_27 : xd m_Mo_about 27 (.ireturn) 1 28 := ⟨by decide +kernel, rfl⟩
theorem D_Mo_about_28 : xd m_Mo_about 28 (.iload_n 1) 1 29 := ⟨by decide +kernel, rfl⟩
theorem D_Mo_about_29 : xd m_Mo_about 29 (.tableswitch 69 0 5 #[39, 44, 49, 54, 59, 64]) 39 68 := ⟨by decide +kernel, rfl⟩
theorem D_Mo_about_68 : xd m_Mo_about 68 (.aload_n 0) 1 69 := ⟨by decide +kernel, rfl⟩
theorem D_Mo_about_69 : xd m_Mo_about 69 (.getfield 279) 3 72 := ⟨by decide +kernel, rfl⟩
theorem D_Mo_about_72 : xd m_Mo_about 72 (.ireturn) 1 73 := ⟨by decide +kernel, rfl⟩
theorem D_Mo_about_73 : xd m_Mo_about 73 (.aload_n 0) 1 74 := ⟨by decide +kernel, rfl⟩
theorem D_Mo_about_74 : xd m_Mo_about 74 (.getfield 257) 3 77 := ⟨by decide +kernel, rfl⟩
theorem D_Mo_about_77 : xd m_Mo_about 77 (.ireturn) 1 78 := ⟨by decide +kernel, rfl⟩
theorem D_Mo_about_78 : xd m_Mo_about 78 (.aload_n 0) 1 79 := ⟨by decide +kernel, rfl⟩
theorem D_Mo_about_79 : xd m_Mo_about 79 (.getfield 238) 3 82 := ⟨by decide +kernel, rfl⟩
theorem D_Mo_about_82 : xd m_Mo_about 82 (.ireturn) 1 83 := ⟨by decide +kernel, rfl⟩
theorem D_Mo_about_83 : xd m_Mo_about 83 (.aload_n 0) 1 84 := ⟨by decide +kernel, rfl⟩
theorem D_Mo_about_84 : xd m_Mo_about 84 (.getfield 267) 3 87 := ⟨by decide +kernel, rfl⟩
theorem D_Mo_about_87 : xd m_Mo_about 87 (.ireturn) 1 88 := ⟨by decide +kernel, rfl⟩
theorem D_Mo_about_88 : xd m_Mo_about 88 (.aload_n 0) 1 89 := ⟨by decide +kernel, rfl⟩
theorem D_Mo_about_89 : xd m_Mo_about 89 (.getfield 270) 3 92 := ⟨by decide +kernel, rfl⟩
theorem D_Mo_about_92 : xd m_Mo_about 92 (.ireturn) 1 93 := ⟨by decide +kernel, rfl⟩
theorem D_Mo_about_93 : xd m_Mo_about 93 (.aload_n 0) 1 94 := ⟨by decide +kernel, rfl⟩
theorem D_Mo_about_94 : xd m_Mo_about 94 (.getfield 273) 3 97 := ⟨by decide +kernel, rfl⟩
theorem D_Mo_about_97 : xd m_Mo_about 97 (.ireturn) 1 98 := ⟨by decide +kernel, rfl⟩
theorem D_Mo_about_98 : xd m_Mo_about 98 (.aload_n 0) 1 99 := ⟨by decide +kernel, rfl⟩
theorem D_Mo_about_99 : xd m_Mo_about 99 (.getfield 292) 3 102 := ⟨by decide +kernel, rfl⟩
theorem D_Mo_about_102 : xd m_Mo_about 102 (.ireturn) 1 103 := ⟨by decide +kernel, rfl⟩
theorem D_Mo_mark2_0 : xd m_Mo_mark2 0 (.aload_n 0) 1 1 := ⟨by decide +kernel, rfl⟩
theorem D_Mo_mark2_1 : xd m_Mo_mark2 1 (.iload_n 1) 1 2 := ⟨by decide +kernel, rfl⟩
theorem D_Mo_mark2_2 : xd m_Mo_mark2 2 (.ifCond .lt 20) 3 5 := ⟨by decide +kernel, rfl⟩
theorem D_Mo_mark2_5 : xd m_Mo_mark2 5 (.iload_n 1) 1 6 := ⟨by decide +kernel, rfl⟩
theorem D_Mo_mark2_6 : xd m_Mo_mark2 6 (.aload_n 0) 1 7 := ⟨by decide +kernel, rfl⟩
theorem D_Mo_mark2_7 : xd m_Mo_mark2 7 (.getfield 279) 3 10 := ⟨by decide +kernel, rfl⟩
theorem D_Mo_mark2_10 : xd m_Mo_mark2 10 (.if_icmp .ge 12) 3 13 := ⟨by decide +kernel, rfl⟩
theorem D_Mo_mark2_13 : xd m_Mo_mark2 13 (.iload_n 2) 1 14 := ⟨by decide +kernel, rfl⟩
theorem D_Mo_mark2_14 : xd m_Mo_mark2 14 (.ifCond .lt 8) 3 17 := ⟨by decide +kernel, rfl⟩
theorem D_Mo_mark2_17 : xd m_Mo_mark2 17 (.iload_n 2) 1 18 := ⟨by decide +kernel, rfl⟩
theorem D_Mo_mark2_18 : xd m_Mo_mark2 18 (.iconst 5) 1 19 := ⟨by decide +kernel, rfl⟩
theorem D_Mo_mark2_19 : xd m_Mo_mark2 19 (.if_icmp .le 7) 3 22 := ⟨by decide +kernel, rfl⟩
theorem D_Mo_mark2_22 : xd m_Mo_mark2 22 (.iconst 1) 1 23 := ⟨by decide +kernel, rfl⟩
theorem D_Mo_mark2_23 : xd m_Mo_mark2 23 (.goto 4) 3 26 := ⟨by decide +kernel, rfl⟩
theorem D_Mo_mark2_26 : xd m_Mo_mark2 26 (.iconst 0) 1 27 := ⟨by decide +kernel, rfl⟩
theorem D_Mo_mark2_27 : xd m_Mo_mark2 27 (.putfield 97) 3 30 := ⟨by decide +kernel, rfl⟩
theorem D_Mo_mark2_30 : xd m_Mo_mark2 30 (.aload_n 0) 1 31 := ⟨by decide +kernel, rfl⟩
theorem D_Mo_mark2_31 : xd m_Mo_mark2 31 (.getfield 97) 3 34 := ⟨by decide +kernel, rfl⟩
theorem D_Mo_mark2_34 : xd m_Mo_mark2 34 (.ifCond .le 7) 3 37 := ⟨by decide +kernel, rfl⟩
theorem D_Mo_mark2_37 : xd m_Mo_mark2 37 (.iconst 0) 1 38 := ⟨by decide +kernel, rfl⟩
theorem D_Mo_mark2_38 : xd m_Mo_mark2 38 (.goto 14) 3 41 := ⟨by decide +kernel, rfl⟩
theorem D_Mo_mark2_41 : xd m_Mo_mark2 41 (.aload_n 0) 1 42 := ⟨by decide +kernel, rfl⟩
theorem D_Mo_mark2_42 : xd m_Mo_mark2 42 (.getfield 79) 3 45 := ⟨by decide +kernel, rfl⟩
theorem D_Mo_mark2_45 : xd m_Mo_mark2 45 (.bipush 6) 2 47 := ⟨by decide +kernel, rfl⟩
theorem D_Mo_mark2_47 : xd m_Mo_mark2 47 (.iload_n 1) 1 48 := ⟨by decide +kernel, rfl⟩
theorem D_Mo_mark2_48 : xd m_Mo_mark2 48 (.imul) 1 49 := ⟨by decide +kernel, rfl⟩
theorem D_Mo_mark2_49 : xd m_Mo_mark2 49 (.iload_n 2) 1 50 := ⟨by decide +kernel, rfl⟩
theorem D_Mo_mark2_50 : xd m_Mo_mark2 50 (.iadd) 1 51 := ⟨by decide +kernel, rfl⟩
theorem D_Mo_mark2_51 : xd m_Mo_mark2 51 (.iaload) 1 52 := ⟨by decide +kernel, rfl⟩
theorem D_Mo_mark2_52 : xd m_Mo_mark2 52 (.ireturn) 1 53 := ⟨by decide +kernel, rfl⟩
theorem D_Mo_page_0 : xd m_Mo_page 0 (.aload_n 0) 1 1 := ⟨by decide +kernel, rfl⟩
theorem D_Mo_page_1 : xd m_Mo_page 1 (.iload_n 1) 1 2 := ⟨by decide +kernel, rfl⟩
theorem D_Mo_page_2 : xd m_Mo_page 2 (.ifCond .lt 21) 3 5 := ⟨by decide +kernel, rfl⟩
theorem D_Mo_page_5 : xd m_Mo_page 5 (.iload_n 1) 1 6 := ⟨by decide +kernel, rfl⟩
theorem D_Mo_page_6 : xd m_Mo_page 6 (.aload_n 0) 1 7 := ⟨by decide +kernel, rfl⟩
theorem D_Mo_page_7 : xd m_Mo_page 7 (.getfield 257) 3 10 := ⟨by decide +kernel, rfl⟩
theorem D_Mo_page_10 : xd m_Mo_page 10 (.if_icmp .ge 13) 3 13 := ⟨by decide +kernel, rfl⟩
theorem D_Mo_page_13 : xd m_Mo_page 13 (.iload_n 2) 1 14 := ⟨by decide +kernel, rfl⟩
theorem D_Mo_page_14 : xd m_Mo_page 14 (.ifCond .lt 9) 3 17 := ⟨by decide +kernel, rfl⟩
theorem D_Mo_page_17 : xd m_Mo_page 17 (.iload_n 2) 1 18 := ⟨by decide +kernel, rfl⟩
theorem D_Mo_page_18 : xd m_Mo_page 18 (.bipush 9) 2 20 := ⟨by decide +kernel, rfl⟩
theorem D_Mo_page_20 : xd m_Mo_page 20 (.if_icmp .le 7) 3 23 := ⟨by decide +kernel, rfl⟩
theorem D_Mo_page_23 : xd m_Mo_page 23 (.iconst 1) 1 24 := ⟨by decide +kernel, rfl⟩
theorem D_Mo_page_24 : xd m_Mo_page 24 (.goto 4) 3 27 := ⟨by decide +kernel, rfl⟩
theorem D_Mo_page_27 : xd m_Mo_page 27 (.iconst 0) 1 28 := ⟨by decide +kernel, rfl⟩
theorem D_Mo_page_28 : xd m_Mo_page 28 (.putfield 97) 3 31 := ⟨by decide +kernel, rfl⟩
theorem D_Mo_page_31 : xd m_Mo_page 31 (.aload_n 0) 1 32 := ⟨by decide +kernel, rfl⟩
theorem D_Mo_page_32 : xd m_Mo_page 32 (.getfield 97) 3 35 := ⟨by decide +kernel, rfl⟩
theorem D_Mo_page_35 : xd m_Mo_page 35 (.ifCond .le 7) 3 38 := ⟨by decide +kernel, rfl⟩
theorem D_Mo_page_38 : xd m_Mo_page 38 (.iconst 0) 1 39 := ⟨by decide +kernel, rfl⟩
theorem D_Mo_page_39 : xd m_Mo_page 39 (.goto 14) 3 42 := ⟨by decide +kernel, rfl⟩
theorem D_Mo_page_42 : xd m_Mo_page 42 (.aload_n 0) 1 43 := ⟨by decide +kernel, rfl⟩
theorem D_Mo_page_43 : xd m_Mo_page 43 (.getfield 82) 3 46 := ⟨by decide +kernel, rfl⟩
theorem D_Mo_page_46 : xd m_Mo_page 46 (.bipush 10) 2 48 := ⟨by decide +kernel, rfl⟩
theorem D_Mo_page_48 : xd m_Mo_page 48 (.iload_n 1) 1 49 := ⟨by decide +kernel, rfl⟩
theorem D_Mo_page_49 : xd m_Mo_page 49 (.imul) 1 50 := ⟨by decide +kernel, rfl⟩
theorem D_Mo_page_50 : xd m_Mo_page 50 (.iload_n 2) 1 51 := ⟨by decide +kernel, rfl⟩
theorem D_Mo_page_51 : xd m_Mo_page 51 (.iadd) 1 52 := ⟨by decide +kernel, rfl⟩
theorem D_Mo_page_52 : xd m_Mo_page 52 (.iaload) 1 53 := ⟨by decide +kernel, rfl⟩
theorem D_Mo_page_53 : xd m_Mo_page 53 (.ireturn) 1 54 := ⟨by decide +kernel, rfl⟩
theorem D_Mo_told_0 : xd m_Mo_told 0 (.aload_n 0) 1 1 := ⟨by decide +kernel, rfl⟩
theorem D_Mo_told_1 : xd m_Mo_told 1 (.iload_n 1) 1 2 := ⟨by decide +kernel, rfl⟩
theorem D_Mo_told_2 : xd m_Mo_told 2 (.ifCond .lt 15) 3 5 := ⟨by decide +kernel, rfl⟩
theorem D_Mo_told_5 : xd m_Mo_told 5 (.iload_n 1) 1 6 := ⟨by decide +kernel, rfl⟩
theorem D_Mo_told_6 : xd m_Mo_told 6 (.aload_n 0) 1 7 := ⟨by decide +kernel, rfl⟩
theorem D_Mo_told_7 : xd m_Mo_told 7 (.getfield 238) 3 10 := ⟨by decide +kernel, rfl⟩
theorem D_Mo_told_10 : xd m_Mo_told 10 (.if_icmp .ge 7) 3 13 := ⟨by decide +kernel, rfl⟩
theorem D_Mo_told_13 : xd m_Mo_told 13 (.iload_n 2) 1 14 := ⟨by decide +kernel, rfl⟩
theorem D_Mo_told_14 : xd m_Mo_told 14 (.ifCond .ge 7) 3 17 := ⟨by decide +kernel, rfl⟩
theorem D_Mo_told_17 : xd m_Mo_told 17 (.iconst 1) 1 18 := ⟨by decide +kernel, rfl⟩
theorem D_Mo_told_18 : xd m_Mo_told 18 (.goto 4) 3 21 := ⟨by decide +kernel, rfl⟩
theorem D_Mo_told_21 : xd m_Mo_told 21 (.iconst 0) 1 22 := ⟨by decide +kernel, rfl⟩
theorem D_Mo_told_22 : xd m_Mo_told 22 (.putfield 97) 3 25 := ⟨by decide +kernel, rfl⟩
theorem D_Mo_told_25 : xd m_Mo_told 25 (.aload_n 0) 1 26 := ⟨by decide +kernel, rfl⟩
theorem D_Mo_told_26 : xd m_Mo_told 26 (.getfield 97) 3 29 := ⟨by decide +kernel, rfl⟩
theorem D_Mo_told_29 : xd m_Mo_told 29 (.ifCond .le 5) 3 32 := ⟨by decide +kernel, rfl⟩
theorem D_Mo_told_32 : xd m_Mo_told 32 (.iconst 0) 1 33 := ⟨by decide +kernel, rfl⟩
theorem D_Mo_told_33 : xd m_Mo_told 33 (.ireturn) 1 34 := ⟨by decide +kernel, rfl⟩
theorem D_Mo_told_34 : xd m_Mo_told 34 (.aload_n 0) 1 35 := ⟨by decide +kernel, rfl⟩
theorem D_Mo_told_35 : xd m_Mo_told 35 (.aload_n 0) 1 36 := ⟨by decide +kernel, rfl⟩
theorem D_Mo_told_36 : xd m_Mo_told 36 (.getfield 88) 3 39 := ⟨by decide +kernel, rfl⟩
theorem D_Mo_told_39 : xd m_Mo_told 39 (.iload_n 1) 1 40 := ⟨by decide +kernel, rfl⟩
theorem D_Mo_told_40 : xd m_Mo_told 40 (.iaload) 1 41 := ⟨by decide +kernel, rfl⟩
theorem D_Mo_told_41 : xd m_Mo_told 41 (.invokevirtual 241) 3 44 := ⟨by decide +kernel, rfl⟩
theorem D_Mo_told_44 : xd m_Mo_told 44 (.istore_n 3) 1 45 := ⟨by decide +kernel, rfl⟩
theorem D_Mo_told_45 : xd m_Mo_told 45 (.aload_n 0) 1 46 := ⟨by decide +kernel, rfl⟩
theorem D_Mo_told_46 : xd m_Mo_told 46 (.aload_n 0) 1 47 := ⟨by decide +kernel, rfl⟩
theorem D_Mo_told_47 : xd m_Mo_told 47 (.getfield 88) 3 50 := ⟨by decide +kernel, rfl⟩
theorem D_Mo_told_50 : xd m_Mo_told 50 (.iload_n 1) 1 51 := ⟨by decide +kernel, rfl⟩
theorem D_Mo_told_51 : xd m_Mo_told 51 (.iaload) 1 52 := ⟨by decide +kernel, rfl⟩
theorem D_Mo_told_52 : xd m_Mo_told 52 (.invokevirtual 244) 3 55 := ⟨by decide +kernel, rfl⟩
theorem D_Mo_told_55 : xd m_Mo_told 55 (.istore 4) 2 57 := ⟨by decide +kernel, rfl⟩
theorem D_Mo_told_57 : xd m_Mo_told 57 (.iload_n 2) 1 58 := ⟨by decide +kernel, rfl⟩
theorem D_Mo_told_58 : xd m_Mo_told 58 (.tableswitch 73 0 4 #[34, 41, 49, 59, 70]) 34 92 := ⟨by decide +kernel, rfl⟩
theorem D_Mo_told_92 : xd m_Mo_told 92 (.aload_n 0) 1 93 := ⟨by decide +kernel, rfl⟩
theorem D_Mo_told_93 : xd m_Mo_told 93 (.getfield 85) 3 96 := ⟨by decide +kernel, rfl⟩
theorem D_Mo_told_96 : xd m_Mo_told 96 (.iload_n 1) 1 97 := ⟨by decide +kernel, rfl⟩
theorem D_Mo_told_97 : xd m_Mo_told 97 (.iaload) 1 98 := ⟨by decide +kernel, rfl⟩
theorem D_Mo_told_98 : xd m_Mo_told 98 (.ireturn) 1 99 := ⟨by decide +kernel, rfl⟩
theorem D_Mo_told_99 : xd m_Mo_told 99 (.aload_n 0) 1 100 := ⟨by decide +kernel, rfl⟩
theorem D_Mo_told_100 : xd m_Mo_told 100 (.iload_n 3) 1 101 := ⟨by decide +kernel, rfl⟩
theorem D_Mo_told_101 : xd m_Mo_told 101 (.iconst 4) 1 102 := ⟨by decide +kernel, rfl⟩
theorem D_Mo_told_102 : xd m_Mo_told 102 (.iconst 1) 1 103 := ⟨by decide +kernel, rfl⟩
theorem D_Mo_told_103 : xd m_Mo_told 103 (.invokevirtual 220) 3 106 := ⟨by decide +kernel, rfl⟩
theorem D_Mo_told_106 : xd m_Mo_told 106 (.ireturn) 1 107 := ⟨by decide +kernel, rfl⟩
theorem D_Mo_told_107 : xd m_Mo_told 107 (.aload_n 0) 1 108 := ⟨by decide +kernel, rfl⟩
theorem D_Mo_told_108 : xd m_Mo_told 108 (.iload_n 3) 1 109 := ⟨by decide +kernel, rfl⟩
theorem D_Mo_told_109 : xd m_Mo_told 109 (.iconst 4) 1 110 := ⟨by decide +kernel, rfl⟩
theorem D_Mo_told_110 : xd m_Mo_told 110 (.iadd) 1 111 := ⟨by decide +kernel, rfl⟩
theorem D_Mo_told_111 : xd m_Mo_told 111 (.iconst 4) 1 112 := ⟨by decide +kernel, rfl⟩
theorem D_Mo_told_112 : xd m_Mo_told 112 (.iconst 1) 1 113 := ⟨by decide +kernel, rfl⟩
theorem D_Mo_told_113 : xd m_Mo_told 113 (.invokevirtual 220) 3 116 := ⟨by decide +kernel, rfl⟩
theorem D_Mo_told_116 : xd m_Mo_told 116 (.ireturn) 1 117 := ⟨by decide +kernel, rfl⟩
theorem D_Mo_told_117 : xd m_Mo_told 117 (.aload_n 0) 1 118 := ⟨by decide +kernel, rfl⟩
theorem D_Mo_told_118 : xd m_Mo_told 118 (.iload_n 3) 1 119 := ⟨by decide +kernel, rfl⟩
theorem D_Mo_told_119 : xd m_Mo_told 119 (.bipush 8) 2 121 := ⟨by decide +kernel, rfl⟩
theorem D_Mo_told_121 : xd m_Mo_told 121 (.iadd) 1 122 := ⟨by decide +kernel, rfl⟩
theorem D_Mo_told_122 : xd m_Mo_told 122 (.iconst 4) 1 123 := ⟨by decide +kernel, rfl⟩
theorem D_Mo_told_123 : xd m_Mo_told 123 (.iconst 1) 1 124 := ⟨by decide +kernel, rfl⟩
theorem D_Mo_told_124 : xd m_Mo_told 124 (.invokevirtual 220) 3 127 := ⟨by decide +kernel, rfl⟩
theorem D_Mo_told_127 : xd m_Mo_told 127 (.ireturn) 1 128 := ⟨by decide +kernel, rfl⟩
theorem D_Mo_told_128 : xd m_Mo_told 128 (.iload 4) 2 130 := ⟨by decide +kernel, rfl⟩
theorem D_Mo_told_130 : xd m_Mo_told 130 (.ireturn) 1 131 := ⟨by decide +kernel, rfl⟩
theorem D_Mo_told_131 : xd m_Mo_told 131 (.iload_n 2) 1 132 := ⟨by decide +kernel, rfl⟩
theorem D_Mo_told_132 : xd m_Mo_told 132 (.iconst 5) 1 133 := ⟨by decide +kernel, rfl⟩
theorem D_Mo_told_133 : xd m_Mo_told 133 (.isub) 1 134 := ⟨by decide +kernel, rfl⟩
theorem D_Mo_told_134 : xd m_Mo_told 134 (.iload 4) 2 136 := ⟨by decide +kernel, rfl⟩
theorem D_Mo_told_136 : xd m_Mo_told 136 (.if_icmp .ge 18) 3 139 := ⟨by decide +kernel, rfl⟩
theorem D_Mo_told_139 : xd m_Mo_told 139 (.aload_n 0) 1 140 := ⟨by decide +kernel, rfl⟩
theorem D_Mo_told_140 : xd m_Mo_told 140 (.iload_n 3) 1 141 := ⟨by decide +kernel, rfl⟩
theorem D_Mo_told_141 : xd m_Mo_told 141 (.bipush 14) 2 143 := ⟨by decide +kernel, rfl⟩
theorem D_Mo_told_143 : xd m_Mo_told 143 (.iadd) 1 144 := ⟨by decide +kernel, rfl⟩
theorem D_Mo_told_144 : xd m_Mo_told 144 (.iload_n 2) 1 145 := ⟨by decide +kernel, rfl⟩
theorem D_Mo_told_145 : xd m_Mo_told 145 (.iadd) 1 146 := ⟨by decide +kernel, rfl⟩
theorem D_Mo_told_146 : xd m_Mo_told 146 (.iconst 5) 1 147 := ⟨by decide +kernel, rfl⟩
theorem D_Mo_told_147 : xd m_Mo_told 147 (.isub) 1 148 := ⟨by decide +kernel, rfl⟩
theorem D_Mo_told_148 : xd m_Mo_told 148 (.invokevirtual 200) 3 151 := ⟨by decide +kernel, rfl⟩
theorem D_Mo_told_151 : xd m_Mo_told 151 (.goto 4) 3 154 := ⟨by decide +kernel, rfl⟩
theorem D_Mo_told_154 : xd m_Mo_told 154 (.iconst 0) 1 155 := ⟨by decide +kernel, rfl⟩
theorem D_Mo_told_155 : xd m_Mo_told 155 (.ireturn) 1 156 := ⟨by decide +kernel, rfl⟩
theorem D_La_font_0 : xd m_La_font 0 (.aload_n 0) 1 1 := ⟨by decide +kernel, rfl⟩
theorem D_La_font_1 : xd m_La_font 1 (.iload_n 1) 1 2 := ⟨by decide +kernel, rfl⟩
theorem D_La_font_2 : xd m_La_font 2 (.iload_n 2) 1 3 := ⟨by decide +kernel, rfl⟩
theorem D_La_font_3 : xd m_La_font 3 (.iload_n 3) 1 4 := ⟨by decide +kernel, rfl⟩
theorem D_La_font_4 : xd m_La_font 4 (.iload 4) 2 6 := ⟨by decide +kernel, rfl⟩
theorem D_La_font_6 : xd m_La_font 6 (.lload 5) 2 8 := ⟨by decide +kernel, rfl⟩
theorem D_La_font_8 : xd m_La_font 8 (.lload 7) 2 10 := ⟨by decide +kernel, rfl⟩
theorem D_La_font_10 : xd m_La_font 10 (.iload 9) 2 12 := ⟨by decide +kernel, rfl⟩
theorem D_La_font_12 : xd m_La_font 12 (.invokevirtual 7) 3 15 := ⟨by decide +kernel, rfl⟩
theorem D_La_font_15 : xd m_La_font 15 (.goto 11) 3 18 := ⟨by decide +kernel, rfl⟩
theorem D_La_font_18 : xd m_La_font 18 (.astore 10) 2 20 := ⟨by decide +kernel, rfl⟩
theorem D_La_font_20 : xd m_La_font 20 (.iconst 1) 1 21 := ⟨by decide +kernel, rfl⟩
theorem D_La_font_21 : xd m_La_font 21 (.ireturn) 1 22 := ⟨by decide +kernel, rfl⟩
theorem D_La_font_22 : xd m_La_font 22 (.astore 10) 2 24 := ⟨by decide +kernel, rfl⟩
theorem D_La_font_24 : xd m_La_font 24 (.iconst 2) 1 25 := ⟨by decide +kernel, rfl⟩
theorem D_La_font_25 : xd m_La_font 25 (.ireturn) 1 26 := ⟨by decide +kernel, rfl⟩
theorem D_La_font_26 : xd m_La_font 26 (.iconst 0) 1 27 := ⟨by decide +kernel, rfl⟩
theorem D_La_font_27 : xd m_La_font 27 (.ireturn) 1 28 := ⟨by decide +kernel, rfl⟩
theorem D_La_width_0 : xd m_La_width 0 (.aload_n 0) 1 1 := ⟨by decide +kernel, rfl⟩
theorem D_La_width_1 : xd m_La_width 1 (.iload_n 1) 1 2 := ⟨by decide +kernel, rfl⟩
theorem D_La_width_2 : xd m_La_width 2 (.iload_n 2) 1 3 := ⟨by decide +kernel, rfl⟩
theorem D_La_width_3 : xd m_La_width 3 (.iload_n 3) 1 4 := ⟨by decide +kernel, rfl⟩
theorem D_La_width_4 : xd m_La_width 4 (.invokevirtual 17) 3 7 := ⟨by decide +kernel, rfl⟩
theorem D_La_width_7 : xd m_La_width 7 (.goto 7) 3 10 := ⟨by decide +kernel, rfl⟩
theorem D_La_width_10 : xd m_La_width 10 (.astore 4) 2 12 := ⟨by decide +kernel, rfl⟩
theorem D_La_width_12 : xd m_La_width 12 (.iconst 1) 1 13 := ⟨by decide +kernel, rfl⟩
theorem D_La_width_13 : xd m_La_width 13 (.ireturn) 1 14 := ⟨by decide +kernel, rfl⟩
theorem D_La_width_14 : xd m_La_width 14 (.iconst 0) 1 15 := ⟨by decide +kernel, rfl⟩
theorem D_La_width_15 : xd m_La_width 15 (.ireturn) 1 16 := ⟨by decide +kernel, rfl⟩
theorem D_La_count_0 : xd m_La_count 0 (.aload_n 0) 1 1 := ⟨by decide +kernel, rfl⟩
theorem D_La_count_1 : xd m_La_count 1 (.iload_n 1) 1 2 := ⟨by decide +kernel, rfl⟩
theorem D_La_count_2 : xd m_La_count 2 (.iload_n 2) 1 3 := ⟨by decide +kernel, rfl⟩
theorem D_La_count_3 : xd m_La_count 3 (.invokevirtual 21) 3 6 := ⟨by decide +kernel, rfl⟩
theorem D_La_count_6 : xd m_La_count 6 (.goto 6) 3 9 := ⟨by decide +kernel, rfl⟩
theorem D_La_count_9 : xd m_La_count 9 (.astore_n 3) 1 10 := ⟨by decide +kernel, rfl⟩
theorem D_La_count_10 : xd m_La_count 10 (.iconst 1) 1 11 := ⟨by decide +kernel, rfl⟩
theorem D_La_count_11 : xd m_La_count 11 (.ireturn) 1 12 := ⟨by decide +kernel, rfl⟩
theorem D_La_count_12 : xd m_La_count 12 (.iconst 0) 1 13 := ⟨by decide +kernel, rfl⟩
theorem D_La_count_13 : xd m_La_count 13 (.ireturn) 1 14 := ⟨by decide +kernel, rfl⟩
theorem D_La_begin_0 : xd m_La_begin 0 (.aload_n 0) 1 1 := ⟨by decide +kernel, rfl⟩
theorem D_La_begin_1 : xd m_La_begin 1 (.iload_n 1) 1 2 := ⟨by decide +kernel, rfl⟩
theorem D_La_begin_2 : xd m_La_begin 2 (.iload_n 2) 1 3 := ⟨by decide +kernel, rfl⟩
theorem D_La_begin_3 : xd m_La_begin 3 (.invokevirtual 25) 3 6 := ⟨by decide +kernel, rfl⟩
theorem D_La_begin_6 : xd m_La_begin 6 (.goto 6) 3 9 := ⟨by decide +kernel, rfl⟩
theorem D_La_begin_9 : xd m_La_begin 9 (.astore_n 3) 1 10 := ⟨by decide +kernel, rfl⟩
theorem D_La_begin_10 : xd m_La_begin 10 (.iconst 1) 1 11 := ⟨by decide +kernel, rfl⟩
theorem D_La_begin_11 : xd m_La_begin 11 (.ireturn) 1 12 := ⟨by decide +kernel, rfl⟩
theorem D_La_begin_12 : xd m_La_begin 12 (.iconst 0) 1 13 := ⟨by decide +kernel, rfl⟩
theorem D_La_begin_13 : xd m_La_begin 13 (.ireturn) 1 14 := ⟨by decide +kernel, rfl⟩
theorem D_La_put_0 : xd m_La_put 0 (.aload 5) 2 2 := ⟨by decide +kernel, rfl⟩
theorem D_La_put_2 : xd m_La_put 2 (.iconst 0) 1 3 := ⟨by decide +kernel, rfl⟩
theorem D_La_put_3 : xd m_La_put 3 (.aload_n 0) 1 4 := ⟨by decide +kernel, rfl⟩
theorem D_La_put_4 : xd m_La_put 4 (.iload_n 1) 1 5 := ⟨by decide +kernel, rfl⟩
theorem D_La_put_5 : xd m_La_put 5 (.iload_n 2) 1 6 := ⟨by decide +kernel, rfl⟩
theorem D_La_put_6 : xd m_La_put 6 (.iload_n 3) 1 7 := ⟨by decide +kernel, rfl⟩
theorem D_La_put_7 : xd m_La_put 7 (.iload 4) 2 9 := ⟨by decide +kernel, rfl⟩
theorem D_La_put_9 : xd m_La_put 9 (.invokevirtual 28) 3 12 := ⟨by decide +kernel, rfl⟩
theorem D_La_put_12 : xd m_La_put 12 (.i2l) 1 13 := ⟨by decide +kernel, rfl⟩
theorem D_La_put_13 : xd m_La_put 13 (.lastore) 1 14 := ⟨by decide +kernel, rfl⟩
theorem D_La_put_14 : xd m_La_put 14 (.goto 11) 3 17 := ⟨by decide +kernel, rfl⟩
theorem D_La_put_17 : xd m_La_put 17 (.astore 6) 2 19 := ⟨by decide +kernel, rfl⟩
theorem D_La_put_19 : xd m_La_put 19 (.iconst 1) 1 20 := ⟨by decide +kernel, rfl⟩
theorem D_La_put_20 : xd m_La_put 20 (.ireturn) 1 21 := ⟨by decide +kernel, rfl⟩
theorem D_La_put_21 : xd m_La_put 21 (.astore 6) 2 23 := ⟨by decide +kernel, rfl⟩
theorem D_La_put_23 : xd m_La_put 23 (.iconst 2) 1 24 := ⟨by decide +kernel, rfl⟩
theorem D_La_put_24 : xd m_La_put 24 (.ireturn) 1 25 := ⟨by decide +kernel, rfl⟩
theorem D_La_put_25 : xd m_La_put 25 (.iconst 0) 1 26 := ⟨by decide +kernel, rfl⟩
theorem D_La_put_26 : xd m_La_put 26 (.ireturn) 1 27 := ⟨by decide +kernel, rfl⟩
theorem D_La_rule_0 : xd m_La_rule 0 (.aload 5) 2 2 := ⟨by decide +kernel, rfl⟩
theorem D_La_rule_2 : xd m_La_rule 2 (.iconst 0) 1 3 := ⟨by decide +kernel, rfl⟩
theorem D_La_rule_3 : xd m_La_rule 3 (.aload_n 0) 1 4 := ⟨by decide +kernel, rfl⟩
theorem D_La_rule_4 : xd m_La_rule 4 (.iload_n 1) 1 5 := ⟨by decide +kernel, rfl⟩
theorem D_La_rule_5 : xd m_La_rule 5 (.iload_n 2) 1 6 := ⟨by decide +kernel, rfl⟩
theorem D_La_rule_6 : xd m_La_rule 6 (.iload_n 3) 1 7 := ⟨by decide +kernel, rfl⟩
theorem D_La_rule_7 : xd m_La_rule 7 (.iload 4) 2 9 := ⟨by decide +kernel, rfl⟩
theorem D_La_rule_9 : xd m_La_rule 9 (.invokevirtual 34) 3 12 := ⟨by decide +kernel, rfl⟩
theorem D_La_rule_12 : xd m_La_rule 12 (.i2l) 1 13 := ⟨by decide +kernel, rfl⟩
theorem D_La_rule_13 : xd m_La_rule 13 (.lastore) 1 14 := ⟨by decide +kernel, rfl⟩
theorem D_La_rule_14 : xd m_La_rule 14 (.goto 11) 3 17 := ⟨by decide +kernel, rfl⟩
theorem D_La_rule_17 : xd m_La_rule 17 (.astore 6) 2 19 := ⟨by decide +kernel, rfl⟩
theorem D_La_rule_19 : xd m_La_rule 19 (.iconst 1) 1 20 := ⟨by decide +kernel, rfl⟩
theorem D_La_rule_20 : xd m_La_rule 20 (.ireturn) 1 21 := ⟨by decide +kernel, rfl⟩
theorem D_La_rule_21 : xd m_La_rule 21 (.astore 6) 2 23 := ⟨by decide +kernel, rfl⟩
theorem D_La_rule_23 : xd m_La_rule 23 (.iconst 2) 1 24 := ⟨by decide +kernel, rfl⟩
theorem D_La_rule_24 : xd m_La_rule 24 (.ireturn) 1 25 := ⟨by decide +kernel, rfl⟩
theorem D_La_rule_25 : xd m_La_rule 25 (.iconst 0) 1 26 := ⟨by decide +kernel, rfl⟩
theorem D_La_rule_26 : xd m_La_rule 26 (.ireturn) 1 27 := ⟨by decide +kernel, rfl⟩
theorem D_La_ship_0 : xd m_La_ship 0 (.aload_n 1) 1 1 := ⟨by decide +kernel, rfl⟩
theorem D_La_ship_1 : xd m_La_ship 1 (.iconst 0) 1 2 := ⟨by decide +kernel, rfl⟩
theorem D_La_ship_2 : xd m_La_ship 2 (.aload_n 0) 1 3 := ⟨by decide +kernel, rfl⟩
theorem D_La_ship_3 : xd m_La_ship 3 (.invokevirtual 37) 3 6 := ⟨by decide +kernel, rfl⟩
theorem D_La_ship_6 : xd m_La_ship 6 (.i2l) 1 7 := ⟨by decide +kernel, rfl⟩
theorem D_La_ship_7 : xd m_La_ship 7 (.lastore) 1 8 := ⟨by decide +kernel, rfl⟩
theorem D_La_ship_8 : xd m_La_ship 8 (.goto 12) 3 11 := ⟨by decide +kernel, rfl⟩
theorem D_La_ship_11 : xd m_La_ship 11 (.astore_n 2) 1 12 := ⟨by decide +kernel, rfl⟩
theorem D_La_ship_12 : xd m_La_ship 12 (.iconst 1) 1 13 := ⟨by decide +kernel, rfl⟩
theorem D_La_ship_13 : xd m_La_ship 13 (.ireturn) 1 14 := ⟨by decide +kernel, rfl⟩
theorem D_La_ship_14 : xd m_La_ship 14 (.astore_n 2) 1 15 := ⟨by decide +kernel, rfl⟩
theorem D_La_ship_15 : xd m_La_ship 15 (.iconst 2) 1 16 := ⟨by decide +kernel, rfl⟩
theorem D_La_ship_16 : xd m_La_ship 16 (.ireturn) 1 17 := ⟨by decide +kernel, rfl⟩
theorem D_La_ship_17 : xd m_La_ship 17 (.astore_n 2) 1 18 := ⟨by decide +kernel, rfl⟩
theorem D_La_ship_18 : xd m_La_ship 18 (.iconst 3) 1 19 := ⟨by decide +kernel, rfl⟩
theorem D_La_ship_19 : xd m_La_ship 19 (.ireturn) 1 20 := ⟨by decide +kernel, rfl⟩
theorem D_La_ship_20 : xd m_La_ship 20 (.iconst 0) 1 21 := ⟨by decide +kernel, rfl⟩
theorem D_La_ship_21 : xd m_La_ship 21 (.ireturn) 1 22 := ⟨by decide +kernel, rfl⟩
theorem D_La_close_0 : xd m_La_close 0 (.aload_n 1) 1 1 := ⟨by decide +kernel, rfl⟩
theorem D_La_close_1 : xd m_La_close 1 (.iconst 0) 1 2 := ⟨by decide +kernel, rfl⟩
theorem D_La_close_2 : xd m_La_close 2 (.aload_n 0) 1 3 := ⟨by decide +kernel, rfl⟩
theorem D_La_close_3 : xd m_La_close 3 (.invokevirtual 43) 3 6 := ⟨by decide +kernel, rfl⟩
theorem D_La_close_6 : xd m_La_close 6 (.i2l) 1 7 := ⟨by decide +kernel, rfl⟩
theorem D_La_close_7 : xd m_La_close 7 (.lastore) 1 8 := ⟨by decide +kernel, rfl⟩
theorem D_La_close_8 : xd m_La_close 8 (.goto 6) 3 11 := ⟨by decide +kernel, rfl⟩
theorem D_La_close_11 : xd m_La_close 11 (.astore_n 2) 1 12 := ⟨by decide +kernel, rfl⟩
theorem D_La_close_12 : xd m_La_close 12 (.iconst 1) 1 13 := ⟨by decide +kernel, rfl⟩
theorem D_La_close_13 : xd m_La_close 13 (.ireturn) 1 14 := ⟨by decide +kernel, rfl⟩
theorem D_La_close_14 : xd m_La_close 14 (.iconst 0) 1 15 := ⟨by decide +kernel, rfl⟩
theorem D_La_close_15 : xd m_La_close 15 (.ireturn) 1 16 := ⟨by decide +kernel, rfl⟩
theorem D_La_out_0 : xd m_La_out 0 (.aload_n 2) 1 1 := ⟨by decide +kernel, rfl⟩
theorem D_La_out_1 : xd m_La_out 1 (.iconst 0) 1 2 := ⟨by decide +kernel, rfl⟩
theorem D_La_out_2 : xd m_La_out 2 (.aload_n 0) 1 3 := ⟨by decide +kernel, rfl⟩
theorem D_La_out_3 : xd m_La_out 3 (.iload_n 1) 1 4 := ⟨by decide +kernel, rfl⟩
theorem D_La_out_4 : xd m_La_out 4 (.invokevirtual 46) 3 7 := ⟨by decide +kernel, rfl⟩
theorem D_La_out_7 : xd m_La_out 7 (.i2l) 1 8 := ⟨by decide +kernel, rfl⟩
theorem D_La_out_8 : xd m_La_out 8 (.lastore) 1 9 := ⟨by decide +kernel, rfl⟩
theorem D_La_out_9 : xd m_La_out 9 (.goto 6) 3 12 := ⟨by decide +kernel, rfl⟩
theorem D_La_out_12 : xd m_La_out 12 (.astore_n 3) 1 13 := ⟨by decide +kernel, rfl⟩
theorem D_La_out_13 : xd m_La_out 13 (.iconst 1) 1 14 := ⟨by decide +kernel, rfl⟩
theorem D_La_out_14 : xd m_La_out 14 (.ireturn) 1 15 := ⟨by decide +kernel, rfl⟩
theorem D_La_out_15 : xd m_La_out 15 (.iconst 0) 1 16 := ⟨by decide +kernel, rfl⟩
theorem D_La_out_16 : xd m_La_out 16 (.ireturn) 1 17 := ⟨by decide +kernel, rfl⟩
theorem D_La_about_0 : xd m_La_about 0 (.aload_n 2) 1 1 := ⟨by decide +kernel, rfl⟩
theorem D_La_about_1 : xd m_La_about 1 (.iconst 0) 1 2 := ⟨by decide +kernel, rfl⟩
theorem D_La_about_2 : xd m_La_about 2 (.aload_n 0) 1 3 := ⟨by decide +kernel, rfl⟩
theorem D_La_about_3 : xd m_La_about 3 (.iload_n 1) 1 4 := ⟨by decide +kernel, rfl⟩
theorem D_La_about_4 : xd m_La_about 4 (.invokevirtual 52) 3 7 := ⟨by decide +kernel, rfl⟩
theorem D_La_about_7 : xd m_La_about 7 (.i2l) 1 8 := ⟨by decide +kernel, rfl⟩
theorem D_La_about_8 : xd m_La_about 8 (.lastore) 1 9 := ⟨by decide +kernel, rfl⟩
theorem D_La_about_9 : xd m_La_about 9 (.goto 6) 3 12 := ⟨by decide +kernel, rfl⟩
theorem D_La_about_12 : xd m_La_about 12 (.astore_n 3) 1 13 := ⟨by decide +kernel, rfl⟩
theorem D_La_about_13 : xd m_La_about 13 (.iconst 1) 1 14 := ⟨by decide +kernel, rfl⟩
theorem D_La_about_14 : xd m_La_about 14 (.ireturn) 1 15 := ⟨by decide +kernel, rfl⟩
theorem D_La_about_15 : xd m_La_about 15 (.iconst 0) 1 16 := ⟨by decide +kernel, rfl⟩
theorem D_La_about_16 : xd m_La_about 16 (.ireturn) 1 17 := ⟨by decide +kernel, rfl⟩
theorem D_La_mark_0 : xd m_La_mark 0 (.aload_n 3) 1 1 := ⟨by decide +kernel, rfl⟩
theorem D_La_mark_1 : xd m_La_mark 1 (.iconst 0) 1 2 := ⟨by decide +kernel, rfl⟩
theorem D_La_mark_2 : xd m_La_mark 2 (.aload_n 0) 1 3 := ⟨by decide +kernel, rfl⟩
theorem D_La_mark_3 : xd m_La_mark 3 (.iload_n 1) 1 4 := ⟨by decide +kernel, rfl⟩
theorem D_La_mark_4 : xd m_La_mark 4 (.iload_n 2) 1 5 := ⟨by decide +kernel, rfl⟩
theorem D_La_mark_5 : xd m_La_mark 5 (.invokevirtual 55) 3 8 := ⟨by decide +kernel, rfl⟩
theorem D_La_mark_8 : xd m_La_mark 8 (.i2l) 1 9 := ⟨by decide +kernel, rfl⟩
theorem D_La_mark_9 : xd m_La_mark 9 (.lastore) 1 10 := ⟨by decide +kernel, rfl⟩
theorem D_La_mark_10 : xd m_La_mark 10 (.goto 7) 3 13 := ⟨by decide +kernel, rfl⟩
theorem D_La_mark_13 : xd m_La_mark 13 (.astore 4) 2 15 := ⟨by decide +kernel, rfl⟩
theorem D_La_mark_15 : xd m_La_mark 15 (.iconst 1) 1 16 := ⟨by decide +kernel, rfl⟩
theorem D_La_mark_16 : xd m_La_mark 16 (.ireturn) 1 17 := ⟨by decide +kernel, rfl⟩
theorem D_La_mark_17 : xd m_La_mark 17 (.iconst 0) 1 18 := ⟨by decide +kernel, rfl⟩
theorem D_La_mark_18 : xd m_La_mark 18 (.ireturn) 1 19 := ⟨by decide +kernel, rfl⟩
theorem D_La_page_0 : xd m_La_page 0 (.aload_n 3) 1 1 := ⟨by decide +kernel, rfl⟩
theorem D_La_page_1 : xd m_La_page 1 (.iconst 0) 1 2 := ⟨by decide +kernel, rfl⟩
theorem D_La_page_2 : xd m_La_page 2 (.aload_n 0) 1 3 := ⟨by decide +kernel, rfl⟩
theorem D_La_page_3 : xd m_La_page 3 (.iload_n 1) 1 4 := ⟨by decide +kernel, rfl⟩
theorem D_La_page_4 : xd m_La_page 4 (.iload_n 2) 1 5 := ⟨by decide +kernel, rfl⟩
theorem D_La_page_5 : xd m_La_page 5 (.invokevirtual 59) 3 8 := ⟨by decide +kernel, rfl⟩
theorem D_La_page_8 : xd m_La_page 8 (.i2l) 1 9 := ⟨by decide +kernel, rfl⟩
theorem D_La_page_9 : xd m_La_page 9 (.lastore) 1 10 := ⟨by decide +kernel, rfl⟩
theorem D_La_page_10 : xd m_La_page 10 (.goto 7) 3 13 := ⟨by decide +kernel, rfl⟩
theorem D_La_page_13 : xd m_La_page 13 (.astore 4) 2 15 := ⟨by decide +kernel, rfl⟩
theorem D_La_page_15 : xd m_La_page 15 (.iconst 1) 1 16 := ⟨by decide +kernel, rfl⟩
theorem D_La_page_16 : xd m_La_page 16 (.ireturn) 1 17 := ⟨by decide +kernel, rfl⟩
theorem D_La_page_17 : xd m_La_page 17 (.iconst 0) 1 18 := ⟨by decide +kernel, rfl⟩
theorem D_La_page_18 : xd m_La_page 18 (.ireturn) 1 19 := ⟨by decide +kernel, rfl⟩
theorem D_La_told_0 : xd m_La_told 0 (.aload_n 3) 1 1 := ⟨by decide +kernel, rfl⟩
theorem D_La_told_1 : xd m_La_told 1 (.iconst 0) 1 2 := ⟨by decide +kernel, rfl⟩
theorem D_La_told_2 : xd m_La_told 2 (.aload_n 0) 1 3 := ⟨by decide +kernel, rfl⟩
theorem D_La_told_3 : xd m_La_told 3 (.iload_n 1) 1 4 := ⟨by decide +kernel, rfl⟩
theorem D_La_told_4 : xd m_La_told 4 (.iload_n 2) 1 5 := ⟨by decide +kernel, rfl⟩
theorem D_La_told_5 : xd m_La_told 5 (.invokevirtual 62) 3 8 := ⟨by decide +kernel, rfl⟩
theorem D_La_told_8 : xd m_La_told 8 (.i2l) 1 9 := ⟨by decide +kernel, rfl⟩
theorem D_La_told_9 : xd m_La_told 9 (.lastore) 1 10 := ⟨by decide +kernel, rfl⟩
theorem D_La_told_10 : xd m_La_told 10 (.goto 7) 3 13 := ⟨by decide +kernel, rfl⟩
theorem D_La_told_13 : xd m_La_told 13 (.astore 4) 2 15 := ⟨by decide +kernel, rfl⟩
theorem D_La_told_15 : xd m_La_told 15 (.iconst 1) 1 16 := ⟨by decide +kernel, rfl⟩
theorem D_La_told_16 : xd m_La_told 16 (.ireturn) 1 17 := ⟨by decide +kernel, rfl⟩
theorem D_La_told_17 : xd m_La_told 17 (.iconst 0) 1 18 := ⟨by decide +kernel, rfl⟩
theorem D_La_told_18 : xd m_La_told 18 (.ireturn) 1 19 := ⟨by decide +kernel, rfl⟩
theorem D_La_law_0 : xd m_La_law 0 (.new 8) 3 3 := ⟨by decide +kernel, rfl⟩
theorem D_La_law_3 : xd m_La_law 3 (.dup) 1 4 := ⟨by decide +kernel, rfl⟩
theorem D_La_law_4 : xd m_La_law 4 (.invokespecial 65) 3 7 := ⟨by decide +kernel, rfl⟩
theorem D_La_law_7 : xd m_La_law 7 (.astore_n 1) 1 8 := ⟨by decide +kernel, rfl⟩
theorem D_La_law_8 : xd m_La_law 8 (.new 66) 3 11 := ⟨by decide +kernel, rfl⟩
theorem D_La_law_11 : xd m_La_law 11 (.dup) 1 12 := ⟨by decide +kernel, rfl⟩
theorem D_La_law_12 : xd m_La_law 12 (.invokespecial 68) 3 15 := ⟨by decide +kernel, rfl⟩
theorem D_La_law_15 : xd m_La_law 15 (.astore_n 2) 1 16 := ⟨by decide +kernel, rfl⟩
theorem D_La_law_16 : xd m_La_law 16 (.iconst 1) 1 17 := ⟨by decide +kernel, rfl⟩
theorem D_La_law_17 : xd m_La_law 17 (.newarray .long) 2 19 := ⟨by decide +kernel, rfl⟩
theorem D_La_law_19 : xd m_La_law 19 (.astore_n 3) 1 20 := ⟨by decide +kernel, rfl⟩
theorem D_La_law_20 : xd m_La_law 20 (.iconst 0) 1 21 := ⟨by decide +kernel, rfl⟩
theorem D_La_law_21 : xd m_La_law 21 (.istore 4) 2 23 := ⟨by decide +kernel, rfl⟩
theorem D_La_law_23 : xd m_La_law 23 (.iload 4) 2 25 := ⟨by decide +kernel, rfl⟩
theorem D_La_law_25 : xd m_La_law 25 (.aload_n 0) 1 26 := ⟨by decide +kernel, rfl⟩
theorem D_La_law_26 : xd m_La_law 26 (.arraylength) 1 27 := ⟨by decide +kernel, rfl⟩
theorem D_La_law_27 : xd m_La_law 27 (.bipush 10) 2 29 := ⟨by decide +kernel, rfl⟩
theorem D_La_law_29 : xd m_La_law 29 (.isub) 1 30 := ⟨by decide +kernel, rfl⟩
theorem D_La_law_30 : xd m_La_law 30 (.if_icmp .gt 1161) 3 33 := ⟨by decide +kernel, rfl⟩
theorem D_La_law_33 : xd m_La_law 33 (.aload_n 0) 1 34 := ⟨by decide +kernel, rfl⟩
theorem D_La_law_34 : xd m_La_law 34 (.iload 4) 2 36 := ⟨by decide +kernel, rfl⟩
theorem D_La_law_36 : xd m_La_law 36 (.iaload) 1 37 := ⟨by decide +kernel, rfl⟩
theorem D_La_law_37 : xd m_La_law 37 (.bipush 31) 2 39 := ⟨by decide +kernel, rfl⟩
theorem D_La_law_39 : xd m_La_law 39 (.iand) 1 40 := ⟨by decide +kernel, rfl⟩
theorem D_La_law_40 : xd m_La_law 40 (.tableswitch 1145 0 17 #[88, 268, 328, 376, 424, 516, 608, 652, 696, 709, 765, 834, 859, 872, 885, 941, 1009, 1077]) 88 128 := ⟨by decide +kernel, rfl⟩
theorem D_La_law_128 : xd m_La_law 128 (.aload_n 1) 1 129 := ⟨by decide +kernel, rfl⟩
theorem D_La_law_129 : xd m_La_law 129 (.aload_n 0) 1 130 := ⟨by decide +kernel, rfl⟩
theorem D_La_law_130 : xd m_La_law 130 (.iload 4) 2 132 := ⟨by decide +kernel, rfl⟩
theorem D_La_law_132 : xd m_La_law 132 (.iconst 1) 1 133 := ⟨by decide +kernel, rfl⟩
theorem D_La_law_133 : xd m_La_law 133 (.iadd) 1 134 := ⟨by decide +kernel, rfl⟩
theorem D_La_law_134 : xd m_La_law 134 (.iaload) 1 135 := ⟨by decide +kernel, rfl⟩
theorem D_La_law_135 : xd m_La_law 135 (.aload_n 0) 1 136 := ⟨by decide +kernel, rfl⟩
theorem D_La_law_136 : xd m_La_law 136 (.iload 4) 2 138 := ⟨by decide +kernel, rfl⟩
theorem D_La_law_138 : xd m_La_law 138 (.iconst 2) 1 139 := ⟨by decide +kernel, rfl⟩
theorem D_La_law_139 : xd m_La_law 139 (.iadd) 1 140 := ⟨by decide +kernel, rfl⟩
theorem D_La_law_140 : xd m_La_law 140 (.iaload) 1 141 := ⟨by decide +kernel, rfl⟩
theorem D_La_law_141 : xd m_La_law 141 (.aload_n 0) 1 142 := ⟨by decide +kernel, rfl⟩
theorem D_La_law_142 : xd m_La_law 142 (.iload 4) 2 144 := ⟨by decide +kernel, rfl⟩
theorem D_La_law_144 : xd m_La_law 144 (.iconst 3) 1 145 := ⟨by decide +kernel, rfl⟩
theorem D_La_law_145 : xd m_La_law 145 (.iadd) 1 146 := ⟨by decide +kernel, rfl⟩
theorem D_La_law_146 : xd m_La_law 146 (.iaload) 1 147 := ⟨by decide +kernel, rfl⟩
theorem D_La_law_147 : xd m_La_law 147 (.aload_n 0) 1 148 := ⟨by decide +kernel, rfl⟩
theorem D_La_law_148 : xd m_La_law 148 (.iload 4) 2 150 := ⟨by decide +kernel, rfl⟩
theorem D_La_law_150 : xd m_La_law 150 (.iconst 4) 1 151 := ⟨by decide +kernel, rfl⟩
theorem D_La_law_151 : xd m_La_law 151 (.iadd) 1 152 := ⟨by decide +kernel, rfl⟩
theorem D_La_law_152 : xd m_La_law 152 (.iaload) 1 153 := ⟨by decide +kernel, rfl⟩
theorem D_La_law_153 : xd m_La_law 153 (.aload_n 0) 1 154 := ⟨by decide +kernel, rfl⟩
theorem D_La_law_154 : xd m_La_law 154 (.iload 4) 2 156 := ⟨by decide +kernel, rfl⟩
theorem D_La_law_156 : xd m_La_law 156 (.iconst 5) 1 157 := ⟨by decide +kernel, rfl⟩
theorem D_La_law_157 : xd m_La_law 157 (.iadd) 1 158 := ⟨by decide +kernel, rfl⟩
theorem D_La_law_158 : xd m_La_law 158 (.iaload) 1 159 := ⟨by decide +kernel, rfl⟩
theorem D_La_law_159 : xd m_La_law 159 (.i2l) 1 160 := ⟨by decide +kernel, rfl⟩
theorem D_La_law_160 : xd m_La_law 160 (.bipush 32) 2 162 := ⟨by decide +kernel, rfl⟩
theorem D_La_law_162 : xd m_La_law 162 (.lshl) 1 163 := ⟨by decide +kernel, rfl⟩
theorem D_La_law_163 : xd m_La_law 163 (.aload_n 0) 1 164 := ⟨by decide +kernel, rfl⟩
theorem D_La_law_164 : xd m_La_law 164 (.iload 4) 2 166 := ⟨by decide +kernel, rfl⟩
theorem D_La_law_166 : xd m_La_law 166 (.bipush 6) 2 168 := ⟨by decide +kernel, rfl⟩
theorem D_La_law_168 : xd m_La_law 168 (.iadd) 1 169 := ⟨by decide +kernel, rfl⟩
theorem D_La_law_169 : xd m_La_law 169 (.iaload) 1 170 := ⟨by decide +kernel, rfl⟩
theorem D_La_law_170 : xd m_La_law 170 (.i2l) 1 171 := ⟨by decide +kernel, rfl⟩
theorem D_La_law_171 : xd m_La_law 171 (.ldc2_w 69) 3 174 := ⟨by decide +kernel, rfl⟩
theorem D_La_law_174 : xd m_La_law 174 (.land) 1 175 := ⟨by decide +kernel, rfl⟩
theorem D_La_law_175 : xd m_La_law 175 (.lor) 1 176 := ⟨by decide +kernel, rfl⟩
theorem D_La_law_176 : xd m_La_law 176 (.aload_n 0) 1 177 := ⟨by decide +kernel, rfl⟩
theorem D_La_law_177 : xd m_La_law 177 (.iload 4) 2 179 := ⟨by decide +kernel, rfl⟩
theorem D_La_law_179 : xd m_La_law 179 (.bipush 7) 2 181 := ⟨by decide +kernel, rfl⟩
theorem D_La_law_181 : xd m_La_law 181 (.iadd) 1 182 := ⟨by decide +kernel, rfl⟩
theorem D_La_law_182 : xd m_La_law 182 (.iaload) 1 183 := ⟨by decide +kernel, rfl⟩
theorem D_La_law_183 : xd m_La_law 183 (.i2l) 1 184 := ⟨by decide +kernel, rfl⟩
theorem D_La_law_184 : xd m_La_law 184 (.bipush 32) 2 186 := ⟨by decide +kernel, rfl⟩
theorem D_La_law_186 : xd m_La_law 186 (.lshl) 1 187 := ⟨by decide +kernel, rfl⟩
theorem D_La_law_187 : xd m_La_law 187 (.aload_n 0) 1 188 := ⟨by decide +kernel, rfl⟩
theorem D_La_law_188 : xd m_La_law 188 (.iload 4) 2 190 := ⟨by decide +kernel, rfl⟩
theorem D_La_law_190 : xd m_La_law 190 (.bipush 8) 2 192 := ⟨by decide +kernel, rfl⟩
theorem D_La_law_192 : xd m_La_law 192 (.iadd) 1 193 := ⟨by decide +kernel, rfl⟩
theorem D_La_law_193 : xd m_La_law 193 (.iaload) 1 194 := ⟨by decide +kernel, rfl⟩
theorem D_La_law_194 : xd m_La_law 194 (.i2l) 1 195 := ⟨by decide +kernel, rfl⟩
theorem D_La_law_195 : xd m_La_law 195 (.ldc2_w 69) 3 198 := ⟨by decide +kernel, rfl⟩
theorem D_La_law_198 : xd m_La_law 198 (.land) 1 199 := ⟨by decide +kernel, rfl⟩
theorem D_La_law_199 : xd m_La_law 199 (.lor) 1 200 := ⟨by decide +kernel, rfl⟩
theorem D_La_law_200 : xd m_La_law 200 (.aload_n 0) 1 201 := ⟨by decide +kernel, rfl⟩
theorem D_La_law_201 : xd m_La_law 201 (.iload 4) 2 203 := ⟨by decide +kernel, rfl⟩
theorem D_La_law_203 : xd m_La_law 203 (.bipush 9) 2 205 := ⟨by decide +kernel, rfl⟩
theorem D_La_law_205 : xd m_La_law 205 (.iadd) 1 206 := ⟨by decide +kernel, rfl⟩
theorem D_La_law_206 : xd m_La_law 206 (.iaload) 1 207 := ⟨by decide +kernel, rfl⟩
theorem D_La_law_207 : xd m_La_law 207 (.invokestatic 71) 3 210 := ⟨by decide +kernel, rfl⟩
theorem D_La_law_210 : xd m_La_law 210 (.istore 5) 2 212 := ⟨by decide +kernel, rfl⟩
theorem D_La_law_212 : xd m_La_law 212 (.aload_n 2) 1 213 := ⟨by decide +kernel, rfl⟩
theorem D_La_law_213 : xd m_La_law 213 (.aload_n 0) 1 214 := ⟨by decide +kernel, rfl⟩
theorem D_La_law_214 : xd m_La_law 214 (.iload 4) 2 216 := ⟨by decide +kernel, rfl⟩
theorem D_La_law_216 : xd m_La_law 216 (.iconst 1) 1 217 := ⟨by decide +kernel, rfl⟩
theorem D_La_law_217 : xd m_La_law 217 (.iadd) 1 218 := ⟨by decide +kernel, rfl⟩
theorem D_La_law_218 : xd m_La_law 218 (.iaload) 1 219 := ⟨by decide +kernel, rfl⟩
theorem D_La_law_219 : xd m_La_law 219 (.aload_n 0) 1 220 := ⟨by decide +kernel, rfl⟩
theorem D_La_law_220 : xd m_La_law 220 (.iload 4) 2 222 := ⟨by decide +kernel, rfl⟩
theorem D_La_law_222 : xd m_La_law 222 (.iconst 2) 1 223 := ⟨by decide +kernel, rfl⟩
theorem D_La_law_223 : xd m_La_law 223 (.iadd) 1 224 := ⟨by decide +kernel, rfl⟩
theorem D_La_law_224 : xd m_La_law 224 (.iaload) 1 225 := ⟨by decide +kernel, rfl⟩
theorem D_La_law_225 : xd m_La_law 225 (.aload_n 0) 1 226 := ⟨by decide +kernel, rfl⟩
theorem D_La_law_226 : xd m_La_law 226 (.iload 4) 2 228 := ⟨by decide +kernel, rfl⟩
theorem D_La_law_228 : xd m_La_law 228 (.iconst 3) 1 229 := ⟨by decide +kernel, rfl⟩
theorem D_La_law_229 : xd m_La_law 229 (.iadd) 1 230 := ⟨by decide +kernel, rfl⟩
theorem D_La_law_230 : xd m_La_law 230 (.iaload) 1 231 := ⟨by decide +kernel, rfl⟩
theorem D_La_law_231 : xd m_La_law 231 (.aload_n 0) 1 232 := ⟨by decide +kernel, rfl⟩
theorem D_La_law_232 : xd m_La_law 232 (.iload 4) 2 234 := ⟨by decide +kernel, rfl⟩
theorem D_La_law_234 : xd m_La_law 234 (.iconst 4) 1 235 := ⟨by decide +kernel, rfl⟩
theorem D_La_law_235 : xd m_La_law 235 (.iadd) 1 236 := ⟨by decide +kernel, rfl⟩
theorem D_La_law_236 : xd m_La_law 236 (.iaload) 1 237 := ⟨by decide +kernel, rfl⟩
theorem D_La_law_237 : xd m_La_law 237 (.aload_n 0) 1 238 := ⟨by decide +kernel, rfl⟩
theorem D_La_law_238 : xd m_La_law 238 (.iload 4) 2 240 := ⟨by decide +kernel, rfl⟩
theorem D_La_law_240 : xd m_La_law 240 (.iconst 5) 1 241 := ⟨by decide +kernel, rfl⟩
theorem D_La_law_241 : xd m_La_law 241 (.iadd) 1 242 := ⟨by decide +kernel, rfl⟩
theorem D_La_law_242 : xd m_La_law 242 (.iaload) 1 243 := ⟨by decide +kernel, rfl⟩
theorem D_La_law_243 : xd m_La_law 243 (.i2l) 1 244 := ⟨by decide +kernel, rfl⟩
theorem D_La_law_244 : xd m_La_law 244 (.bipush 32) 2 246 := ⟨by decide +kernel, rfl⟩
theorem D_La_law_246 : xd m_La_law 246 (.lshl) 1 247 := ⟨by decide +kernel, rfl⟩
theorem D_La_law_247 : xd m_La_law 247 (.aload_n 0) 1 248 := ⟨by decide +kernel, rfl⟩
theorem D_La_law_248 : xd m_La_law 248 (.iload 4) 2 250 := ⟨by decide +kernel, rfl⟩
theorem D_La_law_250 : xd m_La_law 250 (.bipush 6) 2 252 := ⟨by decide +kernel, rfl⟩
theorem D_La_law_252 : xd m_La_law 252 (.iadd) 1 253 := ⟨by decide +kernel, rfl⟩
theorem D_La_law_253 : xd m_La_law 253 (.iaload) 1 254 := ⟨by decide +kernel, rfl⟩
theorem D_La_law_254 : xd m_La_law 254 (.i2l) 1 255 := ⟨by decide +kernel, rfl⟩
theorem D_La_law_255 : xd m_La_law 255 (.ldc2_w 69) 3 258 := ⟨by decide +kernel, rfl⟩
theorem D_La_law_258 : xd m_La_law 258 (.land) 1 259 := ⟨by decide +kernel, rfl⟩
theorem D_La_law_259 : xd m_La_law 259 (.lor) 1 260 := ⟨by decide +kernel, rfl⟩
theorem D_La_law_260 : xd m_La_law 260 (.aload_n 0) 1 261 := ⟨by decide +kernel, rfl⟩
theorem D_La_law_261 : xd m_La_law 261 (.iload 4) 2 263 := ⟨by decide +kernel, rfl⟩
theorem D_La_law_263 : xd m_La_law 263 (.bipush 7) 2 265 := ⟨by decide +kernel, rfl⟩
theorem D_La_law_265 : xd m_La_law 265 (.iadd) 1 266 := ⟨by decide +kernel, rfl⟩
theorem D_La_law_266 : xd m_La_law 266 (.iaload) 1 267 := ⟨by decide +kernel, rfl⟩
theorem D_La_law_267 : xd m_La_law 267 (.i2l) 1 268 := ⟨by decide +kernel, rfl⟩
theorem D_La_law_268 : xd m_La_law 268 (.bipush 32) 2 270 := ⟨by decide +kernel, rfl⟩
theorem D_La_law_270 : xd m_La_law 270 (.lshl) 1 271 := ⟨by decide +kernel, rfl⟩
theorem D_La_law_271 : xd m_La_law 271 (.aload_n 0) 1 272 := ⟨by decide +kernel, rfl⟩
theorem D_La_law_272 : xd m_La_law 272 (.iload 4) 2 274 := ⟨by decide +kernel, rfl⟩
theorem D_La_law_274 : xd m_La_law 274 (.bipush 8) 2 276 := ⟨by decide +kernel, rfl⟩
theorem D_La_law_276 : xd m_La_law 276 (.iadd) 1 277 := ⟨by decide +kernel, rfl⟩
theorem D_La_law_277 : xd m_La_law 277 (.iaload) 1 278 := ⟨by decide +kernel, rfl⟩
theorem D_La_law_278 : xd m_La_law 278 (.i2l) 1 279 := ⟨by decide +kernel, rfl⟩
theorem D_La_law_279 : xd m_La_law 279 (.ldc2_w 69) 3 282 := ⟨by decide +kernel, rfl⟩
theorem D_La_law_282 : xd m_La_law 282 (.land) 1 283 := ⟨by decide +kernel, rfl⟩
theorem D_La_law_283 : xd m_La_law 283 (.lor) 1 284 := ⟨by decide +kernel, rfl⟩
theorem D_La_law_284 : xd m_La_law 284 (.aload_n 0) 1 285 := ⟨by decide +kernel, rfl⟩
theorem D_La_law_285 : xd m_La_law 285 (.iload 4) 2 287 := ⟨by decide +kernel, rfl⟩
theorem D_La_law_287 : xd m_La_law 287 (.bipush 9) 2 289 := ⟨by decide +kernel, rfl⟩
theorem D_La_law_289 : xd m_La_law 289 (.iadd) 1 290 := ⟨by decide +kernel, rfl⟩
theorem D_La_law_290 : xd m_La_law 290 (.iaload) 1 291 := ⟨by decide +kernel, rfl⟩
theorem D_La_law_291 : xd m_La_law 291 (.invokevirtual 76) 3 294 := ⟨by decide +kernel, rfl⟩
theorem D_La_law_294 : xd m_La_law 294 (.aload_n 2) 1 295 := ⟨by decide +kernel, rfl⟩
theorem D_La_law_295 : xd m_La_law 295 (.invokevirtual 77) 3 298 := ⟨by decide +kernel, rfl⟩
theorem D_La_law_298 : xd m_La_law 298 (.iload 5) 2 300 := ⟨by decide +kernel, rfl⟩
theorem D_La_law_300 : xd m_La_law 300 (.if_icmp .eq 5) 3 303 := ⟨by decide +kernel, rfl⟩
theorem D_La_law_303 : xd m_La_law 303 (.iconst 0) 1 304 := ⟨by decide +kernel, rfl⟩
theorem D_La_law_304 : xd m_La_law 304 (.ireturn) 1 305 := ⟨by decide +kernel, rfl⟩
theorem D_La_law_305 : xd m_La_law 305 (.goto 880) 3 308 := ⟨by decide +kernel, rfl⟩
theorem D_La_law_308 : xd m_La_law 308 (.aload_n 1) 1 309 := ⟨by decide +kernel, rfl⟩
theorem D_La_law_309 : xd m_La_law 309 (.aload_n 0) 1 310 := ⟨by decide +kernel, rfl⟩
theorem D_La_law_310 : xd m_La_law 310 (.iload 4) 2 312 := ⟨by decide +kernel, rfl⟩
theorem D_La_law_312 : xd m_La_law 312 (.iconst 1) 1 313 := ⟨by decide +kernel, rfl⟩
theorem D_La_law_313 : xd m_La_law 313 (.iadd) 1 314 := ⟨by decide +kernel, rfl⟩
theorem D_La_law_314 : xd m_La_law 314 (.iaload) 1 315 := ⟨by decide +kernel, rfl⟩
theorem D_La_law_315 : xd m_La_law 315 (.aload_n 0) 1 316 := ⟨by decide +kernel, rfl⟩
theorem D_La_law_316 : xd m_La_law 316 (.iload 4) 2 318 := ⟨by decide +kernel, rfl⟩
theorem D_La_law_318 : xd m_La_law 318 (.iconst 2) 1 319 := ⟨by decide +kernel, rfl⟩
theorem D_La_law_319 : xd m_La_law 319 (.iadd) 1 320 := ⟨by decide +kernel, rfl⟩
theorem D_La_law_320 : xd m_La_law 320 (.iaload) 1 321 := ⟨by decide +kernel, rfl⟩
theorem D_La_law_321 : xd m_La_law 321 (.aload_n 0) 1 322 := ⟨by decide +kernel, rfl⟩
theorem D_La_law_322 : xd m_La_law 322 (.iload 4) 2 324 := ⟨by decide +kernel, rfl⟩
theorem D_La_law_324 : xd m_La_law 324 (.iconst 3) 1 325 := ⟨by decide +kernel, rfl⟩
theorem D_La_law_325 : xd m_La_law 325 (.iadd) 1 326 := ⟨by decide +kernel, rfl⟩
theorem D_La_law_326 : xd m_La_law 326 (.iaload) 1 327 := ⟨by decide +kernel, rfl⟩
theorem D_La_law_327 : xd m_La_law 327 (.invokestatic 80) 3 330 := ⟨by decide +kernel, rfl⟩
theorem D_La_law_330 : xd m_La_law 330 (.istore 5) 2 332 := ⟨by decide +kernel, rfl⟩
theorem D_La_law_332 : xd m_La_law 332 (.aload_n 2) 1 333 := ⟨by decide +kernel, rfl⟩
theorem D_La_law_333 : xd m_La_law 333 (.aload_n 0) 1 334 := ⟨by decide +kernel, rfl⟩
theorem D_La_law_334 : xd m_La_law 334 (.iload 4) 2 336 := ⟨by decide +kernel, rfl⟩
theorem D_La_law_336 : xd m_La_law 336 (.iconst 1) 1 337 := ⟨by decide +kernel, rfl⟩
theorem D_La_law_337 : xd m_La_law 337 (.iadd) 1 338 := ⟨by decide +kernel, rfl⟩
theorem D_La_law_338 : xd m_La_law 338 (.iaload) 1 339 := ⟨by decide +kernel, rfl⟩
theorem D_La_law_339 : xd m_La_law 339 (.aload_n 0) 1 340 := ⟨by decide +kernel, rfl⟩
theorem D_La_law_340 : xd m_La_law 340 (.iload 4) 2 342 := ⟨by decide +kernel, rfl⟩
theorem D_La_law_342 : xd m_La_law 342 (.iconst 2) 1 343 := ⟨by decide +kernel, rfl⟩
theorem D_La_law_343 : xd m_La_law 343 (.iadd) 1 344 := ⟨by decide +kernel, rfl⟩
theorem D_La_law_344 : xd m_La_law 344 (.iaload) 1 345 := ⟨by decide +kernel, rfl⟩
theorem D_La_law_345 : xd m_La_law 345 (.aload_n 0) 1 346 := ⟨by decide +kernel, rfl⟩
theorem D_La_law_346 : xd m_La_law 346 (.iload 4) 2 348 := ⟨by decide +kernel, rfl⟩
theorem D_La_law_348 : xd m_La_law 348 (.iconst 3) 1 349 := ⟨by decide +kernel, rfl⟩
theorem D_La_law_349 : xd m_La_law 349 (.iadd) 1 350 := ⟨by decide +kernel, rfl⟩
theorem D_La_law_350 : xd m_La_law 350 (.iaload) 1 351 := ⟨by decide +kernel, rfl⟩
theorem D_La_law_351 : xd m_La_law 351 (.invokevirtual 83) 3 354 := ⟨by decide +kernel, rfl⟩
theorem D_La_law_354 : xd m_La_law 354 (.aload_n 2) 1 355 := ⟨by decide +kernel, rfl⟩
theorem D_La_law_355 : xd m_La_law 355 (.invokevirtual 77) 3 358 := ⟨by decide +kernel, rfl⟩
theorem D_La_law_358 : xd m_La_law 358 (.iload 5) 2 360 := ⟨by decide +kernel, rfl⟩
theorem D_La_law_360 : xd m_La_law 360 (.if_icmp .eq 5) 3 363 := ⟨by decide +kernel, rfl⟩
theorem D_La_law_363 : xd m_La_law 363 (.iconst 0) 1 364 := ⟨by decide +kernel, rfl⟩
theorem D_La_law_364 : xd m_La_law 364 (.ireturn) 1 365 := ⟨by decide +kernel, rfl⟩
theorem D_La_law_365 : xd m_La_law 365 (.goto 820) 3 368 := ⟨by decide +kernel, rfl⟩
theorem D_La_law_368 : xd m_La_law 368 (.aload_n 1) 1 369 := ⟨by decide +kernel, rfl⟩
theorem D_La_law_369 : xd m_La_law 369 (.aload_n 0) 1 370 := ⟨by decide +kernel, rfl⟩
theorem D_La_law_370 : xd m_La_law 370 (.iload 4) 2 372 := ⟨by decide +kernel, rfl⟩
theorem D_La_law_372 : xd m_La_law 372 (.iconst 1) 1 373 := ⟨by decide +kernel, rfl⟩
theorem D_La_law_373 : xd m_La_law 373 (.iadd) 1 374 := ⟨by decide +kernel, rfl⟩
theorem D_La_law_374 : xd m_La_law 374 (.iaload) 1 375 := ⟨by decide +kernel, rfl⟩
theorem D_La_law_375 : xd m_La_law 375 (.aload_n 0) 1 376 := ⟨by decide +kernel, rfl⟩
theorem D_La_law_376 : xd m_La_law 376 (.iload 4) 2 378 := ⟨by decide +kernel, rfl⟩
theorem D_La_law_378 : xd m_La_law 378 (.iconst 2) 1 379 := ⟨by decide +kernel, rfl⟩
theorem D_La_law_379 : xd m_La_law 379 (.iadd) 1 380 := ⟨by decide +kernel, rfl⟩
theorem D_La_law_380 : xd m_La_law 380 (.iaload) 1 381 := ⟨by decide +kernel, rfl⟩
theorem D_La_law_381 : xd m_La_law 381 (.invokestatic 84) 3 384 := ⟨by decide +kernel, rfl⟩
theorem D_La_law_384 : xd m_La_law 384 (.istore 5) 2 386 := ⟨by decide +kernel, rfl⟩
theorem D_La_law_386 : xd m_La_law 386 (.aload_n 2) 1 387 := ⟨by decide +kernel, rfl⟩
theorem D_La_law_387 : xd m_La_law 387 (.aload_n 0) 1 388 := ⟨by decide +kernel, rfl⟩
theorem D_La_law_388 : xd m_La_law 388 (.iload 4) 2 390 := ⟨by decide +kernel, rfl⟩
theorem D_La_law_390 : xd m_La_law 390 (.iconst 1) 1 391 := ⟨by decide +kernel, rfl⟩
theorem D_La_law_391 : xd m_La_law 391 (.iadd) 1 392 := ⟨by decide +kernel, rfl⟩
theorem D_La_law_392 : xd m_La_law 392 (.iaload) 1 393 := ⟨by decide +kernel, rfl⟩
theorem D_La_law_393 : xd m_La_law 393 (.aload_n 0) 1 394 := ⟨by decide +kernel, rfl⟩
theorem D_La_law_394 : xd m_La_law 394 (.iload 4) 2 396 := ⟨by decide +kernel, rfl⟩
theorem D_La_law_396 : xd m_La_law 396 (.iconst 2) 1 397 := ⟨by decide +kernel, rfl⟩
theorem D_La_law_397 : xd m_La_law 397 (.iadd) 1 398 := ⟨by decide +kernel, rfl⟩
theorem D_La_law_398 : xd m_La_law 398 (.iaload) 1 399 := ⟨by decide +kernel, rfl⟩
theorem D_La_law_399 : xd m_La_law 399 (.invokevirtual 87) 3 402 := ⟨by decide +kernel, rfl⟩
theorem D_La_law_402 : xd m_La_law 402 (.aload_n 2) 1 403 := ⟨by decide +kernel, rfl⟩
theorem D_La_law_403 : xd m_La_law 403 (.invokevirtual 77) 3 406 := ⟨by decide +kernel, rfl⟩
theorem D_La_law_406 : xd m_La_law 406 (.iload 5) 2 408 := ⟨by decide +kernel, rfl⟩
theorem D_La_law_408 : xd m_La_law 408 (.if_icmp .eq 5) 3 411 := ⟨by decide +kernel, rfl⟩
theorem D_La_law_411 : xd m_La_law 411 (.iconst 0) 1 412 := ⟨by decide +kernel, rfl⟩
theorem D_La_law_412 : xd m_La_law 412 (.ireturn) 1 413 := ⟨by decide +kernel, rfl⟩
theorem D_La_law_413 : xd m_La_law 413 (.goto 772) 3 416 := ⟨by decide +kernel, rfl⟩
theorem D_La_law_416 : xd m_La_law 416 (.aload_n 1) 1 417 := ⟨by decide +kernel, rfl⟩
theorem D_La_law_417 : xd m_La_law 417 (.aload_n 0) 1 418 := ⟨by decide +kernel, rfl⟩
theorem D_La_law_418 : xd m_La_law 418 (.iload 4) 2 420 := ⟨by decide +kernel, rfl⟩
theorem D_La_law_420 : xd m_La_law 420 (.iconst 1) 1 421 := ⟨by decide +kernel, rfl⟩
theorem D_La_law_421 : xd m_La_law 421 (.iadd) 1 422 := ⟨by decide +kernel, rfl⟩
theorem D_La_law_422 : xd m_La_law 422 (.iaload) 1 423 := ⟨by decide +kernel, rfl⟩
theorem D_La_law_423 : xd m_La_law 423 (.aload_n 0) 1 424 := ⟨by decide +kernel, rfl⟩
theorem D_La_law_424 : xd m_La_law 424 (.iload 4) 2 426 := ⟨by decide +kernel, rfl⟩
theorem D_La_law_426 : xd m_La_law 426 (.iconst 2) 1 427 := ⟨by decide +kernel, rfl⟩
theorem D_La_law_427 : xd m_La_law 427 (.iadd) 1 428 := ⟨by decide +kernel, rfl⟩
theorem D_La_law_428 : xd m_La_law 428 (.iaload) 1 429 := ⟨by decide +kernel, rfl⟩
theorem D_La_law_429 : xd m_La_law 429 (.invokestatic 88) 3 432 := ⟨by decide +kernel, rfl⟩
theorem D_La_law_432 : xd m_La_law 432 (.istore 5) 2 434 := ⟨by decide +kernel, rfl⟩
theorem D_La_law_434 : xd m_La_law 434 (.aload_n 2) 1 435 := ⟨by decide +kernel, rfl⟩
theorem D_La_law_435 : xd m_La_law 435 (.aload_n 0) 1 436 := ⟨by decide +kernel, rfl⟩
theorem D_La_law_436 : xd m_La_law 436 (.iload 4) 2 438 := ⟨by decide +kernel, rfl⟩
theorem D_La_law_438 : xd m_La_law 438 (.iconst 1) 1 439 := ⟨by decide +kernel, rfl⟩
theorem D_La_law_439 : xd m_La_law 439 (.iadd) 1 440 := ⟨by decide +kernel, rfl⟩
theorem D_La_law_440 : xd m_La_law 440 (.iaload) 1 441 := ⟨by decide +kernel, rfl⟩
theorem D_La_law_441 : xd m_La_law 441 (.aload_n 0) 1 442 := ⟨by decide +kernel, rfl⟩
theorem D_La_law_442 : xd m_La_law 442 (.iload 4) 2 444 := ⟨by decide +kernel, rfl⟩
theorem D_La_law_444 : xd m_La_law 444 (.iconst 2) 1 445 := ⟨by decide +kernel, rfl⟩
theorem D_La_law_445 : xd m_La_law 445 (.iadd) 1 446 := ⟨by decide +kernel, rfl⟩
theorem D_La_law_446 : xd m_La_law 446 (.iaload) 1 447 := ⟨by decide +kernel, rfl⟩
theorem D_La_law_447 : xd m_La_law 447 (.invokevirtual 90) 3 450 := ⟨by decide +kernel, rfl⟩
theorem D_La_law_450 : xd m_La_law 450 (.aload_n 2) 1 451 := ⟨by decide +kernel, rfl⟩
theorem D_La_law_451 : xd m_La_law 451 (.invokevirtual 77) 3 454 := ⟨by decide +kernel, rfl⟩
theorem D_La_law_454 : xd m_La_law 454 (.iload 5) 2 456 := ⟨by decide +kernel, rfl⟩
theorem D_La_law_456 : xd m_La_law 456 (.if_icmp .eq 5) 3 459 := ⟨by decide +kernel, rfl⟩
theorem D_La_law_459 : xd m_La_law 459 (.iconst 0) 1 460 := ⟨by decide +kernel, rfl⟩
theorem D_La_law_460 : xd m_La_law 460 (.ireturn) 1 461 := ⟨by decide +kernel, rfl⟩
theorem D_La_law_461 : xd m_La_law 461 (.goto 724) 3 464 := ⟨by decide +kernel, rfl⟩
theorem D_La_law_464 : xd m_La_law 464 (.aload_n 1) 1 465 := ⟨by decide +kernel, rfl⟩
theorem D_La_law_465 : xd m_La_law 465 (.aload_n 0) 1 466 := ⟨by decide +kernel, rfl⟩
theorem D_La_law_466 : xd m_La_law 466 (.iload 4) 2 468 := ⟨by decide +kernel, rfl⟩
theorem D_La_law_468 : xd m_La_law 468 (.iconst 1) 1 469 := ⟨by decide +kernel, rfl⟩
theorem D_La_law_469 : xd m_La_law 469 (.iadd) 1 470 := ⟨by decide +kernel, rfl⟩
theorem D_La_law_470 : xd m_La_law 470 (.iaload) 1 471 := ⟨by decide +kernel, rfl⟩
theorem D_La_law_471 : xd m_La_law 471 (.aload_n 0) 1 472 := ⟨by decide +kernel, rfl⟩
theorem D_La_law_472 : xd m_La_law 472 (.iload 4) 2 474 := ⟨by decide +kernel, rfl⟩
theorem D_La_law_474 : xd m_La_law 474 (.iconst 2) 1 475 := ⟨by decide +kernel, rfl⟩
theorem D_La_law_475 : xd m_La_law 475 (.iadd) 1 476 := ⟨by decide +kernel, rfl⟩
theorem D_La_law_476 : xd m_La_law 476 (.iaload) 1 477 := ⟨by decide +kernel, rfl⟩
theorem D_La_law_477 : xd m_La_law 477 (.aload_n 0) 1 478 := ⟨by decide +kernel, rfl⟩
theorem D_La_law_478 : xd m_La_law 478 (.iload 4) 2 480 := ⟨by decide +kernel, rfl⟩
theorem D_La_law_480 : xd m_La_law 480 (.iconst 3) 1 481 := ⟨by decide +kernel, rfl⟩
theorem D_La_law_481 : xd m_La_law 481 (.iadd) 1 482 := ⟨by decide +kernel, rfl⟩
theorem D_La_law_482 : xd m_La_law 482 (.iaload) 1 483 := ⟨by decide +kernel, rfl⟩
theorem D_La_law_483 : xd m_La_law 483 (.aload_n 0) 1 484 := ⟨by decide +kernel, rfl⟩
theorem D_La_law_484 : xd m_La_law 484 (.iload 4) 2 486 := ⟨by decide +kernel, rfl⟩
theorem D_La_law_486 : xd m_La_law 486 (.iconst 4) 1 487 := ⟨by decide +kernel, rfl⟩
theorem D_La_law_487 : xd m_La_law 487 (.iadd) 1 488 := ⟨by decide +kernel, rfl⟩
theorem D_La_law_488 : xd m_La_law 488 (.iaload) 1 489 := ⟨by decide +kernel, rfl⟩
theorem D_La_law_489 : xd m_La_law 489 (.aload_n 3) 1 490 := ⟨by decide +kernel, rfl⟩
theorem D_La_law_490 : xd m_La_law 490 (.invokestatic 91) 3 493 := ⟨by decide +kernel, rfl⟩
theorem D_La_law_493 : xd m_La_law 493 (.istore 5) 2 495 := ⟨by decide +kernel, rfl⟩
theorem D_La_law_495 : xd m_La_law 495 (.aload_n 2) 1 496 := ⟨by decide +kernel, rfl⟩
theorem D_La_law_496 : xd m_La_law 496 (.aload_n 0) 1 497 := ⟨by decide +kernel, rfl⟩
theorem D_La_law_497 : xd m_La_law 497 (.iload 4) 2 499 := ⟨by decide +kernel, rfl⟩
theorem D_La_law_499 : xd m_La_law 499 (.iconst 1) 1 500 := ⟨by decide +kernel, rfl⟩
theorem D_La_law_500 : xd m_La_law 500 (.iadd) 1 501 := ⟨by decide +kernel, rfl⟩
theorem D_La_law_501 : xd m_La_law 501 (.iaload) 1 502 := ⟨by decide +kernel, rfl⟩
theorem D_La_law_502 : xd m_La_law 502 (.aload_n 0) 1 503 := ⟨by decide +kernel, rfl⟩
theorem D_La_law_503 : xd m_La_law 503 (.iload 4) 2 505 := ⟨by decide +kernel, rfl⟩
theorem D_La_law_505 : xd m_La_law 505 (.iconst 2) 1 506 := ⟨by decide +kernel, rfl⟩
theorem D_La_law_506 : xd m_La_law 506 (.iadd) 1 507 := ⟨by decide +kernel, rfl⟩
theorem D_La_law_507 : xd m_La_law 507 (.iaload) 1 508 := ⟨by decide +kernel, rfl⟩
theorem D_La_law_508 : xd m_La_law 508 (.aload_n 0) 1 509 := ⟨by decide +kernel, rfl⟩
theorem D_La_law_509 : xd m_La_law 509 (.iload 4) 2 511 := ⟨by decide +kernel, rfl⟩
theorem D_La_law_511 : xd m_La_law 511 (.iconst 3) 1 512 := ⟨by decide +kernel, rfl⟩
theorem D_La_law_512 : xd m_La_law 512 (.iadd) 1 513 := ⟨by decide +kernel, rfl⟩
theorem D_La_law_513 : xd m_La_law 513 (.iaload) 1 514 := ⟨by decide +kernel, rfl⟩
theorem D_La_law_514 : xd m_La_law 514 (.aload_n 0) 1 515 := ⟨by decide +kernel, rfl⟩
theorem D_La_law_515 : xd m_La_law 515 (.iload 4) 2 517 := ⟨by decide +kernel, rfl⟩
theorem D_La_law_517 : xd m_La_law 517 (.iconst 4) 1 518 := ⟨by decide +kernel, rfl⟩
theorem D_La_law_518 : xd m_La_law 518 (.iadd) 1 519 := ⟨by decide +kernel, rfl⟩
theorem D_La_law_519 : xd m_La_law 519 (.iaload) 1 520 := ⟨by decide +kernel, rfl⟩
theorem D_La_law_520 : xd m_La_law 520 (.invokevirtual 94) 3 523 := ⟨by decide +kernel, rfl⟩
theorem D_La_law_523 : xd m_La_law 523 (.istore 6) 2 525 := ⟨by decide +kernel, rfl⟩
theorem D_La_law_525 : xd m_La_law 525 (.aload_n 2) 1 526 := ⟨by decide +kernel, rfl⟩
theorem D_La_law_526 : xd m_La_law 526 (.invokevirtual 77) 3 529 := ⟨by decide +kernel, rfl⟩
theorem D_La_law_529 : xd m_La_law 529 (.iload 5) 2 531 := ⟨by decide +kernel, rfl⟩
theorem D_La_law_531 : xd m_La_law 531 (.if_icmp .eq 5) 3 534 := ⟨by decide +kernel, rfl⟩
theorem D_La_law_534 : xd m_La_law 534 (.iconst 0) 1 535 := ⟨by decide +kernel, rfl⟩
theorem D_La_law_535 : xd m_La_law 535 (.ireturn) 1 536 := ⟨by decide +kernel, rfl⟩
theorem D_La_law_536 : xd m_La_law 536 (.iload 5) 2 538 := ⟨by decide +kernel, rfl⟩
theorem D_La_law_538 : xd m_La_law 538 (.ifCond .ne 15) 3 541 := ⟨by decide +kernel, rfl⟩
theorem D_La_law_541 : xd m_La_law 541 (.aload_n 3) 1 542 := ⟨by decide +kernel, rfl⟩
theorem D_La_law_542 : xd m_La_law 542 (.iconst 0) 1 543 := ⟨by decide +kernel, rfl⟩
theorem D_La_law_543 : xd m_La_law 543 (.laload) 1 544 := ⟨by decide +kernel, rfl⟩
theorem D_La_law_544 : xd m_La_law 544 (.iload 6) 2 546 := ⟨by decide +kernel, rfl⟩
theorem D_La_law_546 : xd m_La_law 546 (.i2l) 1 547 := ⟨by decide +kernel, rfl⟩
theorem D_La_law_547 : xd m_La_law 547 (.lcmp) 1 548 := ⟨by decide +kernel, rfl⟩
theorem D_La_law_548 : xd m_La_law 548 (.ifCond .eq 5) 3 551 := ⟨by decide +kernel, rfl⟩
theorem D_La_law_551 : xd m_La_law 551 (.iconst 0) 1 552 := ⟨by decide +kernel, rfl⟩
theorem D_La_law_552 : xd m_La_law 552 (.ireturn) 1 553 := ⟨by decide +kernel, rfl⟩
theorem D_La_law_553 : xd m_La_law 553 (.goto 632) 3 556 := ⟨by decide +kernel, rfl⟩
theorem D_La_law_556 : xd m_La_law 556 (.aload_n 1) 1 557 := ⟨by decide +kernel, rfl⟩
theorem D_La_law_557 : xd m_La_law 557 (.aload_n 0) 1 558 := ⟨by decide +kernel, rfl⟩
theorem D_La_law_558 : xd m_La_law 558 (.iload 4) 2 560 := ⟨by decide +kernel, rfl⟩
theorem D_La_law_560 : xd m_La_law 560 (.iconst 1) 1 561 := ⟨by decide +kernel, rfl⟩
theorem D_La_law_561 : xd m_La_law 561 (.iadd) 1 562 := ⟨by decide +kernel, rfl⟩
theorem D_La_law_562 : xd m_La_law 562 (.iaload) 1 563 := ⟨by decide +kernel, rfl⟩
theorem D_La_law_563 : xd m_La_law 563 (.aload_n 0) 1 564 := ⟨by decide +kernel, rfl⟩
theorem D_La_law_564 : xd m_La_law 564 (.iload 4) 2 566 := ⟨by decide +kernel, rfl⟩
theorem D_La_law_566 : xd m_La_law 566 (.iconst 2) 1 567 := ⟨by decide +kernel, rfl⟩
theorem D_La_law_567 : xd m_La_law 567 (.iadd) 1 568 := ⟨by decide +kernel, rfl⟩
theorem D_La_law_568 : xd m_La_law 568 (.iaload) 1 569 := ⟨by decide +kernel, rfl⟩
theorem D_La_law_569 : xd m_La_law 569 (.aload_n 0) 1 570 := ⟨by decide +kernel, rfl⟩
theorem D_La_law_570 : xd m_La_law 570 (.iload 4) 2 572 := ⟨by decide +kernel, rfl⟩
theorem D_La_law_572 : xd m_La_law 572 (.iconst 3) 1 573 := ⟨by decide +kernel, rfl⟩
theorem D_La_law_573 : xd m_La_law 573 (.iadd) 1 574 := ⟨by decide +kernel, rfl⟩
theorem D_La_law_574 : xd m_La_law 574 (.iaload) 1 575 := ⟨by decide +kernel, rfl⟩
theorem D_La_law_575 : xd m_La_law 575 (.aload_n 0) 1 576 := ⟨by decide +kernel, rfl⟩
theorem D_La_law_576 : xd m_La_law 576 (.iload 4) 2 578 := ⟨by decide +kernel, rfl⟩
theorem D_La_law_578 : xd m_La_law 578 (.iconst 4) 1 579 := ⟨by decide +kernel, rfl⟩
theorem D_La_law_579 : xd m_La_law 579 (.iadd) 1 580 := ⟨by decide +kernel, rfl⟩
theorem D_La_law_580 : xd m_La_law 580 (.iaload) 1 581 := ⟨by decide +kernel, rfl⟩
theorem D_La_law_581 : xd m_La_law 581 (.aload_n 3) 1 582 := ⟨by decide +kernel, rfl⟩
theorem D_La_law_582 : xd m_La_law 582 (.invokestatic 95) 3 585 := ⟨by decide +kernel, rfl⟩
theorem D_La_law_585 : xd m_La_law 585 (.istore 5) 2 587 := ⟨by decide +kernel, rfl⟩
theorem D_La_law_587 : xd m_La_law 587 (.aload_n 2) 1 588 := ⟨by decide +kernel, rfl⟩
theorem D_La_law_588 : xd m_La_law 588 (.aload_n 0) 1 589 := ⟨by decide +kernel, rfl⟩
theorem D_La_law_589 : xd m_La_law 589 (.iload 4) 2 591 := ⟨by decide +kernel, rfl⟩
theorem D_La_law_591 : xd m_La_law 591 (.iconst 1) 1 592 := ⟨by decide +kernel, rfl⟩
theorem D_La_law_592 : xd m_La_law 592 (.iadd) 1 593 := ⟨by decide +kernel, rfl⟩
theorem D_La_law_593 : xd m_La_law 593 (.iaload) 1 594 := ⟨by decide +kernel, rfl⟩
theorem D_La_law_594 : xd m_La_law 594 (.aload_n 0) 1 595 := ⟨by decide +kernel, rfl⟩
theorem D_La_law_595 : xd m_La_law 595 (.iload 4) 2 597 := ⟨by decide +kernel, rfl⟩
theorem D_La_law_597 : xd m_La_law 597 (.iconst 2) 1 598 := ⟨by decide +kernel, rfl⟩
theorem D_La_law_598 : xd m_La_law 598 (.iadd) 1 599 := ⟨by decide +kernel, rfl⟩
theorem D_La_law_599 : xd m_La_law 599 (.iaload) 1 600 := ⟨by decide +kernel, rfl⟩
theorem D_La_law_600 : xd m_La_law 600 (.aload_n 0) 1 601 := ⟨by decide +kernel, rfl⟩
theorem D_La_law_601 : xd m_La_law 601 (.iload 4) 2 603 := ⟨by decide +kernel, rfl⟩
theorem D_La_law_603 : xd m_La_law 603 (.iconst 3) 1 604 := ⟨by decide +kernel, rfl⟩
theorem D_La_law_604 : xd m_La_law 604 (.iadd) 1 605 := ⟨by decide +kernel, rfl⟩
theorem D_La_law_605 : xd m_La_law 605 (.iaload) 1 606 := ⟨by decide +kernel, rfl⟩
theorem D_La_law_606 : xd m_La_law 606 (.aload_n 0) 1 607 := ⟨by decide +kernel, rfl⟩
theorem D_La_law_607 : xd m_La_law 607 (.iload 4) 2 609 := ⟨by decide +kernel, rfl⟩
theorem D_La_law_609 : xd m_La_law 609 (.iconst 4) 1 610 := ⟨by decide +kernel, rfl⟩
theorem D_La_law_610 : xd m_La_law 610 (.iadd) 1 611 := ⟨by decide +kernel, rfl⟩
theorem D_La_law_611 : xd m_La_law 611 (.iaload) 1 612 := ⟨by decide +kernel, rfl⟩
theorem D_La_law_612 : xd m_La_law 612 (.invokevirtual 97) 3 615 := ⟨by decide +kernel, rfl⟩
theorem D_La_law_615 : xd m_La_law 615 (.istore 6) 2 617 := ⟨by decide +kernel, rfl⟩
theorem D_La_law_617 : xd m_La_law 617 (.aload_n 2) 1 618 := ⟨by decide +kernel, rfl⟩
theorem D_La_law_618 : xd m_La_law 618 (.invokevirtual 77) 3 621 := ⟨by decide +kernel, rfl⟩
theorem D_La_law_621 : xd m_La_law 621 (.iload 5) 2 623 := ⟨by decide +kernel, rfl⟩
theorem D_La_law_623 : xd m_La_law 623 (.if_icmp .eq 5) 3 626 := ⟨by decide +kernel, rfl⟩
theorem D_La_law_626 : xd m_La_law 626 (.iconst 0) 1 627 := ⟨by decide +kernel, rfl⟩
theorem D_La_law_627 : xd m_La_law 627 (.ireturn) 1 628 := ⟨by decide +kernel, rfl⟩
theorem D_La_law_628 : xd m_La_law 628 (.iload 5) 2 630 := ⟨by decide +kernel, rfl⟩
theorem D_La_law_630 : xd m_La_law 630 (.ifCond .ne 15) 3 633 := ⟨by decide +kernel, rfl⟩
theorem D_La_law_633 : xd m_La_law 633 (.aload_n 3) 1 634 := ⟨by decide +kernel, rfl⟩
theorem D_La_law_634 : xd m_La_law 634 (.iconst 0) 1 635 := ⟨by decide +kernel, rfl⟩
theorem D_La_law_635 : xd m_La_law 635 (.laload) 1 636 := ⟨by decide +kernel, rfl⟩
theorem D_La_law_636 : xd m_La_law 636 (.iload 6) 2 638 := ⟨by decide +kernel, rfl⟩
theorem D_La_law_638 : xd m_La_law 638 (.i2l) 1 639 := ⟨by decide +kernel, rfl⟩
theorem D_La_law_639 : xd m_La_law 639 (.lcmp) 1 640 := ⟨by decide +kernel, rfl⟩
theorem D_La_law_640 : xd m_La_law 640 (.ifCond .eq 5) 3 643 := ⟨by decide +kernel, rfl⟩
theorem D_La_law_643 : xd m_La_law 643 (.iconst 0) 1 644 := ⟨by decide +kernel, rfl⟩
theorem D_La_law_644 : xd m_La_law 644 (.ireturn) 1 645 := ⟨by decide +kernel, rfl⟩
theorem D_La_law_645 : xd m_La_law 645 (.goto 540) 3 648 := ⟨by decide +kernel, rfl⟩
theorem D_La_law_648 : xd m_La_law 648 (.aload_n 1) 1 649 := ⟨by decide +kernel, rfl⟩
theorem D_La_law_649 : xd m_La_law 649 (.aload_n 3) 1 650 := ⟨by decide +kernel, rfl⟩
theorem D_La_law_650 : xd m_La_law 650 (.invokestatic 98) 3 653 := ⟨by decide +kernel, rfl⟩
theorem D_La_law_653 : xd m_La_law 653 (.istore 5) 2 655 := ⟨by decide +kernel, rfl⟩
theorem D_La_law_655 : xd m_La_law 655 (.aload_n 2) 1 656 := ⟨by decide +kernel, rfl⟩
theorem D_La_law_656 : xd m_La_law 656 (.invokevirtual 101) 3 659 := ⟨by decide +kernel, rfl⟩
theorem D_La_law_659 : xd m_La_law 659 (.istore 6) 2 661 := ⟨by decide +kernel, rfl⟩
theorem D_La_law_661 : xd m_La_law 661 (.aload_n 2) 1 662 := ⟨by decide +kernel, rfl⟩
theorem D_La_law_662 : xd m_La_law 662 (.invokevirtual 77) 3 665 := ⟨by decide +kernel, rfl⟩
theorem D_La_law_665 : xd m_La_law 665 (.iload 5) 2 667 := ⟨by decide +kernel, rfl⟩
theorem D_La_law_667 : xd m_La_law 667 (.if_icmp .eq 5) 3 670 := ⟨by decide +kernel, rfl⟩
theorem D_La_law_670 : xd m_La_law 670 (.iconst 0) 1 671 := ⟨by decide +kernel, rfl⟩
theorem D_La_law_671 : xd m_La_law 671 (.ireturn) 1 672 := ⟨by decide +kernel, rfl⟩
theorem D_La_law_672 : xd m_La_law 672 (.iload 5) 2 674 := ⟨by decide +kernel, rfl⟩
theorem D_La_law_674 : xd m_La_law 674 (.ifCond .ne 15) 3 677 := ⟨by decide +kernel, rfl⟩
theorem D_La_law_677 : xd m_La_law 677 (.aload_n 3) 1 678 := ⟨by decide +kernel, rfl⟩
theorem D_La_law_678 : xd m_La_law 678 (.iconst 0) 1 679 := ⟨by decide +kernel, rfl⟩
theorem D_La_law_679 : xd m_La_law 679 (.laload) 1 680 := ⟨by decide +kernel, rfl⟩
theorem D_La_law_680 : xd m_La_law 680 (.iload 6) 2 682 := ⟨by decide +kernel, rfl⟩
theorem D_La_law_682 : xd m_La_law 682 (.i2l) 1 683 := ⟨by decide +kernel, rfl⟩
theorem D_La_law_683 : xd m_La_law 683 (.lcmp) 1 684 := ⟨by decide +kernel, rfl⟩
theorem D_La_law_684 : xd m_La_law 684 (.ifCond .eq 5) 3 687 := ⟨by decide +kernel, rfl⟩
theorem D_La_law_687 : xd m_La_law 687 (.iconst 0) 1 688 := ⟨by decide +kernel, rfl⟩
theorem D_La_law_688 : xd m_La_law 688 (.ireturn) 1 689 := ⟨by decide +kernel, rfl⟩
theorem D_La_law_689 : xd m_La_law 689 (.goto 496) 3 692 := ⟨by decide +kernel, rfl⟩
theorem D_La_law_692 : xd m_La_law 692 (.aload_n 1) 1 693 := ⟨by decide +kernel, rfl⟩
theorem D_La_law_693 : xd m_La_law 693 (.aload_n 3) 1 694 := ⟨by decide +kernel, rfl⟩
theorem D_La_law_694 : xd m_La_law 694 (.invokestatic 102) 3 697 := ⟨by decide +kernel, rfl⟩
theorem D_La_law_697 : xd m_La_law 697 (.istore 5) 2 699 := ⟨by decide +kernel, rfl⟩
theorem D_La_law_699 : xd m_La_law 699 (.aload_n 2) 1 700 := ⟨by decide +kernel, rfl⟩
theorem D_La_law_700 : xd m_La_law 700 (.invokevirtual 104) 3 703 := ⟨by decide +kernel, rfl⟩
theorem D_La_law_703 : xd m_La_law 703 (.istore 6) 2 705 := ⟨by decide +kernel, rfl⟩
theorem D_La_law_705 : xd m_La_law 705 (.aload_n 2) 1 706 := ⟨by decide +kernel, rfl⟩
theorem D_La_law_706 : xd m_La_law 706 (.invokevirtual 77) 3 709 := ⟨by decide +kernel, rfl⟩
theorem D_La_law_709 : xd m_La_law 709 (.iload 5) 2 711 := ⟨by decide +kernel, rfl⟩
theorem D_La_law_711 : xd m_La_law 711 (.if_icmp .eq 5) 3 714 := ⟨by decide +kernel, rfl⟩
theorem D_La_law_714 : xd m_La_law 714 (.iconst 0) 1 715 := ⟨by decide +kernel, rfl⟩
theorem D_La_law_715 : xd m_La_law 715 (.ireturn) 1 716 := ⟨by decide +kernel, rfl⟩
theorem D_La_law_716 : xd m_La_law 716 (.iload 5) 2 718 := ⟨by decide +kernel, rfl⟩
theorem D_La_law_718 : xd m_La_law 718 (.ifCond .ne 15) 3 721 := ⟨by decide +kernel, rfl⟩
theorem D_La_law_721 : xd m_La_law 721 (.aload_n 3) 1 722 := ⟨by decide +kernel, rfl⟩
theorem D_La_law_722 : xd m_La_law 722 (.iconst 0) 1 723 := ⟨by decide +kernel, rfl⟩
theorem D_La_law_723 : xd m_La_law 723 (.laload) 1 724 := ⟨by decide +kernel, rfl⟩
theorem D_La_law_724 : xd m_La_law 724 (.iload 6) 2 726 := ⟨by decide +kernel, rfl⟩
theorem D_La_law_726 : xd m_La_law 726 (.i2l) 1 727 := ⟨by decide +kernel, rfl⟩
theorem D_La_law_727 : xd m_La_law 727 (.lcmp) 1 728 := ⟨by decide +kernel, rfl⟩
theorem D_La_law_728 : xd m_La_law 728 (.ifCond .eq 5) 3 731 := ⟨by decide +kernel, rfl⟩
theorem D_La_law_731 : xd m_La_law 731 (.iconst 0) 1 732 := ⟨by decide +kernel, rfl⟩
theorem D_La_law_732 : xd m_La_law 732 (.ireturn) 1 733 := ⟨by decide +kernel, rfl⟩
theorem D_La_law_733 : xd m_La_law 733 (.goto 452) 3 736 := ⟨by decide +kernel, rfl⟩
theorem D_La_law_736 : xd m_La_law 736 (.aload_n 1) 1 737 := ⟨by decide +kernel, rfl⟩
theorem D_La_law_737 : xd m_La_law 737 (.invokevirtual 105) 3 740 := ⟨by decide +kernel, rfl⟩
theorem D_La_law_740 : xd m_La_law 740 (.aload_n 2) 1 741 := ⟨by decide +kernel, rfl⟩
theorem D_La_law_741 : xd m_La_law 741 (.invokevirtual 108) 3 744 := ⟨by decide +kernel, rfl⟩
theorem D_La_law_744 : xd m_La_law 744 (.if_icmp .eq 441) 3 747 := ⟨by decide +kernel, rfl⟩
theorem D_La_law_747 : xd m_La_law 747 (.iconst 0) 1 748 := ⟨by decide +kernel, rfl⟩
theorem D_La_law_748 : xd m_La_law 748 (.ireturn) 1 749 := ⟨by decide +kernel, rfl⟩
theorem D_La_law_749 : xd m_La_law 749 (.aload_n 1) 1 750 := ⟨by decide +kernel, rfl⟩
theorem D_La_law_750 : xd m_La_law 750 (.aload_n 0) 1 751 := ⟨by decide +kernel, rfl⟩
theorem D_La_law_751 : xd m_La_law 751 (.iload 4) 2 753 := ⟨by decide +kernel, rfl⟩
theorem D_La_law_753 : xd m_La_law 753 (.iconst 1) 1 754 := ⟨by decide +kernel, rfl⟩
theorem D_La_law_754 : xd m_La_law 754 (.iadd) 1 755 := ⟨by decide +kernel, rfl⟩
theorem D_La_law_755 : xd m_La_law 755 (.iaload) 1 756 := ⟨by decide +kernel, rfl⟩
theorem D_La_law_756 : xd m_La_law 756 (.aload_n 3) 1 757 := ⟨by decide +kernel, rfl⟩
theorem D_La_law_757 : xd m_La_law 757 (.invokestatic 109) 3 760 := ⟨by decide +kernel, rfl⟩
theorem D_La_law_760 : xd m_La_law 760 (.istore 5) 2 762 := ⟨by decide +kernel, rfl⟩
theorem D_La_law_762 : xd m_La_law 762 (.aload_n 2) 1 763 := ⟨by decide +kernel, rfl⟩
theorem D_La_law_763 : xd m_La_law 763 (.aload_n 0) 1 764 := ⟨by decide +kernel, rfl⟩
theorem D_La_law_764 : xd m_La_law 764 (.iload 4) 2 766 := ⟨by decide +kernel, rfl⟩
theorem D_La_law_766 : xd m_La_law 766 (.iconst 1) 1 767 := ⟨by decide +kernel, rfl⟩
theorem D_La_law_767 : xd m_La_law 767 (.iadd) 1 768 := ⟨by decide +kernel, rfl⟩
theorem D_La_law_768 : xd m_La_law 768 (.iaload) 1 769 := ⟨by decide +kernel, rfl⟩
theorem D_La_law_769 : xd m_La_law 769 (.invokevirtual 112) 3 772 := ⟨by decide +kernel, rfl⟩
theorem D_La_law_772 : xd m_La_law 772 (.istore 6) 2 774 := ⟨by decide +kernel, rfl⟩
theorem D_La_law_774 : xd m_La_law 774 (.aload_n 2) 1 775 := ⟨by decide +kernel, rfl⟩
theorem D_La_law_775 : xd m_La_law 775 (.invokevirtual 77) 3 778 := ⟨by decide +kernel, rfl⟩
theorem D_La_law_778 : xd m_La_law 778 (.iload 5) 2 780 := ⟨by decide +kernel, rfl⟩
theorem D_La_law_780 : xd m_La_law 780 (.if_icmp .eq 5) 3 783 := ⟨by decide +kernel, rfl⟩
theorem D_La_law_783 : xd m_La_law 783 (.iconst 0) 1 784 := ⟨by decide +kernel, rfl⟩
theorem D_La_law_784 : xd m_La_law 784 (.ireturn) 1 785 := ⟨by decide +kernel, rfl⟩
theorem D_La_law_785 : xd m_La_law 785 (.iload 5) 2 787 := ⟨by decide +kernel, rfl⟩
theorem D_La_law_787 : xd m_La_law 787 (.ifCond .ne 15) 3 790 := ⟨by decide +kernel, rfl⟩
theorem D_La_law_790 : xd m_La_law 790 (.aload_n 3) 1 791 := ⟨by decide +kernel, rfl⟩
theorem D_La_law_791 : xd m_La_law 791 (.iconst 0) 1 792 := ⟨by decide +kernel, rfl⟩
theorem D_La_law_792 : xd m_La_law 792 (.laload) 1 793 := ⟨by decide +kernel, rfl⟩
theorem D_La_law_793 : xd m_La_law 793 (.iload 6) 2 795 := ⟨by decide +kernel, rfl⟩
theorem D_La_law_795 : xd m_La_law 795 (.i2l) 1 796 := ⟨by decide +kernel, rfl⟩
theorem D_La_law_796 : xd m_La_law 796 (.lcmp) 1 797 := ⟨by decide +kernel, rfl⟩
theorem D_La_law_797 : xd m_La_law 797 (.ifCond .eq 5) 3 800 := ⟨by decide +kernel, rfl⟩
theorem D_La_law_800 : xd m_La_law 800 (.iconst 0) 1 801 := ⟨by decide +kernel, rfl⟩
theorem D_La_law_801 : xd m_La_law 801 (.ireturn) 1 802 := ⟨by decide +kernel, rfl⟩
theorem D_La_law_802 : xd m_La_law 802 (.goto 383) 3 805 := ⟨by decide +kernel, rfl⟩
theorem D_La_law_805 : xd m_La_law 805 (.aload_n 1) 1 806 := ⟨by decide +kernel, rfl⟩
theorem D_La_law_806 : xd m_La_law 806 (.aload_n 0) 1 807 := ⟨by decide +kernel, rfl⟩
theorem D_La_law_807 : xd m_La_law 807 (.iload 4) 2 809 := ⟨by decide +kernel, rfl⟩
theorem D_La_law_809 : xd m_La_law 809 (.iconst 1) 1 810 := ⟨by decide +kernel, rfl⟩
theorem D_La_law_810 : xd m_La_law 810 (.iadd) 1 811 := ⟨by decide +kernel, rfl⟩
theorem D_La_law_811 : xd m_La_law 811 (.iaload) 1 812 := ⟨by decide +kernel, rfl⟩
theorem D_La_law_812 : xd m_La_law 812 (.i2l) 1 813 := ⟨by decide +kernel, rfl⟩
theorem D_La_law_813 : xd m_La_law 813 (.bipush 32) 2 815 := ⟨by decide +kernel, rfl⟩
theorem D_La_law_815 : xd m_La_law 815 (.lshl) 1 816 := ⟨by decide +kernel, rfl⟩
theorem D_La_law_816 : xd m_La_law 816 (.aload_n 0) 1 817 := ⟨by decide +kernel, rfl⟩
theorem D_La_law_817 : xd m_La_law 817 (.iload 4) 2 819 := ⟨by decide +kernel, rfl⟩
theorem D_La_law_819 : xd m_La_law 819 (.iconst 2) 1 820 := ⟨by decide +kernel, rfl⟩
theorem D_La_law_820 : xd m_La_law 820 (.iadd) 1 821 := ⟨by decide +kernel, rfl⟩
theorem D_La_law_821 : xd m_La_law 821 (.iaload) 1 822 := ⟨by decide +kernel, rfl⟩
theorem D_La_law_822 : xd m_La_law 822 (.i2l) 1 823 := ⟨by decide +kernel, rfl⟩
theorem D_La_law_823 : xd m_La_law 823 (.ldc2_w 69) 3 826 := ⟨by decide +kernel, rfl⟩
theorem D_La_law_826 : xd m_La_law 826 (.land) 1 827 := ⟨by decide +kernel, rfl⟩
theorem D_La_law_827 : xd m_La_law 827 (.lor) 1 828 := ⟨by decide +kernel, rfl⟩
theorem D_La_law_828 : xd m_La_law 828 (.aload_n 0) 1 829 := ⟨by decide +kernel, rfl⟩
theorem D_La_law_829 : xd m_La_law 829 (.iload 4) 2 831 := ⟨by decide +kernel, rfl⟩
theorem D_La_law_831 : xd m_La_law 831 (.iconst 3) 1 832 := ⟨by decide +kernel, rfl⟩
theorem D_La_law_832 : xd m_La_law 832 (.iadd) 1 833 := ⟨by decide +kernel, rfl⟩
theorem D_La_law_833 : xd m_La_law 833 (.iaload) 1 834 := ⟨by decide +kernel, rfl⟩
theorem D_La_law_834 : xd m_La_law 834 (.invokevirtual 113) 3 837 := ⟨by decide +kernel, rfl⟩
theorem D_La_law_837 : xd m_La_law 837 (.aload_n 2) 1 838 := ⟨by decide +kernel, rfl⟩
theorem D_La_law_838 : xd m_La_law 838 (.aload_n 0) 1 839 := ⟨by decide +kernel, rfl⟩
theorem D_La_law_839 : xd m_La_law 839 (.iload 4) 2 841 := ⟨by decide +kernel, rfl⟩
theorem D_La_law_841 : xd m_La_law 841 (.iconst 1) 1 842 := ⟨by decide +kernel, rfl⟩
theorem D_La_law_842 : xd m_La_law 842 (.iadd) 1 843 := ⟨by decide +kernel, rfl⟩
theorem D_La_law_843 : xd m_La_law 843 (.iaload) 1 844 := ⟨by decide +kernel, rfl⟩
theorem D_La_law_844 : xd m_La_law 844 (.i2l) 1 845 := ⟨by decide +kernel, rfl⟩
theorem D_La_law_845 : xd m_La_law 845 (.bipush 32) 2 847 := ⟨by decide +kernel, rfl⟩
theorem D_La_law_847 : xd m_La_law 847 (.lshl) 1 848 := ⟨by decide +kernel, rfl⟩
theorem D_La_law_848 : xd m_La_law 848 (.aload_n 0) 1 849 := ⟨by decide +kernel, rfl⟩
theorem D_La_law_849 : xd m_La_law 849 (.iload 4) 2 851 := ⟨by decide +kernel, rfl⟩
theorem D_La_law_851 : xd m_La_law 851 (.iconst 2) 1 852 := ⟨by decide +kernel, rfl⟩
theorem D_La_law_852 : xd m_La_law 852 (.iadd) 1 853 := ⟨by decide +kernel, rfl⟩
theorem D_La_law_853 : xd m_La_law 853 (.iaload) 1 854 := ⟨by decide +kernel, rfl⟩
theorem D_La_law_854 : xd m_La_law 854 (.i2l) 1 855 := ⟨by decide +kernel, rfl⟩
theorem D_La_law_855 : xd m_La_law 855 (.ldc2_w 69) 3 858 := ⟨by decide +kernel, rfl⟩
theorem D_La_law_858 : xd m_La_law 858 (.land) 1 859 := ⟨by decide +kernel, rfl⟩
theorem D_La_law_859 : xd m_La_law 859 (.lor) 1 860 := ⟨by decide +kernel, rfl⟩
theorem D_La_law_860 : xd m_La_law 860 (.aload_n 0) 1 861 := ⟨by decide +kernel, rfl⟩
theorem D_La_law_861 : xd m_La_law 861 (.iload 4) 2 863 := ⟨by decide +kernel, rfl⟩
theorem D_La_law_863 : xd m_La_law 863 (.iconst 3) 1 864 := ⟨by decide +kernel, rfl⟩
theorem D_La_law_864 : xd m_La_law 864 (.iadd) 1 865 := ⟨by decide +kernel, rfl⟩
theorem D_La_law_865 : xd m_La_law 865 (.iaload) 1 866 := ⟨by decide +kernel, rfl⟩
theorem D_La_law_866 : xd m_La_law 866 (.invokevirtual 117) 3 869 := ⟨by decide +kernel, rfl⟩
theorem D_La_law_869 : xd m_La_law 869 (.if_icmp .eq 316) 3 872 := ⟨by decide +kernel, rfl⟩
theorem D_La_law_872 : xd m_La_law 872 (.iconst 0) 1 873 := ⟨by decide +kernel, rfl⟩
theorem D_La_law_873 : xd m_La_law 873 (.ireturn) 1 874 := ⟨by decide +kernel, rfl⟩
theorem D_La_law_874 : xd m_La_law 874 (.aload_n 1) 1 875 := ⟨by decide +kernel, rfl⟩
theorem D_La_law_875 : xd m_La_law 875 (.aload_n 0) 1 876 := ⟨by decide +kernel, rfl⟩
theorem D_La_law_876 : xd m_La_law 876 (.iload 4) 2 878 := ⟨by decide +kernel, rfl⟩
theorem D_La_law_878 : xd m_La_law 878 (.iconst 1) 1 879 := ⟨by decide +kernel, rfl⟩
theorem D_La_law_879 : xd m_La_law 879 (.iadd) 1 880 := ⟨by decide +kernel, rfl⟩
theorem D_La_law_880 : xd m_La_law 880 (.iaload) 1 881 := ⟨by decide +kernel, rfl⟩
theorem D_La_law_881 : xd m_La_law 881 (.invokevirtual 118) 3 884 := ⟨by decide +kernel, rfl⟩
theorem D_La_law_884 : xd m_La_law 884 (.aload_n 2) 1 885 := ⟨by decide +kernel, rfl⟩
theorem D_La_law_885 : xd m_La_law 885 (.aload_n 0) 1 886 := ⟨by decide +kernel, rfl⟩
theorem D_La_law_886 : xd m_La_law 886 (.iload 4) 2 888 := ⟨by decide +kernel, rfl⟩
theorem D_La_law_888 : xd m_La_law 888 (.iconst 1) 1 889 := ⟨by decide +kernel, rfl⟩
theorem D_La_law_889 : xd m_La_law 889 (.iadd) 1 890 := ⟨by decide +kernel, rfl⟩
theorem D_La_law_890 : xd m_La_law 890 (.iaload) 1 891 := ⟨by decide +kernel, rfl⟩
theorem D_La_law_891 : xd m_La_law 891 (.invokevirtual 122) 3 894 := ⟨by decide +kernel, rfl⟩
theorem D_La_law_894 : xd m_La_law 894 (.if_icmp .eq 291) 3 897 := ⟨by decide +kernel, rfl⟩
theorem D_La_law_897 : xd m_La_law 897 (.iconst 0) 1 898 := ⟨by decide +kernel, rfl⟩
theorem D_La_law_898 : xd m_La_law 898 (.ireturn) 1 899 := ⟨by decide +kernel, rfl⟩
theorem D_La_law_899 : xd m_La_law 899 (.aload_n 1) 1 900 := ⟨by decide +kernel, rfl⟩
theorem D_La_law_900 : xd m_La_law 900 (.invokevirtual 123) 3 903 := ⟨by decide +kernel, rfl⟩
theorem D_La_law_903 : xd m_La_law 903 (.aload_n 2) 1 904 := ⟨by decide +kernel, rfl⟩
theorem D_La_law_904 : xd m_La_law 904 (.invokevirtual 126) 3 907 := ⟨by decide +kernel, rfl⟩
theorem D_La_law_907 : xd m_La_law 907 (.if_icmp .eq 278) 3 910 := ⟨by decide +kernel, rfl⟩
theorem D_La_law_910 : xd m_La_law 910 (.iconst 0) 1 911 := ⟨by decide +kernel, rfl⟩
theorem D_La_law_911 : xd m_La_law 911 (.ireturn) 1 912 := ⟨by decide +kernel, rfl⟩
theorem D_La_law_912 : xd m_La_law 912 (.aload_n 1) 1 913 := ⟨by decide +kernel, rfl⟩
theorem D_La_law_913 : xd m_La_law 913 (.invokevirtual 127) 3 916 := ⟨by decide +kernel, rfl⟩
theorem D_La_law_916 : xd m_La_law 916 (.aload_n 2) 1 917 := ⟨by decide +kernel, rfl⟩
theorem D_La_law_917 : xd m_La_law 917 (.invokevirtual 130) 3 920 := ⟨by decide +kernel, rfl⟩
theorem D_La_law_920 : xd m_La_law 920 (.if_icmp .eq 265) 3 923 := ⟨by decide +kernel, rfl⟩
theorem D_La_law_923 : xd m_La_law 923 (.iconst 0) 1 924 := ⟨by decide +kernel, rfl⟩
theorem D_La_law_924 : xd m_La_law 924 (.ireturn) 1 925 := ⟨by decide +kernel, rfl⟩
theorem D_La_law_925 : xd m_La_law 925 (.aload_n 1) 1 926 := ⟨by decide +kernel, rfl⟩
theorem D_La_law_926 : xd m_La_law 926 (.aload_n 0) 1 927 := ⟨by decide +kernel, rfl⟩
theorem D_La_law_927 : xd m_La_law 927 (.iload 4) 2 929 := ⟨by decide +kernel, rfl⟩
theorem D_La_law_929 : xd m_La_law 929 (.iconst 1) 1 930 := ⟨by decide +kernel, rfl⟩
theorem D_La_law_930 : xd m_La_law 930 (.iadd) 1 931 := ⟨by decide +kernel, rfl⟩
theorem D_La_law_931 : xd m_La_law 931 (.iaload) 1 932 := ⟨by decide +kernel, rfl⟩
theorem D_La_law_932 : xd m_La_law 932 (.aload_n 3) 1 933 := ⟨by decide +kernel, rfl⟩
theorem D_La_law_933 : xd m_La_law 933 (.invokestatic 131) 3 936 := ⟨by decide +kernel, rfl⟩
theorem D_La_law_936 : xd m_La_law 936 (.istore 5) 2 938 := ⟨by decide +kernel, rfl⟩
theorem D_La_law_938 : xd m_La_law 938 (.aload_n 2) 1 939 := ⟨by decide +kernel, rfl⟩
theorem D_La_law_939 : xd m_La_law 939 (.aload_n 0) 1 940 := ⟨by decide +kernel, rfl⟩
theorem D_La_law_940 : xd m_La_law 940 (.iload 4) 2 942 := ⟨by decide +kernel, rfl⟩
theorem D_La_law_942 : xd m_La_law 942 (.iconst 1) 1 943 := ⟨by decide +kernel, rfl⟩
theorem D_La_law_943 : xd m_La_law 943 (.iadd) 1 944 := ⟨by decide +kernel, rfl⟩
theorem D_La_law_944 : xd m_La_law 944 (.iaload) 1 945 := ⟨by decide +kernel, rfl⟩
theorem D_La_law_945 : xd m_La_law 945 (.invokevirtual 133) 3 948 := ⟨by decide +kernel, rfl⟩
theorem D_La_law_948 : xd m_La_law 948 (.istore 6) 2 950 := ⟨by decide +kernel, rfl⟩
theorem D_La_law_950 : xd m_La_law 950 (.aload_n 2) 1 951 := ⟨by decide +kernel, rfl⟩
theorem D_La_law_951 : xd m_La_law 951 (.invokevirtual 77) 3 954 := ⟨by decide +kernel, rfl⟩
theorem D_La_law_954 : xd m_La_law 954 (.iload 5) 2 956 := ⟨by decide +kernel, rfl⟩
theorem D_La_law_956 : xd m_La_law 956 (.if_icmp .eq 5) 3 959 := ⟨by decide +kernel, rfl⟩
theorem D_La_law_959 : xd m_La_law 959 (.iconst 0) 1 960 := ⟨by decide +kernel, rfl⟩
theorem D_La_law_960 : xd m_La_law 960 (.ireturn) 1 961 := ⟨by decide +kernel, rfl⟩
theorem D_La_law_961 : xd m_La_law 961 (.iload 5) 2 963 := ⟨by decide +kernel, rfl⟩
theorem D_La_law_963 : xd m_La_law 963 (.ifCond .ne 15) 3 966 := ⟨by decide +kernel, rfl⟩
theorem D_La_law_966 : xd m_La_law 966 (.aload_n 3) 1 967 := ⟨by decide +kernel, rfl⟩
theorem D_La_law_967 : xd m_La_law 967 (.iconst 0) 1 968 := ⟨by decide +kernel, rfl⟩
theorem D_La_law_968 : xd m_La_law 968 (.laload) 1 969 := ⟨by decide +kernel, rfl⟩
theorem D_La_law_969 : xd m_La_law 969 (.iload 6) 2 971 := ⟨by decide +kernel, rfl⟩
theorem D_La_law_971 : xd m_La_law 971 (.i2l) 1 972 := ⟨by decide +kernel, rfl⟩
theorem D_La_law_972 : xd m_La_law 972 (.lcmp) 1 973 := ⟨by decide +kernel, rfl⟩
theorem D_La_law_973 : xd m_La_law 973 (.ifCond .eq 5) 3 976 := ⟨by decide +kernel, rfl⟩
theorem D_La_law_976 : xd m_La_law 976 (.iconst 0) 1 977 := ⟨by decide +kernel, rfl⟩
theorem D_La_law_977 : xd m_La_law 977 (.ireturn) 1 978 := ⟨by decide +kernel, rfl⟩
theorem D_La_law_978 : xd m_La_law 978 (.goto 207) 3 981 := ⟨by decide +kernel, rfl⟩
theorem D_La_law_981 : xd m_La_law 981 (.aload_n 1) 1 982 := ⟨by decide +kernel, rfl⟩
theorem D_La_law_982 : xd m_La_law 982 (.aload_n 0) 1 983 := ⟨by decide +kernel, rfl⟩
theorem D_La_law_983 : xd m_La_law 983 (.iload 4) 2 985 := ⟨by decide +kernel, rfl⟩
theorem D_La_law_985 : xd m_La_law 985 (.iconst 1) 1 986 := ⟨by decide +kernel, rfl⟩
theorem D_La_law_986 : xd m_La_law 986 (.iadd) 1 987 := ⟨by decide +kernel, rfl⟩
theorem D_La_law_987 : xd m_La_law 987 (.iaload) 1 988 := ⟨by decide +kernel, rfl⟩
theorem D_La_law_988 : xd m_La_law 988 (.aload_n 0) 1 989 := ⟨by decide +kernel, rfl⟩
theorem D_La_law_989 : xd m_La_law 989 (.iload 4) 2 991 := ⟨by decide +kernel, rfl⟩
theorem D_La_law_991 : xd m_La_law 991 (.iconst 2) 1 992 := ⟨by decide +kernel, rfl⟩
theorem D_La_law_992 : xd m_La_law 992 (.iadd) 1 993 := ⟨by decide +kernel, rfl⟩
theorem D_La_law_993 : xd m_La_law 993 (.iaload) 1 994 := ⟨by decide +kernel, rfl⟩
theorem D_La_law_994 : xd m_La_law 994 (.aload_n 3) 1 995 := ⟨by decide +kernel, rfl⟩
theorem D_La_law_995 : xd m_La_law 995 (.invokestatic 134) 3 998 := ⟨by decide +kernel, rfl⟩
theorem D_La_law_998 : xd m_La_law 998 (.istore 5) 2 1000 := ⟨by decide +kernel, rfl⟩
theorem D_La_law_1000 : xd m_La_law 1000 (.aload_n 2) 1 1001 := ⟨by decide +kernel, rfl⟩
theorem D_La_law_1001 : xd m_La_law 1001 (.aload_n 0) 1 1002 := ⟨by decide +kernel, rfl⟩
theorem D_La_law_1002 : xd m_La_law 1002 (.iload 4) 2 1004 := ⟨by decide +kernel, rfl⟩
theorem D_La_law_1004 : xd m_La_law 1004 (.iconst 1) 1 1005 := ⟨by decide +kernel, rfl⟩
theorem D_La_law_1005 : xd m_La_law 1005 (.iadd) 1 1006 := ⟨by decide +kernel, rfl⟩
theorem D_La_law_1006 : xd m_La_law 1006 (.iaload) 1 1007 := ⟨by decide +kernel, rfl⟩
theorem D_La_law_1007 : xd m_La_law 1007 (.aload_n 0) 1 1008 := ⟨by decide +kernel, rfl⟩
theorem D_La_law_1008 : xd m_La_law 1008 (.iload 4) 2 1010 := ⟨by decide +kernel, rfl⟩
theorem D_La_law_1010 : xd m_La_law 1010 (.iconst 2) 1 1011 := ⟨by decide +kernel, rfl⟩
theorem D_La_law_1011 : xd m_La_law 1011 (.iadd) 1 1012 := ⟨by decide +kernel, rfl⟩
theorem D_La_law_1012 : xd m_La_law 1012 (.iaload) 1 1013 := ⟨by decide +kernel, rfl⟩
theorem D_La_law_1013 : xd m_La_law 1013 (.invokevirtual 137) 3 1016 := ⟨by decide +kernel, rfl⟩
theorem D_La_law_1016 : xd m_La_law 1016 (.istore 6) 2 1018 := ⟨by decide +kernel, rfl⟩
theorem D_La_law_1018 : xd m_La_law 1018 (.aload_n 2) 1 1019 := ⟨by decide +kernel, rfl⟩
theorem D_La_law_1019 : xd m_La_law 1019 (.invokevirtual 77) 3 1022 := ⟨by decide +kernel, rfl⟩
theorem D_La_law_1022 : xd m_La_law 1022 (.iload 5) 2 1024 := ⟨by decide +kernel, rfl⟩
theorem D_La_law_1024 : xd m_La_law 1024 (.if_icmp .eq 5) 3 1027 := ⟨by decide +kernel, rfl⟩
theorem D_La_law_1027 : xd m_La_law 1027 (.iconst 0) 1 1028 := ⟨by decide +kernel, rfl⟩
theorem D_La_law_1028 : xd m_La_law 1028 (.ireturn) 1 1029 := ⟨by decide +kernel, rfl⟩
theorem D_La_law_1029 : xd m_La_law 1029 (.iload 5) 2 1031 := ⟨by decide +kernel, rfl⟩
theorem D_La_law_1031 : xd m_La_law 1031 (.ifCond .ne 15) 3 1034 := ⟨by decide +kernel, rfl⟩
theorem D_La_law_1034 : xd m_La_law 1034 (.aload_n 3) 1 1035 := ⟨by decide +kernel, rfl⟩
theorem D_La_law_1035 : xd m_La_law 1035 (.iconst 0) 1 1036 := ⟨by decide +kernel, rfl⟩
theorem D_La_law_1036 : xd m_La_law 1036 (.laload) 1 1037 := ⟨by decide +kernel, rfl⟩
theorem D_La_law_1037 : xd m_La_law 1037 (.iload 6) 2 1039 := ⟨by decide +kernel, rfl⟩
theorem D_La_law_1039 : xd m_La_law 1039 (.i2l) 1 1040 := ⟨by decide +kernel, rfl⟩
theorem D_La_law_1040 : xd m_La_law 1040 (.lcmp) 1 1041 := ⟨by decide +kernel, rfl⟩
theorem D_La_law_1041 : xd m_La_law 1041 (.ifCond .eq 5) 3 1044 := ⟨by decide +kernel, rfl⟩
theorem D_La_law_1044 : xd m_La_law 1044 (.iconst 0) 1 1045 := ⟨by decide +kernel, rfl⟩
theorem D_La_law_1045 : xd m_La_law 1045 (.ireturn) 1 1046 := ⟨by decide +kernel, rfl⟩
theorem D_La_law_1046 : xd m_La_law 1046 (.goto 139) 3 1049 := ⟨by decide +kernel, rfl⟩
theorem D_La_law_1049 : xd m_La_law 1049 (.aload_n 1) 1 1050 := ⟨by decide +kernel, rfl⟩
theorem D_La_law_1050 : xd m_La_law 1050 (.aload_n 0) 1 1051 := ⟨by decide +kernel, rfl⟩
theorem D_La_law_1051 : xd m_La_law 1051 (.iload 4) 2 1053 := ⟨by decide +kernel, rfl⟩
theorem D_La_law_1053 : xd m_La_law 1053 (.iconst 1) 1 1054 := ⟨by decide +kernel, rfl⟩
theorem D_La_law_1054 : xd m_La_law 1054 (.iadd) 1 1055 := ⟨by decide +kernel, rfl⟩
theorem D_La_law_1055 : xd m_La_law 1055 (.iaload) 1 1056 := ⟨by decide +kernel, rfl⟩
theorem D_La_law_1056 : xd m_La_law 1056 (.aload_n 0) 1 1057 := ⟨by decide +kernel, rfl⟩
theorem D_La_law_1057 : xd m_La_law 1057 (.iload 4) 2 1059 := ⟨by decide +kernel, rfl⟩
theorem D_La_law_1059 : xd m_La_law 1059 (.iconst 2) 1 1060 := ⟨by decide +kernel, rfl⟩
theorem D_La_law_1060 : xd m_La_law 1060 (.iadd) 1 1061 := ⟨by decide +kernel, rfl⟩
theorem D_La_law_1061 : xd m_La_law 1061 (.iaload) 1 1062 := ⟨by decide +kernel, rfl⟩
theorem D_La_law_1062 : xd m_La_law 1062 (.aload_n 3) 1 1063 := ⟨by decide +kernel, rfl⟩
theorem D_La_law_1063 : xd m_La_law 1063 (.invokestatic 138) 3 1066 := ⟨by decide +kernel, rfl⟩
theorem D_La_law_1066 : xd m_La_law 1066 (.istore 5) 2 1068 := ⟨by decide +kernel, rfl⟩
theorem D_La_law_1068 : xd m_La_law 1068 (.aload_n 2) 1 1069 := ⟨by decide +kernel, rfl⟩
theorem D_La_law_1069 : xd m_La_law 1069 (.aload_n 0) 1 1070 := ⟨by decide +kernel, rfl⟩
theorem D_La_law_1070 : xd m_La_law 1070 (.iload 4) 2 1072 := ⟨by decide +kernel, rfl⟩
theorem D_La_law_1072 : xd m_La_law 1072 (.iconst 1) 1 1073 := ⟨by decide +kernel, rfl⟩
theorem D_La_law_1073 : xd m_La_law 1073 (.iadd) 1 1074 := ⟨by decide +kernel, rfl⟩
theorem D_La_law_1074 : xd m_La_law 1074 (.iaload) 1 1075 := ⟨by decide +kernel, rfl⟩
theorem D_La_law_1075 : xd m_La_law 1075 (.aload_n 0) 1 1076 := ⟨by decide +kernel, rfl⟩
theorem D_La_law_1076 : xd m_La_law 1076 (.iload 4) 2 1078 := ⟨by decide +kernel, rfl⟩
theorem D_La_law_1078 : xd m_La_law 1078 (.iconst 2) 1 1079 := ⟨by decide +kernel, rfl⟩
theorem D_La_law_1079 : xd m_La_law 1079 (.iadd) 1 1080 := ⟨by decide +kernel, rfl⟩
theorem D_La_law_1080 : xd m_La_law 1080 (.iaload) 1 1081 := ⟨by decide +kernel, rfl⟩
theorem D_La_law_1081 : xd m_La_law 1081 (.invokevirtual 140) 3 1084 := ⟨by decide +kernel, rfl⟩
theorem D_La_law_1084 : xd m_La_law 1084 (.istore 6) 2 1086 := ⟨by decide +kernel, rfl⟩
theorem D_La_law_1086 : xd m_La_law 1086 (.aload_n 2) 1 1087 := ⟨by decide +kernel, rfl⟩
theorem D_La_law_1087 : xd m_La_law 1087 (.invokevirtual 77) 3 1090 := ⟨by decide +kernel, rfl⟩
theorem D_La_law_1090 : xd m_La_law 1090 (.iload 5) 2 1092 := ⟨by decide +kernel, rfl⟩
theorem D_La_law_1092 : xd m_La_law 1092 (.if_icmp .eq 5) 3 1095 := ⟨by decide +kernel, rfl⟩
theorem D_La_law_1095 : xd m_La_law 1095 (.iconst 0) 1 1096 := ⟨by decide +kernel, rfl⟩
theorem D_La_law_1096 : xd m_La_law 1096 (.ireturn) 1 1097 := ⟨by decide +kernel, rfl⟩
theorem D_La_law_1097 : xd m_La_law 1097 (.iload 5) 2 1099 := ⟨by decide +kernel, rfl⟩
theorem D_La_law_1099 : xd m_La_law 1099 (.ifCond .ne 15) 3 1102 := ⟨by decide +kernel, rfl⟩
theorem D_La_law_1102 : xd m_La_law 1102 (.aload_n 3) 1 1103 := ⟨by decide +kernel, rfl⟩
theorem D_La_law_1103 : xd m_La_law 1103 (.iconst 0) 1 1104 := ⟨by decide +kernel, rfl⟩
theorem D_La_law_1104 : xd m_La_law 1104 (.laload) 1 1105 := ⟨by decide +kernel, rfl⟩
theorem D_La_law_1105 : xd m_La_law 1105 (.iload 6) 2 1107 := ⟨by decide +kernel, rfl⟩
theorem D_La_law_1107 : xd m_La_law 1107 (.i2l) 1 1108 := ⟨by decide +kernel, rfl⟩
theorem D_La_law_1108 : xd m_La_law 1108 (.lcmp) 1 1109 := ⟨by decide +kernel, rfl⟩
theorem D_La_law_1109 : xd m_La_law 1109 (.ifCond .eq 5) 3 1112 := ⟨by decide +kernel, rfl⟩
theorem D_La_law_1112 : xd m_La_law 1112 (.iconst 0) 1 1113 := ⟨by decide +kernel, rfl⟩
theorem D_La_law_1113 : xd m_La_law 1113 (.ireturn) 1 1114 := ⟨by decide +kernel, rfl⟩
theorem D_La_law_1114 : xd m_La_law 1114 (.goto 71) 3 1117 := ⟨by decide +kernel, rfl⟩
theorem D_La_law_1117 : xd m_La_law 1117 (.aload_n 1) 1 1118 := ⟨by decide +kernel, rfl⟩
theorem D_La_law_1118 : xd m_La_law 1118 (.aload_n 0) 1 1119 := ⟨by decide +kernel, rfl⟩
theorem D_La_law_1119 : xd m_La_law 1119 (.iload 4) 2 1121 := ⟨by decide +kernel, rfl⟩
theorem D_La_law_1121 : xd m_La_law 1121 (.iconst 1) 1 1122 := ⟨by decide +kernel, rfl⟩
theorem D_La_law_1122 : xd m_La_law 1122 (.iadd) 1 1123 := ⟨by decide +kernel, rfl⟩
theorem D_La_law_1123 : xd m_La_law 1123 (.iaload) 1 1124 := ⟨by decide +kernel, rfl⟩
theorem D_La_law_1124 : xd m_La_law 1124 (.aload_n 0) 1 1125 := ⟨by decide +kernel, rfl⟩
theorem D_La_law_1125 : xd m_La_law 1125 (.iload 4) 2 1127 := ⟨by decide +kernel, rfl⟩
theorem D_La_law_1127 : xd m_La_law 1127 (.iconst 2) 1 1128 := ⟨by decide +kernel, rfl⟩
theorem D_La_law_1128 : xd m_La_law 1128 (.iadd) 1 1129 := ⟨by decide +kernel, rfl⟩
theorem D_La_law_1129 : xd m_La_law 1129 (.iaload) 1 1130 := ⟨by decide +kernel, rfl⟩
theorem D_La_law_1130 : xd m_La_law 1130 (.aload_n 3) 1 1131 := ⟨by decide +kernel, rfl⟩
theorem D_La_law_1131 : xd m_La_law 1131 (.invokestatic 141) 3 1134 := ⟨by decide +kernel, rfl⟩
theorem D_La_law_1134 : xd m_La_law 1134 (.istore 5) 2 1136 := ⟨by decide +kernel, rfl⟩
theorem D_La_law_1136 : xd m_La_law 1136 (.aload_n 2) 1 1137 := ⟨by decide +kernel, rfl⟩
theorem D_La_law_1137 : xd m_La_law 1137 (.aload_n 0) 1 1138 := ⟨by decide +kernel, rfl⟩
theorem D_La_law_1138 : xd m_La_law 1138 (.iload 4) 2 1140 := ⟨by decide +kernel, rfl⟩
theorem D_La_law_1140 : xd m_La_law 1140 (.iconst 1) 1 1141 := ⟨by decide +kernel, rfl⟩
theorem D_La_law_1141 : xd m_La_law 1141 (.iadd) 1 1142 := ⟨by decide +kernel, rfl⟩
theorem D_La_law_1142 : xd m_La_law 1142 (.iaload) 1 1143 := ⟨by decide +kernel, rfl⟩
theorem D_La_law_1143 : xd m_La_law 1143 (.aload_n 0) 1 1144 := ⟨by decide +kernel, rfl⟩
theorem D_La_law_1144 : xd m_La_law 1144 (.iload 4) 2 1146 := ⟨by decide +kernel, rfl⟩
theorem D_La_law_1146 : xd m_La_law 1146 (.iconst 2) 1 1147 := ⟨by decide +kernel, rfl⟩
theorem D_La_law_1147 : xd m_La_law 1147 (.iadd) 1 1148 := ⟨by decide +kernel, rfl⟩
theorem D_La_law_1148 : xd m_La_law 1148 (.iaload) 1 1149 := ⟨by decide +kernel, rfl⟩
theorem D_La_law_1149 : xd m_La_law 1149 (.invokevirtual 143) 3 1152 := ⟨by decide +kernel, rfl⟩
theorem D_La_law_1152 : xd m_La_law 1152 (.istore 6) 2 1154 := ⟨by decide +kernel, rfl⟩
theorem D_La_law_1154 : xd m_La_law 1154 (.aload_n 2) 1 1155 := ⟨by decide +kernel, rfl⟩
theorem D_La_law_1155 : xd m_La_law 1155 (.invokevirtual 77) 3 1158 := ⟨by decide +kernel, rfl⟩
theorem D_La_law_1158 : xd m_La_law 1158 (.iload 5) 2 1160 := ⟨by decide +kernel, rfl⟩
theorem D_La_law_1160 : xd m_La_law 1160 (.if_icmp .eq 5) 3 1163 := ⟨by decide +kernel, rfl⟩
theorem D_La_law_1163 : xd m_La_law 1163 (.iconst 0) 1 1164 := ⟨by decide +kernel, rfl⟩
theorem D_La_law_1164 : xd m_La_law 1164 (.ireturn) 1 1165 := ⟨by decide +kernel, rfl⟩
theorem D_La_law_1165 : xd m_La_law 1165 (.iload 5) 2 1167 := ⟨by decide +kernel, rfl⟩
theorem D_La_law_1167 : xd m_La_law 1167 (.ifCond .ne 15) 3 1170 := ⟨by decide +kernel, rfl⟩
theorem D_La_law_1170 : xd m_La_law 1170 (.aload_n 3) 1 1171 := ⟨by decide +kernel, rfl⟩
theorem D_La_law_1171 : xd m_La_law 1171 (.iconst 0) 1 1172 := ⟨by decide +kernel, rfl⟩
theorem D_La_law_1172 : xd m_La_law 1172 (.laload) 1 1173 := ⟨by decide +kernel, rfl⟩
theorem D_La_law_1173 : xd m_La_law 1173 (.iload 6) 2 1175 := ⟨by decide +kernel, rfl⟩
theorem D_La_law_1175 : xd m_La_law 1175 (.i2l) 1 1176 := ⟨by decide +kernel, rfl⟩
theorem D_La_law_1176 : xd m_La_law 1176 (.lcmp) 1 1177 := ⟨by decide +kernel, rfl⟩
theorem D_La_law_1177 : xd m_La_law 1177 (.ifCond .eq 5) 3 1180 := ⟨by decide +kernel, rfl⟩
theorem D_La_law_1180 : xd m_La_law 1180 (.iconst 0) 1 1181 := ⟨by decide +kernel, rfl⟩
theorem D_La_law_1181 : xd m_La_law 1181 (.ireturn) 1 1182 := ⟨by decide +kernel, rfl⟩
theorem D_La_law_1182 : xd m_La_law 1182 (.goto 3) 3 1185 := ⟨by decide +kernel, rfl⟩
theorem D_La_law_1185 : xd m_La_law 1185 (.iinc 4 10) 3 1188 := ⟨by decide +kernel, rfl⟩
theorem D_La_law_1188 : xd m_La_law 1188 (.goto (-1165)) 3 1191 := ⟨by decide +kernel, rfl⟩
theorem D_La_law_1191 : xd m_La_law 1191 (.iconst 1) 1 1192 := ⟨by decide +kernel, rfl⟩
theorem D_La_law_1192 : xd m_La_law 1192 (.ireturn) 1 1193 := ⟨by decide +kernel, rfl⟩
end
section
def xisD : Cond → Bool
  | .declares .. => true
  | .castable .. => true
  | _ => false
def xdcl : List Cond := lw_tbl.filter xisD
theorem xD_same {w : Cond} (hw : xisD w = true) {u U : State} (hv : U.vm = u.vm) (h : va_Nw w u) : va_Nw w U := by
  cases w with
  | declares x => exact va_Nw.same rfl hv.symm h
  | castable a b => exact va_Nw.same rfl hv.symm h
  | _ => cases hw
theorem xD_warm {w : Cond} (hw : xisD w = true) {s U : State} (hW : s.WarmedH U.vm) (h : va_Nw w s) : va_Nw w U := by
  have h2 : va_Nw w (s.setVm U.vm) := by
    cases w with
    | declares x =>
      show (Cond.declares x).before #[] (s.setVm U.vm) = true
      rw [Cond.declares_setVm hW.alike]; exact h
    | castable a b =>
      show (Cond.castable a b).before #[] (s.setVm U.vm) = true
      rw [Cond.castable_setVm hW.alike]; exact h
    | _ => cases hw
  exact xD_same hw (u := s.setVm U.vm) (U := U) rfl h2
theorem xD_use {w : Cond} (hw : xisD w = true) {A : Array Value} {U : State} (h : va_Nw w U) : w.before A U = true := by
  cases w with
  | declares x => exact va_Nw.use rfl h
  | castable a b => exact va_Nw.use rfl h
  | _ => cases hw
def xls (C n d : String) (A : Nat → Prop) (U : State) (H : Heap) : Prop := ∃ (c : ClassId) (kf : Class) (fi : Nat) (f : Field) (a : Nat) (cell : Cell), U.vm.findClass C = some c ∧ U.fieldFound? C n d = some (c, kf, fi, f) ∧ f.isStatic = true ∧ kf.statics = some a ∧ H[a]? = some cell ∧ cell.vm.isStatics = true ∧ cell.cls = c ∧ f.slot < cell.slots.size ∧ kf.staticTypes[f.slot]? = some f.type ∧ ¬ A a
theorem xls_moved {C n d : String} {A : Nat → Prop} {u U : State} {H : Heap} (hvm : u.vm.Alike U.vm) (h : xls C n d A u H) : xls C n d A U H := by
  obtain ⟨c, kf, fi, f, a, cell, h0, h1, h2, h3, h4, h5, h6, h7, h8, h9⟩ := h
  obtain ⟨k', hi', he⟩ := State.fieldFound?_setVm hvm h1
  exact ⟨c, k', fi, f, a, cell, by rw [hvm.findClass]; exact h0, hi', h2, by rw [he]; exact h3, h4, h5, h6, h7, by rw [he]; exact h8, h9⟩
theorem xls_kept {C n d : String} {A : Nat → Prop} {U : State} {H H1 : Heap} (h : xls C n d A U H) (hq : ∀ a : Nat, a < H.size → ¬ A a → H1[a]? = H[a]?) : xls C n d A U H1 := by
  obtain ⟨c, kf, fi, f, a, cell, h0, h1, h2, h3, h4, h5, h6, h7, h8, h9⟩ := h
  exact ⟨c, kf, fi, f, a, cell, h0, h1, h2, h3, by rw [hq a (Array.getElem?_eq_some_iff.mp h4).1 h9]; exact h4, h5, h6, h7, h8, h9⟩
theorem xls_narrow {C n d : String} {A B : Nat → Prop} {U : State} {H : Heap} (h : xls C n d A U H) (hAB : ∀ q, B q → A q) : xls C n d B U H := by
  obtain ⟨c, kf, fi, f, a, cell, h0, h1, h2, h3, h4, h5, h6, h7, h8, h9⟩ := h
  exact ⟨c, kf, fi, f, a, cell, h0, h1, h2, h3, h4, h5, h6, h7, h8, fun z => h9 (hAB a z)⟩
theorem xls_of {args : Array Value} {s : State} {C n d : String} {A : Nat → Prop} (hl : (Cond.laysStatic C n d).before args s = true) (hA : ∀ a : Nat, a < s.heap.size → ¬ A a) : xls C n d A s s.heap := by
  obtain ⟨c, k, i, f, a, cell, hc, hi, hst, ha, hcell, hs, hcls, hlt, hty⟩ := Cond.laysStatic_spec hl
  exact ⟨c, k, i, f, a, cell, hc, hi, hst, ha, hcell, hs, hcls, hlt, hty, hA a (Array.getElem?_eq_some_iff.mp hcell).1⟩
theorem xls_use {args : Array Value} {s : State} {C n d : String} {A : Nat → Prop} (h : xls C n d A s s.heap) : (Cond.laysStatic C n d).before args s = true := by
  obtain ⟨c, kf, fi, f, a, cell, h0, h1, h2, h3, h4, h5, h6, h7, h8, h9⟩ := h
  simp [Cond.before, Cond.holds, Cond.value, h0, h1, h2, h3, h4, h5, h6, h7, h8]
def xG (sc : xSc) (ad0 : Nat → Nat) (A : Nat → Prop) (s : State) : Prop :=
  (∀ w ∈ xnest, va_Nw w s) ∧ (∀ q ∈ xstrs, ∃ a, vk_R q.1 q.2.1 q.2.2 a s) ∧
  (∀ q : Nat × (Nat → Int32), sc = some q → va_X (ad0 1000000) q.1 q.2 s s.heap ∧ ad0 1000000 < s.heap.size ∧ ¬ A (ad0 1000000)) ∧
  (∀ q ∈ xzq, va_Zq q.1 q.2.1 q.2.2 A s s.heap) ∧
  (∀ q ∈ xsa, va_Z q.1 q.2.1 q.2.2.1 (.ref (ad0 q.2.2.2.1)) A s s.heap ∧ va_T .int (ad0 q.2.2.2.1) q.2.2.2.2.1 (fun j => .int (q.2.2.2.2.2 j)) A s s.heap ∧ 1000000 ≤ q.2.2.2.1) ∧
  ((∀ q ∈ xnc, va_Nc q.1 q.2 s) ∧ (∀ w ∈ xdcl, va_Nw w s) ∧ ∀ q ∈ xzq, xls q.1 q.2.1 q.2.2 A s s.heap)
theorem xG_of {sc : xSc} {ad0 : Nat → Nat} {A : Nat → Prop} {s : State} (h : xF sc ad0 A s) (h2 : ∀ w ∈ xdcl, va_Nw w s) (h3 : ∀ q ∈ xzq, xls q.1 q.2.1 q.2.2 A s s.heap) : xG sc ad0 A s := ⟨h.1, h.2.1, h.2.2.1, h.2.2.2.1, h.2.2.2.2.1, h.2.2.2.2.2, h2, h3⟩
theorem xG_F {sc : xSc} {ad0 : Nat → Nat} {A : Nat → Prop} {s : State} (h : xG sc ad0 A s) : xF sc ad0 A s := ⟨h.1, h.2.1, h.2.2.1, h.2.2.2.1, h.2.2.2.2.1, h.2.2.2.2.2.1⟩
theorem xG_same {sc : xSc} {ad0 : Nat → Nat} {A : Nat → Prop} {u U : State} (hv : U.vm = u.vm) (hh : U.heap = u.heap) (h : xG sc ad0 A u) : xG sc ad0 A U :=
  xG_of (xF_same hv hh (xG_F h)) (fun w hw => xD_same (List.mem_filter.mp hw).2 hv (h.2.2.2.2.2.2.1 w hw)) (fun q hq => by
    have hal : u.vm.Alike U.vm := by rw [hv]; exact Vm.Alike.refl u.vm
    rw [hh]; exact xls_moved hal (h.2.2.2.2.2.2.2 q hq))
theorem xG_call {sc : xSc} {ad ad0 : Nat → Nat} {A B : Nat → Prop} {s U : State} {H : Heap} {locs : List Loc} {n : Nat} (hW : s.WarmedH U.vm) (hU : U.heap = H) (hag : ∀ k, n ≤ k → ad k = ad0 k) (hn : n ≤ 1000000) (hS : va_S A s.heap H locs) (hBA : ∀ q, B q → A q) (h : xG sc ad0 A s) : xG none ad B U :=
  xG_of (xF_call hW hU hag hn hS hBA (xG_F h)) (fun w hw => xD_warm (List.mem_filter.mp hw).2 hW (h.2.2.2.2.2.2.1 w hw)) (fun q hq => by
    rw [hU]
    exact xls_narrow (xls_kept (xls_moved hW.alike (h.2.2.2.2.2.2.2 q hq)) hS.2.1) hBA)
end
section
abbrev xC : Type := (Nat × List Value) ⊕ (FieldType × vp_A)
abbrev xO : Type := (Option Value ⊕ String) × List xC
def xv (ad : Nat → Nat) (v : Value) : Value := match v with
  | .ref k => .ref (ad k)
  | w => w
theorem xv_int (ad : Nat → Nat) (x : Int32) : xv ad (.int x) = .int x := rfl
theorem xv_long (ad : Nat → Nat) (x : Int64) : xv ad (.long x) = .long x := rfl
theorem xv_ref (ad : Nat → Nat) (k : Nat) : xv ad (.ref k) = .ref (ad k) := rfl
theorem xv_null (ad : Nat → Nat) : xv ad .null = .null := rfl
theorem xv_cat (ad : Nat → Nat) (v : Value) : (xv ad v).category = v.category := by cases v <;> rfl
def xe (cA : FieldType → ClassId) (ad : Nat → Nat) (c : xC) : va_E := match c with
  | .inl o => .inr (o.1, o.2.map (xv ad))
  | .inr a => .inl (cA a.1, a.2)
def xw (cA : FieldType → ClassId) (ad : Nat → Nat) (h : List xC) : va_W := h.mapIdx (fun k c => (ad k, xe cA ad c))
abbrev xT (cA : FieldType → ClassId) : List (ClassId × FieldType) := [(cA .int, .int), (cA .byte, .byte), (cA .boolean, .boolean), (cA .long, .long)]
def xA (ad0 : Nat → Nat) (N0 sz : Nat) : Nat → Prop := fun q => (∃ k, k < N0 ∧ q = ad0 k) ∨ sz ≤ q
theorem xw_at {cA : FieldType → ClassId} {ad : Nat → Nat} {h : List xC} {k : Nat} {c : xC} (hk : h[k]? = some c) : (xw cA ad h)[k]? = some (ad k, xe cA ad c) := by
  unfold xw
  rw [List.getElem?_mapIdx, hk]
  rfl
theorem xw_len {cA : FieldType → ClassId} {ad : Nat → Nat} {h : List xC} : (xw cA ad h).length = h.length := by
  unfold xw
  exact List.length_mapIdx
theorem xw_set {cA : FieldType → ClassId} {ad : Nat → Nat} {h : List xC} {k : Nat} {c : xC} : (xw cA ad h).set k (ad k, xe cA ad c) = xw cA ad (h.set k c) := by
  apply List.ext_getElem?
  intro i
  unfold xw
  rw [List.getElem?_mapIdx, List.getElem?_set, List.getElem?_set, List.length_mapIdx, List.getElem?_mapIdx]
  by_cases hi : k = i
  · subst hi
    by_cases hl : k < h.length
    · simp [hl]
    · simp [hl]
  · simp [hi]
theorem xw_of {cA : FieldType → ClassId} {ad : Nat → Nat} {h : List xC} {k : Nat} {q : Nat × va_E} (hq : (xw cA ad h)[k]? = some q) : ∃ c, h[k]? = some c ∧ q = (ad k, xe cA ad c) := by
  unfold xw at hq
  rw [List.getElem?_mapIdx] at hq
  cases hc : h[k]? with
  | none => rw [hc] at hq; cases hq
  | some c => rw [hc] at hq; exact ⟨c, rfl, (Option.some.inj hq).symm⟩
theorem xw_app {cA : FieldType → ClassId} {ad : Nat → Nat} {h : List xC} {c : xC} : xw cA ad (h ++ [c]) = xw cA ad h ++ [(ad h.length, xe cA ad c)] := by
  unfold xw
  rw [List.mapIdx_append]
  simp
abbrev xL : Type := List (Option Value)
def xlv (ad : Nat → Nat) (lo : xL) : List (Nat × Value) := lo.zipIdx.filterMap (fun q => q.1.map (fun v => (q.2, xv ad v)))
theorem xlv_mem {ad : Nat → Nat} {lo : xL} {q : Nat × Value} : q ∈ xlv ad lo ↔ ∃ v, lo[q.1]? = some (some v) ∧ q.2 = xv ad v := by
  unfold xlv
  rw [List.mem_filterMap]
  constructor
  · rintro ⟨⟨o, i⟩, hm, he⟩
    have hi := List.mem_zipIdx_iff_getElem?.mp hm
    cases o with
    | none => cases he
    | some v =>
      cases he
      exact ⟨v, hi, rfl⟩
  · rintro ⟨v, h1, h2⟩
    refine ⟨(some v, q.1), List.mem_zipIdx_iff_getElem?.mpr h1, ?_⟩
    show some (q.1, xv ad v) = some q
    rw [← h2]
def xpre (lo : xL) (i : Nat) : xL := match i with
  | 0 => lo
  | j + 1 => match lo[j]? with
    | some (some (.long _)) => lo.set j none
    | some (some (.double _)) => lo.set j none
    | _ => lo
def xst (lo : xL) (i : Nat) (v : Value) : xL := (xpre lo i).set i (some v)
def xst2 (lo : xL) (i : Nat) (v : Value) : xL := (xst lo i v).set (i + 1) none
def xhas (ls : Array Slot) (nL : Nat) (ad : Nat → Nat) (lo : xL) : Prop := lv_has ls nL (xlv ad lo)
theorem xhas_at {ls : Array Slot} {nL : Nat} {ad : Nat → Nat} {lo : xL} (h : xhas ls nL ad lo) {i : Nat} {v : Value} (hi : lo[i]? = some (some v)) : ls[i]? = some (.val (xv ad v)) := h.2.2 (i, xv ad v) (xlv_mem.mpr ⟨v, hi, rfl⟩)
theorem xst_get {lo : xL} {i j : Nat} {v w : Value} (h : (xst lo i v)[j]? = some (some w)) : (j = i ∧ w = v) ∨ (j ≠ i ∧ lo[j]? = some (some w) ∧ ¬ (j + 1 = i ∧ w.category = 2)) := by
  unfold xst at h
  rw [List.getElem?_set] at h
  by_cases hj : i = j
  · subst hj
    rw [if_pos rfl] at h
    split at h
    · exact Or.inl ⟨rfl, (Option.some.inj (Option.some.inj h)).symm⟩
    · cases h
  · rw [if_neg hj] at h
    refine Or.inr ⟨fun q => hj q.symm, ?_⟩
    cases i with
    | zero => exact ⟨h, fun q => by omega⟩
    | succ k =>
      dsimp only [xpre] at h
      split at h
      · rw [List.getElem?_set] at h
        by_cases hk : k = j
        · subst hk
          rw [if_pos rfl] at h
          split at h <;> cases h
        · rw [if_neg hk] at h
          exact ⟨h, fun q => hk (by omega)⟩
      · rw [List.getElem?_set] at h
        by_cases hk : k = j
        · subst hk
          rw [if_pos rfl] at h
          split at h <;> cases h
        · rw [if_neg hk] at h
          exact ⟨h, fun q => hk (by omega)⟩
      · rename_i hn1 hn2
        refine ⟨h, fun q => ?_⟩
        obtain ⟨q1, q2⟩ := q
        have : k = j := by omega
        subst this
        cases w with
        | long x => exact hn1 x h
        | double x => exact hn2 x h
        | int x => cases q2
        | float x => cases q2
        | ref x => cases q2
        | null => cases q2
        | _ => cases q2
theorem xhas_st {ls' : Array Slot} {nL : Nat} {ad : Nat → Nat} {lo : xL} {i : Nat} {v : Value} (h : lv_has ls' nL ((i, xv ad v) :: (xlv ad lo).filter (fun q => !(q.1 == i) && !(q.1 + 1 == i && q.2.category == 2)))) : xhas ls' nL ad (xst lo i v) := by
  refine ⟨h.1, h.2.1, fun q hq => ?_⟩
  obtain ⟨w, h1, h2⟩ := xlv_mem.mp hq
  rcases xst_get h1 with ⟨e1, e2⟩ | ⟨e1, e2, e3⟩
  · refine h.2.2 q (List.mem_cons.mpr (Or.inl ?_))
    rw [← e1, ← e2, ← h2]
  · refine h.2.2 q (List.mem_cons.mpr (Or.inr (List.mem_filter.mpr ⟨xlv_mem.mpr ⟨w, e2, h2⟩, ?_⟩)))
    rw [h2, xv_cat]
    simp only [Bool.and_eq_true, Bool.not_eq_true', beq_eq_false_iff_ne, ne_eq, Bool.and_eq_false_iff]
    refine ⟨e1, ?_⟩
    by_cases hj : q.1 + 1 = i
    · exact Or.inr (fun hc => e3 ⟨hj, hc⟩)
    · exact Or.inl hj
theorem xst2_get {lo : xL} {i j : Nat} {v w : Value} (h : (xst2 lo i v)[j]? = some (some w)) : (j = i ∧ w = v) ∨ (j ≠ i ∧ j ≠ i + 1 ∧ lo[j]? = some (some w) ∧ ¬ (j + 1 = i ∧ w.category = 2)) := by
  unfold xst2 at h
  rw [List.getElem?_set] at h
  by_cases hj : i + 1 = j
  · subst hj
    rw [if_pos rfl] at h
    split at h <;> cases h
  · rw [if_neg hj] at h
    rcases xst_get h with ⟨e1, e2⟩ | ⟨e1, e2, e3⟩
    · exact Or.inl ⟨e1, e2⟩
    · exact Or.inr ⟨e1, fun q => hj q.symm, e2, e3⟩
theorem xhas_st2 {ls' : Array Slot} {nL : Nat} {ad : Nat → Nat} {lo : xL} {i : Nat} {v : Value} (h : lv_has ls' nL ((i, xv ad v) :: (xlv ad lo).filter (fun q => !(q.1 == i) && (!(q.1 == i + 1) && !(q.1 + 1 == i && q.2.category == 2))))) : xhas ls' nL ad (xst2 lo i v) := by
  refine ⟨h.1, h.2.1, fun q hq => ?_⟩
  obtain ⟨w, h1, h2⟩ := xlv_mem.mp hq
  rcases xst2_get h1 with ⟨e1, e2⟩ | ⟨e1, e1', e2, e3⟩
  · refine h.2.2 q (List.mem_cons.mpr (Or.inl ?_))
    rw [← e1, ← e2, ← h2]
  · refine h.2.2 q (List.mem_cons.mpr (Or.inr (List.mem_filter.mpr ⟨xlv_mem.mpr ⟨w, e2, h2⟩, ?_⟩)))
    rw [h2, xv_cat]
    simp only [Bool.and_eq_true, Bool.not_eq_true', beq_eq_false_iff_ne, ne_eq, Bool.and_eq_false_iff]
    refine ⟨e1, e1', ?_⟩
    by_cases hj : q.1 + 1 = i
    · exact Or.inr (fun hc => e3 ⟨hj, hc⟩)
    · exact Or.inl hj
end
section
def xC0 (M : xM) (sc : xSc) (rc rs : Nat) (h : List xC) (p : Program) (l : Launch) (e : Env) (s : State) (m : MethodId) (args : Array Value) (meth : Method) (c : Code) (mc ms cells slots : Nat) (H : Heap) (locs : List Loc) (D : va_G) (cA : FieldType → ClassId) (ad ad0 : Nat → Nat) (N0 : Nat) : Prop :=
  (p.tables.exec = Jvm.exec ∧ c.code = M.2.1 ∧ c.maxLocals = M.2.2.1 ∧ meth.sig.returnType = M.2.2.2.1 ∧ meth.locks = false ∧ s.vm.findClass M.1.cls = some m.cls ∧ meth.name = M.1.name ∧ c.exceptionTable.toList.map (fun h => (h.startPc, h.endPc, h.handlerPc, h.catchType)) = M.2.2.2.2 ∧ xl l) ∧
  (∀ w ∈ xtb, w.before args s = true) ∧ xG sc ad0 (xA ad0 N0 s.heap.size) s ∧
  (cells + rc ≤ mc ∧ slots + rs ≤ ms) ∧ va_K D vwCl (xT cA) s ∧
  (N0 ≤ h.length ∧ (∀ k, k < N0 ∨ h.length ≤ k → ad k = ad0 k) ∧ (∀ k, k < N0 → ∀ ce, s.heap[ad0 k]? = some ce → ce.vm.isStatics = false) ∧ h.length ≤ 1000000) ∧
  va_P D vwCl (xw cA ad h) H ∧ va_D (xA ad0 N0 s.heap.size) (xw cA ad h) ∧ va_S (xA ad0 N0 s.heap.size) s.heap H locs
def xrm (d : Nat × Nat) (mc ms : Nat) : Room := { frames := d.1, cells := mc, slots := ms, locals := d.2 }
def xE (D : va_G) (cA : FieldType → ClassId) (ad0 : Nat → Nat) (N0 : Nat) (o : xO) (s : State) (mc ms : Nat) (oc : Outcome) (t : State) : Prop :=
  (∃ L : List Loc, s.WarmedH t.vm ∧ s.sameButNew ({ t with vm := s.vm } : State) L mc ms ∧ ∀ q ∈ L, xA ad0 N0 s.heap.size q.base) ∧
  N0 ≤ o.2.length ∧ va_F (xA ad0 N0 s.heap.size) s t ∧
  ∃ ad' : Nat → Nat, (∀ k, k < N0 ∨ o.2.length ≤ k → ad' k = ad0 k) ∧ va_P D vwCl (xw cA ad' o.2) t.heap ∧ va_D (xA ad0 N0 s.heap.size) (xw cA ad' o.2) ∧
    match o.1 with
    | .inl v => oc = .returned (v.map (xv ad'))
    | .inr E => ∃ (q : Addr) (ce : Cell), oc = .threw q ∧ t.heap[q]? = some ce ∧ ce.vm = .none ∧ s.vm.findClass E = some ce.cls
def xQ (below : List Frame) (D : va_G) (cA : FieldType → ClassId) (ad0 : Nat → Nat) (N0 : Nat) (Q : xO → Prop) (s : State) (mc ms : Nat) : State → Prop := fun t => ∃ (oc : Outcome) (o : xO), Q o ∧ t.status = .running ∧ Ended t below oc ∧ xE D cA ad0 N0 o s mc ms oc t
def xr (M : xM) (sc : xSc) (d : Nat × Nat) (pc : Nat) (lo : xL) (st : List Value) (h : List xC) (rc rs : Nat) (Q : xO → Prop) : Prop :=
  ∀ (_ : Unit) {p : Program} {l : Launch} {e : Env} {s : State} {m : MethodId} {args : Array Value} {below : List Frame} {meth : Method} {c : Code} {mc ms cells slots : Nat} {H : Heap} {locs : List Loc} {ls : Array Slot} {D : va_G} {cA : FieldType → ClassId} {ad ad0 : Nat → Nat} {N0 : Nat},
    xC0 M sc rc rs h p l e s m args meth c mc ms cells slots H locs D cA ad ad0 N0 → xhas ls M.2.2.1 ad lo →
    W p l e (xrm d mc ms) s m args below meth c H locs cells slots (xQ below D cA ad0 N0 Q s mc ms) (F0 m pc ls (st.map (xv ad)))
theorem W.mono {p : Program} {l : Launch} {e : Env} {R : Room} {s : State} {m : MethodId} {args : Array Value} {below : List Frame} {meth : Method} {c : Code} {H : Heap} {locs : List Loc} {cells slots : Nat} {Q Q' : State → Prop} {g : JFrame} (h : ∀ t, Q t → Q' t) (k : W p l e R s m args below meth c H locs cells slots Q g) : W p l e R s m args below meth c H locs cells slots Q' g := by
  intro T hT X
  obtain ⟨t, a, b⟩ := k T hT X
  exact ⟨t, a, h t b⟩
section XR
variable {M : xM} {sc : xSc} {d : Nat × Nat} {pc : Nat} {lo : xL} {st : List Value} {h : List xC} {rc rs : Nat} {Q : xO → Prop}
theorem xr_iadd {x y : Int32} {q9 : Nat} (hd : xd M pc (.iadd) 1 q9) (k : xr M sc d q9 lo (.int (x + y) :: st) h rc rs Q) : xr M sc d pc lo (.int y :: .int x :: st) h rc rs Q := by
  obtain ⟨hd, rfl⟩ := hd
  intro u9 p l e s m args below meth c mc ms cells slots H locs ls D cA ad ad0 N0 C hl
  exact lv_iadd C.1.1 C.1.2.1 hd (k u9 C hl)
theorem xr_isub {x y : Int32} {q9 : Nat} (hd : xd M pc (.isub) 1 q9) (k : xr M sc d q9 lo (.int (x - y) :: st) h rc rs Q) : xr M sc d pc lo (.int y :: .int x :: st) h rc rs Q := by
  obtain ⟨hd, rfl⟩ := hd
  intro u9 p l e s m args below meth c mc ms cells slots H locs ls D cA ad ad0 N0 C hl
  exact lv_isub C.1.1 C.1.2.1 hd (k u9 C hl)
theorem xr_imul {x y : Int32} {q9 : Nat} (hd : xd M pc (.imul) 1 q9) (k : xr M sc d q9 lo (.int (x * y) :: st) h rc rs Q) : xr M sc d pc lo (.int y :: .int x :: st) h rc rs Q := by
  obtain ⟨hd, rfl⟩ := hd
  intro u9 p l e s m args below meth c mc ms cells slots H locs ls D cA ad ad0 N0 C hl
  exact lv_imul C.1.1 C.1.2.1 hd (k u9 C hl)
theorem xr_iand {x y : Int32} {q9 : Nat} (hd : xd M pc (.iand) 1 q9) (k : xr M sc d q9 lo (.int (x &&& y) :: st) h rc rs Q) : xr M sc d pc lo (.int y :: .int x :: st) h rc rs Q := by
  obtain ⟨hd, rfl⟩ := hd
  intro u9 p l e s m args below meth c mc ms cells slots H locs ls D cA ad ad0 N0 C hl
  exact lv_iand C.1.1 C.1.2.1 hd (k u9 C hl)
theorem xr_ior {x y : Int32} {q9 : Nat} (hd : xd M pc (.ior) 1 q9) (k : xr M sc d q9 lo (.int (x ||| y) :: st) h rc rs Q) : xr M sc d pc lo (.int y :: .int x :: st) h rc rs Q := by
  obtain ⟨hd, rfl⟩ := hd
  intro u9 p l e s m args below meth c mc ms cells slots H locs ls D cA ad ad0 N0 C hl
  exact lv_ior C.1.1 C.1.2.1 hd (k u9 C hl)
theorem xr_ixor {x y : Int32} {q9 : Nat} (hd : xd M pc (.ixor) 1 q9) (k : xr M sc d q9 lo (.int (x ^^^ y) :: st) h rc rs Q) : xr M sc d pc lo (.int y :: .int x :: st) h rc rs Q := by
  obtain ⟨hd, rfl⟩ := hd
  intro u9 p l e s m args below meth c mc ms cells slots H locs ls D cA ad ad0 N0 C hl
  exact lv_ixor C.1.1 C.1.2.1 hd (k u9 C hl)
theorem xr_ishl {x y : Int32} {q9 : Nat} (hd : xd M pc (.ishl) 1 q9) (k : xr M sc d q9 lo (.int (x <<< (y &&& 31)) :: st) h rc rs Q) : xr M sc d pc lo (.int y :: .int x :: st) h rc rs Q := by
  obtain ⟨hd, rfl⟩ := hd
  intro u9 p l e s m args below meth c mc ms cells slots H locs ls D cA ad ad0 N0 C hl
  exact lv_ishl C.1.1 C.1.2.1 hd (k u9 C hl)
theorem xr_ishr {x y : Int32} {q9 : Nat} (hd : xd M pc (.ishr) 1 q9) (k : xr M sc d q9 lo (.int (x >>> (y &&& 31)) :: st) h rc rs Q) : xr M sc d pc lo (.int y :: .int x :: st) h rc rs Q := by
  obtain ⟨hd, rfl⟩ := hd
  intro u9 p l e s m args below meth c mc ms cells slots H locs ls D cA ad ad0 N0 C hl
  exact lv_ishr C.1.1 C.1.2.1 hd (k u9 C hl)
theorem xr_idiv {x y : Int32} {q9 : Nat} (hd : xd M pc (.idiv) 1 q9) (hne : ¬ y = 0) (k : xr M sc d q9 lo (.int (x / y) :: st) h rc rs Q) : xr M sc d pc lo (.int y :: .int x :: st) h rc rs Q := by
  obtain ⟨hd, rfl⟩ := hd
  intro u9 p l e s m args below meth c mc ms cells slots H locs ls D cA ad ad0 N0 C hl
  exact lv_idiv C.1.1 C.1.2.1 hd hne (k u9 C hl)
theorem xr_irem {x y : Int32} {q9 : Nat} (hd : xd M pc (.irem) 1 q9) (hne : ¬ y = 0) (k : xr M sc d q9 lo (.int (x - x / y * y) :: st) h rc rs Q) : xr M sc d pc lo (.int y :: .int x :: st) h rc rs Q := by
  obtain ⟨hd, rfl⟩ := hd
  intro u9 p l e s m args below meth c mc ms cells slots H locs ls D cA ad ad0 N0 C hl
  exact lv_irem C.1.1 C.1.2.1 hd hne (k u9 C hl)
theorem xr_iushr {x y : Int32} {q9 : Nat} (hd : xd M pc (.iushr) 1 q9) (k : xr M sc d q9 lo (.int ((x.toUInt32 >>> (y.toUInt32 &&& Int32.toUInt32 31)).toInt32) :: st) h rc rs Q) : xr M sc d pc lo (.int y :: .int x :: st) h rc rs Q := by
  obtain ⟨hd, rfl⟩ := hd
  intro u9 p l e s m args below meth c mc ms cells slots H locs ls D cA ad ad0 N0 C hl
  exact lv_iushr C.1.1 C.1.2.1 hd rfl (k u9 C hl)
theorem xr_ineg {x : Int32} {q9 : Nat} (hd : xd M pc (.ineg) 1 q9) (k : xr M sc d q9 lo (.int (-x) :: st) h rc rs Q) : xr M sc d pc lo (.int x :: st) h rc rs Q := by
  obtain ⟨hd, rfl⟩ := hd
  intro u9 p l e s m args below meth c mc ms cells slots H locs ls D cA ad ad0 N0 C hl
  exact lv_ineg C.1.1 C.1.2.1 hd (k u9 C hl)
theorem xr_ladd {x y : Int64} {q9 : Nat} (hd : xd M pc (.ladd) 1 q9) (k : xr M sc d q9 lo (.long (x + y) :: st) h rc rs Q) : xr M sc d pc lo (.long y :: .long x :: st) h rc rs Q := by
  obtain ⟨hd, rfl⟩ := hd
  intro u9 p l e s m args below meth c mc ms cells slots H locs ls D cA ad ad0 N0 C hl
  exact lv_ladd C.1.1 C.1.2.1 hd (k u9 C hl)
theorem xr_lsub {x y : Int64} {q9 : Nat} (hd : xd M pc (.lsub) 1 q9) (k : xr M sc d q9 lo (.long (x - y) :: st) h rc rs Q) : xr M sc d pc lo (.long y :: .long x :: st) h rc rs Q := by
  obtain ⟨hd, rfl⟩ := hd
  intro u9 p l e s m args below meth c mc ms cells slots H locs ls D cA ad ad0 N0 C hl
  exact lv_lsub C.1.1 C.1.2.1 hd (k u9 C hl)
theorem xr_lmul {x y : Int64} {q9 : Nat} (hd : xd M pc (.lmul) 1 q9) (k : xr M sc d q9 lo (.long (x * y) :: st) h rc rs Q) : xr M sc d pc lo (.long y :: .long x :: st) h rc rs Q := by
  obtain ⟨hd, rfl⟩ := hd
  intro u9 p l e s m args below meth c mc ms cells slots H locs ls D cA ad ad0 N0 C hl
  exact lv_lmul C.1.1 C.1.2.1 hd (k u9 C hl)
theorem xr_land {x y : Int64} {q9 : Nat} (hd : xd M pc (.land) 1 q9) (k : xr M sc d q9 lo (.long (x &&& y) :: st) h rc rs Q) : xr M sc d pc lo (.long y :: .long x :: st) h rc rs Q := by
  obtain ⟨hd, rfl⟩ := hd
  intro u9 p l e s m args below meth c mc ms cells slots H locs ls D cA ad ad0 N0 C hl
  exact lv_land C.1.1 C.1.2.1 hd (k u9 C hl)
theorem xr_lor {x y : Int64} {q9 : Nat} (hd : xd M pc (.lor) 1 q9) (k : xr M sc d q9 lo (.long (x ||| y) :: st) h rc rs Q) : xr M sc d pc lo (.long y :: .long x :: st) h rc rs Q := by
  obtain ⟨hd, rfl⟩ := hd
  intro u9 p l e s m args below meth c mc ms cells slots H locs ls D cA ad ad0 N0 C hl
  exact lv_lor C.1.1 C.1.2.1 hd (k u9 C hl)
theorem xr_lxor {x y : Int64} {q9 : Nat} (hd : xd M pc (.lxor) 1 q9) (k : xr M sc d q9 lo (.long (x ^^^ y) :: st) h rc rs Q) : xr M sc d pc lo (.long y :: .long x :: st) h rc rs Q := by
  obtain ⟨hd, rfl⟩ := hd
  intro u9 p l e s m args below meth c mc ms cells slots H locs ls D cA ad ad0 N0 C hl
  exact lv_lxor C.1.1 C.1.2.1 hd (k u9 C hl)
theorem xr_lushr {x : Int64} {y : Int32} {q9 : Nat} (hd : xd M pc (.lushr) 1 q9) (k : xr M sc d q9 lo (.long ((x.toUInt64 >>> (y.toInt64.toUInt64 &&& Int64.toUInt64 63)).toInt64) :: st) h rc rs Q) : xr M sc d pc lo (.int y :: .long x :: st) h rc rs Q := by
  obtain ⟨hd, rfl⟩ := hd
  intro u9 p l e s m args below meth c mc ms cells slots H locs ls D cA ad ad0 N0 C hl
  exact lv_lushr C.1.1 C.1.2.1 hd rfl (k u9 C hl)
theorem xr_lshl {x : Int64} {y : Int32} {q9 : Nat} (hd : xd M pc (.lshl) 1 q9) (k : xr M sc d q9 lo (.long (x <<< (y.toInt64 &&& 63)) :: st) h rc rs Q) : xr M sc d pc lo (.int y :: .long x :: st) h rc rs Q := by
  obtain ⟨hd, rfl⟩ := hd
  intro u9 p l e s m args below meth c mc ms cells slots H locs ls D cA ad ad0 N0 C hl
  exact lv_lshl C.1.1 C.1.2.1 hd rfl (k u9 C hl)
theorem xr_lshr {x : Int64} {y : Int32} {q9 : Nat} (hd : xd M pc (.lshr) 1 q9) (k : xr M sc d q9 lo (.long (x >>> (y.toInt64 &&& 63)) :: st) h rc rs Q) : xr M sc d pc lo (.int y :: .long x :: st) h rc rs Q := by
  obtain ⟨hd, rfl⟩ := hd
  intro u9 p l e s m args below meth c mc ms cells slots H locs ls D cA ad ad0 N0 C hl
  exact lv_lshr C.1.1 C.1.2.1 hd rfl (k u9 C hl)
theorem xr_i2l {x : Int32} {q9 : Nat} (hd : xd M pc (.i2l) 1 q9) (k : xr M sc d q9 lo (.long x.toInt64 :: st) h rc rs Q) : xr M sc d pc lo (.int x :: st) h rc rs Q := by
  obtain ⟨hd, rfl⟩ := hd
  intro u9 p l e s m args below meth c mc ms cells slots H locs ls D cA ad ad0 N0 C hl
  exact lv_i2l C.1.1 C.1.2.1 hd rfl (k u9 C hl)
theorem xr_l2i {x : Int64} {q9 : Nat} (hd : xd M pc (.l2i) 1 q9) (k : xr M sc d q9 lo (.int x.toInt32 :: st) h rc rs Q) : xr M sc d pc lo (.long x :: st) h rc rs Q := by
  obtain ⟨hd, rfl⟩ := hd
  intro u9 p l e s m args below meth c mc ms cells slots H locs ls D cA ad ad0 N0 C hl
  exact lv_l2i C.1.1 C.1.2.1 hd rfl (k u9 C hl)
theorem xr_i2b {x : Int32} {q9 : Nat} (hd : xd M pc (.i2b) 1 q9) (k : xr M sc d q9 lo (.int x.toInt8.toInt32 :: st) h rc rs Q) : xr M sc d pc lo (.int x :: st) h rc rs Q := by
  obtain ⟨hd, rfl⟩ := hd
  intro u9 p l e s m args below meth c mc ms cells slots H locs ls D cA ad ad0 N0 C hl
  exact lv_i2b C.1.1 C.1.2.1 hd rfl (k u9 C hl)
theorem xr_lcmp {x y : Int64} {q9 : Nat} (hd : xd M pc (.lcmp) 1 q9) (k : xr M sc d q9 lo (.int (lg_cmp x y) :: st) h rc rs Q) : xr M sc d pc lo (.long y :: .long x :: st) h rc rs Q := by
  obtain ⟨hd, rfl⟩ := hd
  intro u9 p l e s m args below meth c mc ms cells slots H locs ls D cA ad ad0 N0 C hl
  exact W.lcmp C.1.1 C.1.2.1 hd (k u9 C hl)
theorem xr_iconst {n : Int} {v : Int32} {q9 : Nat} (hd : xd M pc (.iconst n) 1 q9) (hv : Int32.ofInt n = v) (k : xr M sc d q9 lo (.int v :: st) h rc rs Q) : xr M sc d pc lo (st) h rc rs Q := by
  obtain ⟨hd, rfl⟩ := hd
  intro u9 p l e s m args below meth c mc ms cells slots H locs ls D cA ad ad0 N0 C hl
  exact lv_iconst C.1.1 C.1.2.1 hd hv (k u9 C hl)
theorem xr_bipush {n : Int} {v : Int32} {q9 : Nat} (hd : xd M pc (.bipush n) 2 q9) (hv : (Int8.ofInt n).toInt32 = v) (k : xr M sc d q9 lo (.int v :: st) h rc rs Q) : xr M sc d pc lo (st) h rc rs Q := by
  obtain ⟨hd, rfl⟩ := hd
  intro u9 p l e s m args below meth c mc ms cells slots H locs ls D cA ad ad0 N0 C hl
  exact lv_bipush C.1.1 C.1.2.1 hd hv (k u9 C hl)
theorem xr_sipush {n : Int} {v : Int32} {q9 : Nat} (hd : xd M pc (.sipush n) 3 q9) (hv : (Int16.ofInt n).toInt32 = v) (k : xr M sc d q9 lo (.int v :: st) h rc rs Q) : xr M sc d pc lo (st) h rc rs Q := by
  obtain ⟨hd, rfl⟩ := hd
  intro u9 p l e s m args below meth c mc ms cells slots H locs ls D cA ad ad0 N0 C hl
  exact lv_sipush C.1.1 C.1.2.1 hd hv (k u9 C hl)
theorem xr_lconst {n : Fin 2} {v : Int64} {q9 : Nat} (hd : xd M pc (.lconst n) 1 q9) (hv : Int64.ofNat (n : Nat) = v) (k : xr M sc d q9 lo (.long v :: st) h rc rs Q) : xr M sc d pc lo (st) h rc rs Q := by
  obtain ⟨hd, rfl⟩ := hd
  intro u9 p l e s m args below meth c mc ms cells slots H locs ls D cA ad ad0 N0 C hl
  exact lv_lconst C.1.1 C.1.2.1 hd hv (k u9 C hl)
theorem xr_null {q9 : Nat} (hd : xd M pc (.aconst_null) 1 q9) (k : xr M sc d q9 lo (.null :: st) h rc rs Q) : xr M sc d pc lo (st) h rc rs Q := by
  obtain ⟨hd, rfl⟩ := hd
  intro u9 p l e s m args below meth c mc ms cells slots H locs ls D cA ad ad0 N0 C hl
  exact lv_null C.1.1 C.1.2.1 hd (k u9 C hl)
theorem xr_iload {i : Nat} {x : Int32} {q9 : Nat} (hd : xd M pc (.iload i) 2 q9) (hl0 : lo[i]? = some (some (.int x))) (k : xr M sc d q9 lo (.int x :: st) h rc rs Q) : xr M sc d pc lo (st) h rc rs Q := by
  obtain ⟨hd, rfl⟩ := hd
  intro u9 p l e s m args below meth c mc ms cells slots H locs ls D cA ad ad0 N0 C hl
  exact lv_iload C.1.1 C.1.2.1 hd (xhas_at hl hl0) (k u9 C hl)
theorem xr_iload_n {k9 : Fin 4} {i : Nat} {x : Int32} {q9 : Nat} (hd : xd M pc (.iload_n k9) 1 q9) (hi : (k9 : Nat) = i) (hl0 : lo[i]? = some (some (.int x))) (k : xr M sc d q9 lo (.int x :: st) h rc rs Q) : xr M sc d pc lo (st) h rc rs Q := by
  obtain ⟨hd, rfl⟩ := hd
  intro u9 p l e s m args below meth c mc ms cells slots H locs ls D cA ad ad0 N0 C hl
  exact lv_iload_n C.1.1 C.1.2.1 hd hi (xhas_at hl hl0) (k u9 C hl)
theorem xr_lload {i : Nat} {x : Int64} {q9 : Nat} (hd : xd M pc (.lload i) 2 q9) (hl0 : lo[i]? = some (some (.long x))) (k : xr M sc d q9 lo (.long x :: st) h rc rs Q) : xr M sc d pc lo (st) h rc rs Q := by
  obtain ⟨hd, rfl⟩ := hd
  intro u9 p l e s m args below meth c mc ms cells slots H locs ls D cA ad ad0 N0 C hl
  exact lv_lload C.1.1 C.1.2.1 hd (xhas_at hl hl0) (k u9 C hl)
theorem xr_lload_n {k9 : Fin 4} {i : Nat} {x : Int64} {q9 : Nat} (hd : xd M pc (.lload_n k9) 1 q9) (hi : (k9 : Nat) = i) (hl0 : lo[i]? = some (some (.long x))) (k : xr M sc d q9 lo (.long x :: st) h rc rs Q) : xr M sc d pc lo (st) h rc rs Q := by
  obtain ⟨hd, rfl⟩ := hd
  intro u9 p l e s m args below meth c mc ms cells slots H locs ls D cA ad ad0 N0 C hl
  exact lv_lload_n C.1.1 C.1.2.1 hd hi (xhas_at hl hl0) (k u9 C hl)
theorem xr_aload {i : Nat} {x : Nat} {q9 : Nat} (hd : xd M pc (.aload i) 2 q9) (hl0 : lo[i]? = some (some (.ref x))) (k : xr M sc d q9 lo (.ref x :: st) h rc rs Q) : xr M sc d pc lo (st) h rc rs Q := by
  obtain ⟨hd, rfl⟩ := hd
  intro u9 p l e s m args below meth c mc ms cells slots H locs ls D cA ad ad0 N0 C hl
  exact lv_aload C.1.1 C.1.2.1 hd (xhas_at hl hl0) (k u9 C hl)
theorem xr_aload_n {k9 : Fin 4} {i : Nat} {x : Nat} {q9 : Nat} (hd : xd M pc (.aload_n k9) 1 q9) (hi : (k9 : Nat) = i) (hl0 : lo[i]? = some (some (.ref x))) (k : xr M sc d q9 lo (.ref x :: st) h rc rs Q) : xr M sc d pc lo (st) h rc rs Q := by
  obtain ⟨hd, rfl⟩ := hd
  intro u9 p l e s m args below meth c mc ms cells slots H locs ls D cA ad ad0 N0 C hl
  exact lv_aload_n C.1.1 C.1.2.1 hd hi (xhas_at hl hl0) (k u9 C hl)
theorem xr_istore {i : Nat} {x : Int32} {q9 : Nat} (hd : xd M pc (.istore i) 2 q9) (hn : i < M.2.2.1) (k : xr M sc d q9 (xst lo i (.int x)) st h rc rs Q) : xr M sc d pc lo (.int x :: st) h rc rs Q := by
  obtain ⟨hd, rfl⟩ := hd
  intro u9 p l e s m args below meth c mc ms cells slots H locs ls D cA ad ad0 N0 C hl
  exact lv_istore C.1.1 C.1.2.1 hd hl hn rfl (fun ls' hl' => k u9 C (xhas_st hl'))
theorem xr_istore_n {k9 : Fin 4} {i : Nat} {x : Int32} {q9 : Nat} (hd : xd M pc (.istore_n k9) 1 q9) (hi : (k9 : Nat) = i) (hn : i < M.2.2.1) (k : xr M sc d q9 (xst lo i (.int x)) st h rc rs Q) : xr M sc d pc lo (.int x :: st) h rc rs Q := by
  obtain ⟨hd, rfl⟩ := hd
  intro u9 p l e s m args below meth c mc ms cells slots H locs ls D cA ad ad0 N0 C hl
  exact lv_istore_n C.1.1 C.1.2.1 hd hi hl hn rfl (fun ls' hl' => k u9 C (xhas_st hl'))
theorem xr_astore {i : Nat} {x : Nat} {q9 : Nat} (hd : xd M pc (.astore i) 2 q9) (hn : i < M.2.2.1) (k : xr M sc d q9 (xst lo i (.ref x)) st h rc rs Q) : xr M sc d pc lo (.ref x :: st) h rc rs Q := by
  obtain ⟨hd, rfl⟩ := hd
  intro u9 p l e s m args below meth c mc ms cells slots H locs ls D cA ad ad0 N0 C hl
  exact lv_astore C.1.1 C.1.2.1 hd hl hn rfl (fun ls' hl' => k u9 C (xhas_st hl'))
theorem xr_astore_n {k9 : Fin 4} {i : Nat} {x : Nat} {q9 : Nat} (hd : xd M pc (.astore_n k9) 1 q9) (hi : (k9 : Nat) = i) (hn : i < M.2.2.1) (k : xr M sc d q9 (xst lo i (.ref x)) st h rc rs Q) : xr M sc d pc lo (.ref x :: st) h rc rs Q := by
  obtain ⟨hd, rfl⟩ := hd
  intro u9 p l e s m args below meth c mc ms cells slots H locs ls D cA ad ad0 N0 C hl
  exact lv_astore_n C.1.1 C.1.2.1 hd hi hl hn rfl (fun ls' hl' => k u9 C (xhas_st hl'))
theorem xr_lstore {i : Nat} {x : Int64} {q9 : Nat} (hd : xd M pc (.lstore i) 2 q9) (hn : i + 1 < M.2.2.1) (k : xr M sc d q9 (xst2 lo i (.long x)) st h rc rs Q) : xr M sc d pc lo (.long x :: st) h rc rs Q := by
  obtain ⟨hd, rfl⟩ := hd
  intro u9 p l e s m args below meth c mc ms cells slots H locs ls D cA ad ad0 N0 C hl
  exact lv_lstore C.1.1 C.1.2.1 hd hl hn rfl (fun ls' hl' => k u9 C (xhas_st2 hl'))
theorem xr_lstore_n {k9 : Fin 4} {i : Nat} {x : Int64} {q9 : Nat} (hd : xd M pc (.lstore_n k9) 1 q9) (hi : (k9 : Nat) = i) (hn : i + 1 < M.2.2.1) (k : xr M sc d q9 (xst2 lo i (.long x)) st h rc rs Q) : xr M sc d pc lo (.long x :: st) h rc rs Q := by
  obtain ⟨hd, rfl⟩ := hd
  intro u9 p l e s m args below meth c mc ms cells slots H locs ls D cA ad ad0 N0 C hl
  exact lv_lstore_n C.1.1 C.1.2.1 hd hi hl hn rfl (fun ls' hl' => k u9 C (xhas_st2 hl'))
theorem xlv_idx {ad : Nat → Nat} {lo : xL} {i : Nat} {v : Value} (h : lo[i]? = some (some v)) : ∃ k : Nat, (xlv ad lo)[k]? = some (i, xv ad v) := List.mem_iff_getElem?.mp (xlv_mem.mpr ⟨v, h, rfl⟩)
theorem xr_iinc {i : Nat} {n : Int} {x c9 : Int32} {q9 : Nat} (hd : xd M pc (.iinc i n) 3 q9) (hc : Int32.ofInt n = c9) (hl0 : lo[i]? = some (some (.int x))) (hn : i < M.2.2.1) (k : xr M sc d q9 (xst lo i (.int (x + c9))) st h rc rs Q) : xr M sc d pc lo st h rc rs Q := by
  obtain ⟨hd, rfl⟩ := hd
  subst hc
  intro u9 p l e s m args below meth c mc ms cells slots H locs ls D cA ad ad0 N0 C hl
  obtain ⟨k9, hk9⟩ := xlv_idx (ad := ad) hl0
  exact lv_iinc C.1.1 C.1.2.1 hd hl hk9 rfl hn rfl (fun ls' hl' => k u9 C (xhas_st (v := .int (x + Int32.ofInt n)) hl'))
theorem xr_dup {v : Value} {q9 : Nat} (hd : xd M pc (.dup) 1 q9) (hv : v.category = 1) (k : xr M sc d q9 lo (v :: v :: st) h rc rs Q) : xr M sc d pc lo (v :: st) h rc rs Q := by
  obtain ⟨hd, rfl⟩ := hd
  intro u9 p l e s m args below meth c mc ms cells slots H locs ls D cA ad ad0 N0 C hl
  exact lv_dup C.1.1 C.1.2.1 hd ((xv_cat ad v).trans hv) (k u9 C hl)
theorem xr_dup2_11 {v w : Value} {q9 : Nat} (hd : xd M pc (.dup2) 1 q9) (hv : v.category = 1) (hw : w.category = 1) (k : xr M sc d q9 lo (v :: w :: v :: w :: st) h rc rs Q) : xr M sc d pc lo (v :: w :: st) h rc rs Q := by
  obtain ⟨hd, rfl⟩ := hd
  intro u9 p l e s m args below meth c mc ms cells slots H locs ls D cA ad ad0 N0 C hl
  exact lv_dup2_11 C.1.1 C.1.2.1 hd ((xv_cat ad v).trans hv) ((xv_cat ad w).trans hw) (k u9 C hl)
theorem xr_dup_x1 {v w : Value} {q9 : Nat} (hd : xd M pc (.dup_x1) 1 q9) (hv : v.category = 1) (hw : w.category = 1) (k : xr M sc d q9 lo (v :: w :: v :: st) h rc rs Q) : xr M sc d pc lo (v :: w :: st) h rc rs Q := by
  obtain ⟨hd, rfl⟩ := hd
  intro u9 p l e s m args below meth c mc ms cells slots H locs ls D cA ad ad0 N0 C hl
  exact lv_dup_x1 C.1.1 C.1.2.1 hd ((xv_cat ad v).trans hv) ((xv_cat ad w).trans hw) (k u9 C hl)
theorem xr_dup_x2 {v w z : Value} {q9 : Nat} (hd : xd M pc (.dup_x2) 1 q9) (hv : v.category = 1) (hw : w.category = 1) (hz : z.category = 1) (k : xr M sc d q9 lo (v :: w :: z :: v :: st) h rc rs Q) : xr M sc d pc lo (v :: w :: z :: st) h rc rs Q := by
  obtain ⟨hd, rfl⟩ := hd
  intro u9 p l e s m args below meth c mc ms cells slots H locs ls D cA ad ad0 N0 C hl
  exact lv_dup_x2 C.1.1 C.1.2.1 hd ((xv_cat ad v).trans hv) ((xv_cat ad w).trans hw) ((xv_cat ad z).trans hz) (k u9 C hl)
theorem xr_pop {v : Value} {q9 : Nat} (hd : xd M pc (.pop) 1 q9) (hv : v.category = 1) (k : xr M sc d q9 lo st h rc rs Q) : xr M sc d pc lo (v :: st) h rc rs Q := by
  obtain ⟨hd, rfl⟩ := hd
  intro u9 p l e s m args below meth c mc ms cells slots H locs ls D cA ad ad0 N0 C hl
  exact lv_pop C.1.1 C.1.2.1 hd ((xv_cat ad v).trans hv) (k u9 C hl)
theorem xr_if_eq {x : Int32} {off : Int} {tgt : Nat} {q9 : Nat} (hd : xd M pc (.ifCond .eq off) 3 q9) (ht : (pc : Int) + off = (tgt : Int)) (kt : x = 0 → xr M sc d tgt lo st h rc rs Q) (kf : ¬ x = 0 → xr M sc d q9 lo st h rc rs Q) : xr M sc d pc lo (.int x :: st) h rc rs Q := by
  obtain ⟨hd, rfl⟩ := hd
  intro u9 p l e s m args below meth c mc ms cells slots H locs ls D cA ad ad0 N0 C hl
  exact lv_if_eq C.1.1 C.1.2.1 hd ht (fun q => kt q u9 C hl) (fun q => kf q u9 C hl)
theorem xr_icmp_eq {x y : Int32} {off : Int} {tgt : Nat} {q9 : Nat} (hd : xd M pc (.if_icmp .eq off) 3 q9) (ht : (pc : Int) + off = (tgt : Int)) (kt : x = y → xr M sc d tgt lo st h rc rs Q) (kf : ¬ x = y → xr M sc d q9 lo st h rc rs Q) : xr M sc d pc lo (.int y :: .int x :: st) h rc rs Q := by
  obtain ⟨hd, rfl⟩ := hd
  intro u9 p l e s m args below meth c mc ms cells slots H locs ls D cA ad ad0 N0 C hl
  exact lv_icmp_eq C.1.1 C.1.2.1 hd ht (fun q => kt q u9 C hl) (fun q => kf q u9 C hl)
theorem xr_if_ne {x : Int32} {off : Int} {tgt : Nat} {q9 : Nat} (hd : xd M pc (.ifCond .ne off) 3 q9) (ht : (pc : Int) + off = (tgt : Int)) (kt : ¬ x = 0 → xr M sc d tgt lo st h rc rs Q) (kf : x = 0 → xr M sc d q9 lo st h rc rs Q) : xr M sc d pc lo (.int x :: st) h rc rs Q := by
  obtain ⟨hd, rfl⟩ := hd
  intro u9 p l e s m args below meth c mc ms cells slots H locs ls D cA ad ad0 N0 C hl
  exact lv_if_ne C.1.1 C.1.2.1 hd ht (fun q => kt q u9 C hl) (fun q => kf q u9 C hl)
theorem xr_icmp_ne {x y : Int32} {off : Int} {tgt : Nat} {q9 : Nat} (hd : xd M pc (.if_icmp .ne off) 3 q9) (ht : (pc : Int) + off = (tgt : Int)) (kt : ¬ x = y → xr M sc d tgt lo st h rc rs Q) (kf : x = y → xr M sc d q9 lo st h rc rs Q) : xr M sc d pc lo (.int y :: .int x :: st) h rc rs Q := by
  obtain ⟨hd, rfl⟩ := hd
  intro u9 p l e s m args below meth c mc ms cells slots H locs ls D cA ad ad0 N0 C hl
  exact lv_icmp_ne C.1.1 C.1.2.1 hd ht (fun q => kt q u9 C hl) (fun q => kf q u9 C hl)
theorem xr_if_lt {x : Int32} {off : Int} {tgt : Nat} {q9 : Nat} (hd : xd M pc (.ifCond .lt off) 3 q9) (ht : (pc : Int) + off = (tgt : Int)) (kt : x < 0 → xr M sc d tgt lo st h rc rs Q) (kf : ¬ x < 0 → xr M sc d q9 lo st h rc rs Q) : xr M sc d pc lo (.int x :: st) h rc rs Q := by
  obtain ⟨hd, rfl⟩ := hd
  intro u9 p l e s m args below meth c mc ms cells slots H locs ls D cA ad ad0 N0 C hl
  exact lv_if_lt C.1.1 C.1.2.1 hd ht (fun q => kt q u9 C hl) (fun q => kf q u9 C hl)
theorem xr_icmp_lt {x y : Int32} {off : Int} {tgt : Nat} {q9 : Nat} (hd : xd M pc (.if_icmp .lt off) 3 q9) (ht : (pc : Int) + off = (tgt : Int)) (kt : x < y → xr M sc d tgt lo st h rc rs Q) (kf : ¬ x < y → xr M sc d q9 lo st h rc rs Q) : xr M sc d pc lo (.int y :: .int x :: st) h rc rs Q := by
  obtain ⟨hd, rfl⟩ := hd
  intro u9 p l e s m args below meth c mc ms cells slots H locs ls D cA ad ad0 N0 C hl
  exact lv_icmp_lt C.1.1 C.1.2.1 hd ht (fun q => kt q u9 C hl) (fun q => kf q u9 C hl)
theorem xr_if_ge {x : Int32} {off : Int} {tgt : Nat} {q9 : Nat} (hd : xd M pc (.ifCond .ge off) 3 q9) (ht : (pc : Int) + off = (tgt : Int)) (kt : 0 ≤ x → xr M sc d tgt lo st h rc rs Q) (kf : ¬ 0 ≤ x → xr M sc d q9 lo st h rc rs Q) : xr M sc d pc lo (.int x :: st) h rc rs Q := by
  obtain ⟨hd, rfl⟩ := hd
  intro u9 p l e s m args below meth c mc ms cells slots H locs ls D cA ad ad0 N0 C hl
  exact lv_if_ge C.1.1 C.1.2.1 hd ht (fun q => kt q u9 C hl) (fun q => kf q u9 C hl)
theorem xr_icmp_ge {x y : Int32} {off : Int} {tgt : Nat} {q9 : Nat} (hd : xd M pc (.if_icmp .ge off) 3 q9) (ht : (pc : Int) + off = (tgt : Int)) (kt : y ≤ x → xr M sc d tgt lo st h rc rs Q) (kf : ¬ y ≤ x → xr M sc d q9 lo st h rc rs Q) : xr M sc d pc lo (.int y :: .int x :: st) h rc rs Q := by
  obtain ⟨hd, rfl⟩ := hd
  intro u9 p l e s m args below meth c mc ms cells slots H locs ls D cA ad ad0 N0 C hl
  exact lv_icmp_ge C.1.1 C.1.2.1 hd ht (fun q => kt q u9 C hl) (fun q => kf q u9 C hl)
theorem xr_if_gt {x : Int32} {off : Int} {tgt : Nat} {q9 : Nat} (hd : xd M pc (.ifCond .gt off) 3 q9) (ht : (pc : Int) + off = (tgt : Int)) (kt : 0 < x → xr M sc d tgt lo st h rc rs Q) (kf : ¬ 0 < x → xr M sc d q9 lo st h rc rs Q) : xr M sc d pc lo (.int x :: st) h rc rs Q := by
  obtain ⟨hd, rfl⟩ := hd
  intro u9 p l e s m args below meth c mc ms cells slots H locs ls D cA ad ad0 N0 C hl
  exact lv_if_gt C.1.1 C.1.2.1 hd ht (fun q => kt q u9 C hl) (fun q => kf q u9 C hl)
theorem xr_icmp_gt {x y : Int32} {off : Int} {tgt : Nat} {q9 : Nat} (hd : xd M pc (.if_icmp .gt off) 3 q9) (ht : (pc : Int) + off = (tgt : Int)) (kt : y < x → xr M sc d tgt lo st h rc rs Q) (kf : ¬ y < x → xr M sc d q9 lo st h rc rs Q) : xr M sc d pc lo (.int y :: .int x :: st) h rc rs Q := by
  obtain ⟨hd, rfl⟩ := hd
  intro u9 p l e s m args below meth c mc ms cells slots H locs ls D cA ad ad0 N0 C hl
  exact lv_icmp_gt C.1.1 C.1.2.1 hd ht (fun q => kt q u9 C hl) (fun q => kf q u9 C hl)
theorem xr_if_le {x : Int32} {off : Int} {tgt : Nat} {q9 : Nat} (hd : xd M pc (.ifCond .le off) 3 q9) (ht : (pc : Int) + off = (tgt : Int)) (kt : x ≤ 0 → xr M sc d tgt lo st h rc rs Q) (kf : ¬ x ≤ 0 → xr M sc d q9 lo st h rc rs Q) : xr M sc d pc lo (.int x :: st) h rc rs Q := by
  obtain ⟨hd, rfl⟩ := hd
  intro u9 p l e s m args below meth c mc ms cells slots H locs ls D cA ad ad0 N0 C hl
  exact lv_if_le C.1.1 C.1.2.1 hd ht (fun q => kt q u9 C hl) (fun q => kf q u9 C hl)
theorem xr_icmp_le {x y : Int32} {off : Int} {tgt : Nat} {q9 : Nat} (hd : xd M pc (.if_icmp .le off) 3 q9) (ht : (pc : Int) + off = (tgt : Int)) (kt : x ≤ y → xr M sc d tgt lo st h rc rs Q) (kf : ¬ x ≤ y → xr M sc d q9 lo st h rc rs Q) : xr M sc d pc lo (.int y :: .int x :: st) h rc rs Q := by
  obtain ⟨hd, rfl⟩ := hd
  intro u9 p l e s m args below meth c mc ms cells slots H locs ls D cA ad ad0 N0 C hl
  exact lv_icmp_le C.1.1 C.1.2.1 hd ht (fun q => kt q u9 C hl) (fun q => kf q u9 C hl)
theorem xr_goto {off : Int} {tgt : Nat} {q9 : Nat} (hd : xd M pc (.goto off) 3 q9) (ht : (pc : Int) + off = (tgt : Int)) (k : xr M sc d tgt lo st h rc rs Q) : xr M sc d pc lo st h rc rs Q := by
  obtain ⟨hd, rfl⟩ := hd
  intro u9 p l e s m args below meth c mc ms cells slots H locs ls D cA ad ad0 N0 C hl
  exact lv_goto C.1.1 C.1.2.1 hd ht (k u9 C hl)
theorem xr_tableOut {dflt lw hi : Int} {offs : Array Int} {len : Nat} {x : Int32} {tgt : Nat} {q9 : Nat} (hd : xd M pc (.tableswitch dflt lw hi offs) len q9) (hx : x.toInt < lw ∨ hi < x.toInt) (ht : (pc : Int) + dflt = (tgt : Int)) (k : xr M sc d tgt lo st h rc rs Q) : xr M sc d pc lo (.int x :: st) h rc rs Q := by
  obtain ⟨hd, rfl⟩ := hd
  intro u9 p l e s m args below meth c mc ms cells slots H locs ls D cA ad ad0 N0 C hl
  exact lv_tableOut C.1.1 C.1.2.1 hd hx ht (k u9 C hl)
theorem xr_tableIn {dflt lw hi : Int} {offs : Array Int} {len : Nat} {x : Int32} {off : Int} {tgt : Nat} {q9 : Nat} (hd : xd M pc (.tableswitch dflt lw hi offs) len q9) (h1 : ¬ x.toInt < lw) (h2 : ¬ hi < x.toInt) (ho : offs[(x.toInt - lw).toNat]? = some off) (ht : (pc : Int) + off = (tgt : Int)) (k : xr M sc d tgt lo st h rc rs Q) : xr M sc d pc lo (.int x :: st) h rc rs Q := by
  obtain ⟨hd, rfl⟩ := hd
  intro u9 p l e s m args below meth c mc ms cells slots H locs ls D cA ad ad0 N0 C hl
  exact lv_tableIn C.1.1 C.1.2.1 hd h1 h2 ho ht (k u9 C hl)
theorem xr_lookup {dflt : Int} {ps : Array (Int × Int)} {len : Nat} {x : Int32} {off : Int} {tgt : Nat} {q9 : Nat} (hd : xd M pc (.lookupswitch dflt ps) len q9) (hp : (ps.toList.zip (ps.toList.drop 1)).all (fun (a, next) => a.1 < next.1) = true) (ho : Op.lookupswitch.offset ps.toList dflt x.toInt = off) (ht : (pc : Int) + off = (tgt : Int)) (k : xr M sc d tgt lo st h rc rs Q) : xr M sc d pc lo (.int x :: st) h rc rs Q := by
  obtain ⟨hd, rfl⟩ := hd
  intro u9 p l e s m args below meth c mc ms cells slots H locs ls D cA ad ad0 N0 C hl
  exact lv_lookup C.1.1 C.1.2.1 hd hp ho ht (k u9 C hl)
end XR
end
section
theorem xv_narrow {ad : Nat → Nat} {ty : FieldType} {v : Value} (h : narrow ty v = v) : narrow ty (xv ad v) = xv ad v := by
  cases v with
  | ref k => cases ty <;> rfl
  | _ => exact h
theorem xv_fits {ad : Nat → Nat} {ty : FieldType} {v : Value} (h : fits ty v = true) : fits ty (xv ad v) = true := by
  cases v with
  | ref k => cases ty <;> first | rfl | exact h
  | _ => exact h
section XH
variable {M : xM} {sc : xSc} {d : Nat × Nat} {pc : Nat} {lo : xL} {st : List Value} {h : List xC} {rc rs : Nat} {Q : xO → Prop}
theorem xr_getf {idx ci k a : Nat} {fs : List Value} {v : Value} (hf : xfl M.1.cls idx ci k) {q9 : Nat} (hd : xd M pc (.getfield idx) 3 q9) (ha : h[a]? = some (.inl (ci, fs))) (hv : fs[k]? = some v)
    (kk : xr M sc d q9 lo (v :: st) h rc rs Q) : xr M sc d pc lo (.ref a :: st) h rc rs Q := by
  obtain ⟨hd, rfl⟩ := hd
  intro u9 p l e s m args below meth c mc ms cells slots H locs ls D cA ad ad0 N0 C hl
  obtain ⟨C1, T, N, hc, hk, hin, hlk⟩ := hf
  have hk2 := kk u9 C hl (below := below)
  obtain ⟨⟨hx, hb, hml, hr, hlo, hown, hnm, htb, hll⟩, hts, hF, hcs, hK, hN, hP, hD, hS⟩ := C
  have hat := xw_at (cA := cA) (ad := ad) ha
  have hv2 : (fs.map (xv ad))[k]? = some (xv ad v) := by rw [List.getElem?_map, hv]; rfl
  rcases hlk with hlk | ⟨host, hlk⟩
  · exact va_get (D := D) (ci := ci) (v := xv ad v) (C := C1) (T := T) (N := N) hx hb hts hin hown hK hP a hat hc k hk (hts _ hlk) (fun _ h9 => h9) hv2 hd hk2
  · exact va_getN (D := D) (ci := ci) (v := xv ad v) (C := C1) (T := T) (N := N) hx hb hts hin hown hK hP a hat hc k hk (va_Nw.use rfl (hF.1 _ hlk)) (fun _ h9 => h9) hv2 hd hk2
theorem xr_putf {idx ci k a : Nat} {fs : List Value} {v : Value} {h' : List xC} {ty0 : Nat → FieldType} (hf : xfl M.1.cls idx ci k) (hty : xft ci ty0) (hfin : xfin ci k false) {q9 : Nat} (hd : xd M pc (.putfield idx) 3 q9) (ha : h[a]? = some (.inl (ci, fs))) (hl0 : k < fs.length)
    (hn : narrow (ty0 k) v = v) (hfit : fits (ty0 k) v = true) (hh : h.set a (.inl (ci, fs.set k v)) = h')
    (kk : xr M sc d q9 lo st h' rc rs Q) : xr M sc d pc lo (v :: .ref a :: st) h rc rs Q := by
  obtain ⟨hd, rfl⟩ := hd
  intro u9 p l e s m args below meth c mc ms cells slots H locs ls D cA ad ad0 N0 C hl
  subst hh
  obtain ⟨C1, T, N, hc, hk, hin, hlk⟩ := hf
  obtain ⟨C2, T2, N2, hc2, ht1, ht2⟩ := hty
  cases Option.some.inj (hc.symm.trans hc2)
  obtain ⟨C3, T3, N3, hc3, ht3, -⟩ := hfin
  cases Option.some.inj (hc.symm.trans hc3)
  obtain ⟨⟨hx, hb, hml, hr, hlo, hown, hnm, htb, hll⟩, hts, hF, hcs, hK, hN, hP, hD, hS⟩ := C
  have hat := xw_at (cA := cA) (ad := ad) ha
  have hset : (xw cA ad h).set a (ad a, .inr (ci, (fs.map (xv ad)).set k (xv ad v))) = xw cA ad (h.set a (.inl (ci, fs.set k v))) := by
    rw [← xw_set]
    show _ = (xw cA ad h).set a (ad a, .inr (ci, (fs.set k v).map (xv ad)))
    rw [List.map_set]
  have key : ∀ (H1 : Heap) (locs1 : List Loc), va_P D vwCl ((xw cA ad h).set a (ad a, .inr (ci, (fs.map (xv ad)).set k (xv ad v)))) H1 → va_D (xA ad0 N0 s.heap.size) ((xw cA ad h).set a (ad a, .inr (ci, (fs.map (xv ad)).set k (xv ad v)))) → va_S (xA ad0 N0 s.heap.size) s.heap H1 locs1 → W p l e (xrm d mc ms) s m args below meth c H1 locs1 cells slots (xQ below D cA ad0 N0 Q s mc ms) (F0 m (pc + 3) ls (st.map (xv ad))) := by
    intro H1 locs1 hP1 hD1 hS1
    rw [hset] at hP1 hD1
    exact kk u9 ⟨⟨hx, hb, hml, hr, hlo, hown, hnm, htb, hll⟩, hts, hF, hcs, hK, by rw [List.length_set]; exact hN, hP1, hD1, hS1⟩ hl
  have hlen : k < (fs.map (xv ad)).length := by rw [List.length_map]; exact hl0
  rcases hlk with hlk | ⟨host, hlk⟩
  · exact va_put (D := D) (ci := ci) (v := xv ad v) (C := C1) (T := T) (N := N) hx hb hts hin ty0 ht1 ht2 hown hK hP hD hS a hat hc k hk (hts _ hlk) (fun _ h9 => h9) ht3 (ht1 k hk) (xv_narrow hn) (xv_fits hfit) hlen hd key
  · exact va_putN (D := D) (ci := ci) (v := xv ad v) (C := C1) (T := T) (N := N) hx hb hts hin ty0 ht1 ht2 hown hK hP hD hS a hat hc k hk (va_Nw.use rfl (hF.1 _ hlk)) (fun _ h9 => h9) ht3 (ht1 k hk) (xv_narrow hn) (xv_fits hfit) hlen hd key
theorem xr_putF {idx ci k a : Nat} {fs : List Value} {v : Value} {h' : List xC} {ty0 : Nat → FieldType} (hf : xfl M.1.cls idx ci k) (hty : xft ci ty0) (hfin : xfin ci k true) (hcl : ∃ (T : u_T) (N : Nat), vwCl[ci]? = some (M.1.cls, T, N)) (hnn : M.1.name = "<init>") (hlf : ∃ (C : String) (T : u_T) (N : Nat), vwCl[ci]? = some (C, T, N) ∧ Cond.fieldLink M.1.cls idx (T k).1 (T k).2.1 (T k).2.2.1 ∈ xtb) {q9 : Nat} (hd : xd M pc (.putfield idx) 3 q9) (ha : h[a]? = some (.inl (ci, fs))) (hl0 : k < fs.length)
    (hn : narrow (ty0 k) v = v) (hfit : fits (ty0 k) v = true) (hh : h.set a (.inl (ci, fs.set k v)) = h')
    (kk : xr M sc d q9 lo st h' rc rs Q) : xr M sc d pc lo (v :: .ref a :: st) h rc rs Q := by
  obtain ⟨hd, rfl⟩ := hd
  intro u9 p l e s m args below meth c mc ms cells slots H locs ls D cA ad ad0 N0 C hl
  subst hh
  obtain ⟨C1, T, N, hc, hk, hin, -⟩ := hf
  obtain ⟨C2, T2, N2, hc2, ht1, ht2⟩ := hty
  cases Option.some.inj (hc.symm.trans hc2)
  obtain ⟨C3, T3, N3, hc3, ht3, ht4⟩ := hfin
  cases Option.some.inj (hc.symm.trans hc3)
  obtain ⟨T4, N4, hc4⟩ := hcl
  obtain ⟨C5, T5, N5, hc5, hlk⟩ := hlf
  cases Option.some.inj (hc.symm.trans hc5)
  have hC1 : C1 = M.1.cls := congrArg Prod.fst (Option.some.inj (hc.symm.trans hc4))
  obtain ⟨⟨hx, hb, hml, hr, hlo, hown, hnm, htb, hll⟩, hts, hF, hcs, hK, hN, hP, hD, hS⟩ := C
  have hat := xw_at (cA := cA) (ad := ad) ha
  have hset : (xw cA ad h).set a (ad a, .inr (ci, (fs.map (xv ad)).set k (xv ad v))) = xw cA ad (h.set a (.inl (ci, fs.set k v))) := by
    rw [← xw_set]
    show _ = (xw cA ad h).set a (ad a, .inr (ci, (fs.set k v).map (xv ad)))
    rw [List.map_set]
  have key : ∀ (H1 : Heap) (locs1 : List Loc), va_P D vwCl ((xw cA ad h).set a (ad a, .inr (ci, (fs.map (xv ad)).set k (xv ad v)))) H1 → va_D (xA ad0 N0 s.heap.size) ((xw cA ad h).set a (ad a, .inr (ci, (fs.map (xv ad)).set k (xv ad v)))) → va_S (xA ad0 N0 s.heap.size) s.heap H1 locs1 → W p l e (xrm d mc ms) s m args below meth c H1 locs1 cells slots (xQ below D cA ad0 N0 Q s mc ms) (F0 m (pc + 3) ls (st.map (xv ad))) := by
    intro H1 locs1 hP1 hD1 hS1
    rw [hset] at hP1 hD1
    exact kk u9 ⟨⟨hx, hb, hml, hr, hlo, hown, hnm, htb, hll⟩, hts, hF, hcs, hK, by rw [List.length_set]; exact hN, hP1, hD1, hS1⟩ hl
  have hlen : k < (fs.map (xv ad)).length := by rw [List.length_map]; exact hl0
  exact va_putF (D := D) (ci := ci) (v := xv ad v) (C := C1) (T := T) (N := N) hx hb hts hin ty0 ht1 ht2 hown hK hP hD hS a hat hc k hk (hts _ hlk) (fun _ h9 => h9) ht3 (hnm.trans hnn) (ht4.trans hC1) (ht1 k hk) (xv_narrow hn) (xv_fits hfit) hlen hd key
def xti (ty : FieldType) : Nat := match ty with
  | .int => 0
  | .byte => 1
  | .boolean => 2
  | _ => 3
def xtok (ty : FieldType) : Prop := ty = .int ∨ ty = .byte ∨ ty = .boolean ∨ ty = .long
theorem xt_at {cA : FieldType → ClassId} {ty : FieldType} (h : xtok ty) : (xT cA)[xti ty]? = some (cA ty, ty) := by
  rcases h with rfl | rfl | rfl | rfl <;> rfl
theorem xr_iald {a n : Nat} {f : Nat → Int32} {i : Int32} {q9 : Nat} (hd : xd M pc (.iaload) 1 q9) (ha : h[a]? = some (.inr (.int, n, .inl f))) (hin : vp_in i n)
    (kk : xr M sc d q9 lo (.int (f i.toNatClampNeg) :: st) h rc rs Q) : xr M sc d pc lo (.int i :: .ref a :: st) h rc rs Q := by
  obtain ⟨hd, rfl⟩ := hd
  intro u9 p l e s m args below meth c mc ms cells slots H locs ls D cA ad ad0 N0 C hl
  have hk2 := kk u9 C hl (below := below)
  obtain ⟨⟨hx, hb, hml, hr, hlo, hown, hnm, htb, hll⟩, hts, hF, hcs, hK, hN, hP, hD, hS⟩ := C
  exact va_iald hx hb hK hP a (xti .int) (xw_at (cA := cA) (ad := ad) ha) rfl hin hd hk2
theorem xr_bald {a n : Nat} {f : Nat → Int32} {i : Int32} {q9 : Nat} (hd : xd M pc (.baload) 1 q9) (ha : h[a]? = some (.inr (.byte, n, .inl f))) (hin : vp_in i n)
    (kk : xr M sc d q9 lo (.int (f i.toNatClampNeg) :: st) h rc rs Q) : xr M sc d pc lo (.int i :: .ref a :: st) h rc rs Q := by
  obtain ⟨hd, rfl⟩ := hd
  intro u9 p l e s m args below meth c mc ms cells slots H locs ls D cA ad ad0 N0 C hl
  have hk2 := kk u9 C hl (below := below)
  obtain ⟨⟨hx, hb, hml, hr, hlo, hown, hnm, htb, hll⟩, hts, hF, hcs, hK, hN, hP, hD, hS⟩ := C
  exact va_bald hx hb hK hP a (xti .byte) (xw_at (cA := cA) (ad := ad) ha) rfl hin hd hk2
theorem xr_zald {a n : Nat} {f : Nat → Int32} {i : Int32} {q9 : Nat} (hd : xd M pc (.baload) 1 q9) (ha : h[a]? = some (.inr (.boolean, n, .inl f))) (hin : vp_in i n)
    (kk : xr M sc d q9 lo (.int (f i.toNatClampNeg) :: st) h rc rs Q) : xr M sc d pc lo (.int i :: .ref a :: st) h rc rs Q := by
  obtain ⟨hd, rfl⟩ := hd
  intro u9 p l e s m args below meth c mc ms cells slots H locs ls D cA ad ad0 N0 C hl
  have hk2 := kk u9 C hl (below := below)
  obtain ⟨⟨hx, hb, hml, hr, hlo, hown, hnm, htb, hll⟩, hts, hF, hcs, hK, hN, hP, hD, hS⟩ := C
  exact va_zald hx hb hK hP a (xti .boolean) (xw_at (cA := cA) (ad := ad) ha) rfl hin hd hk2
theorem xr_lald {a n : Nat} {f : Nat → Int64} {i : Int32} {q9 : Nat} (hd : xd M pc (.laload) 1 q9) (ha : h[a]? = some (.inr (.long, n, .inr (.inl f)))) (hin : vp_in i n)
    (kk : xr M sc d q9 lo (.long (f i.toNatClampNeg) :: st) h rc rs Q) : xr M sc d pc lo (.int i :: .ref a :: st) h rc rs Q := by
  obtain ⟨hd, rfl⟩ := hd
  intro u9 p l e s m args below meth c mc ms cells slots H locs ls D cA ad ad0 N0 C hl
  have hk2 := kk u9 C hl (below := below)
  obtain ⟨⟨hx, hb, hml, hr, hlo, hown, hnm, htb, hll⟩, hts, hF, hcs, hK, hN, hP, hD, hS⟩ := C
  exact va_lald hx hb hK hP a (xti .long) (xw_at (cA := cA) (ad := ad) ha) rfl hin hd hk2
theorem xr_iast {a n : Nat} {f : Nat → Int32} {i : Int32} {x : Int32} {h' : List xC} {q9 : Nat} (hd : xd M pc (.iastore) 1 q9) (ha : h[a]? = some (.inr (.int, n, .inl f))) (hin : vp_in i n) (hh : h.set a (.inr (.int, n, .inl (upd f i.toNatClampNeg x))) = h')
    (kk : xr M sc d q9 lo st h' rc rs Q) : xr M sc d pc lo (.int x :: .int i :: .ref a :: st) h rc rs Q := by
  obtain ⟨hd, rfl⟩ := hd
  intro u9 p l e s m args below meth c mc ms cells slots H locs ls D cA ad ad0 N0 C hl
  subst hh
  obtain ⟨⟨hx, hb, hml, hr, hlo, hown, hnm, htb, hll⟩, hts, hF, hcs, hK, hN, hP, hD, hS⟩ := C
  refine va_iast hx hb hK hP hD hS a (xti .int) (xw_at (cA := cA) (ad := ad) ha) rfl hin hd (fun H1 locs1 hP1 hD1 hS1 => ?_)
  have hset : (xw cA ad h).set a (ad a, .inl (cA .int, n, .inl (upd f i.toNatClampNeg x))) = xw cA ad (h.set a (.inr (.int, n, .inl (upd f i.toNatClampNeg x)))) := xw_set (c := (.inr (.int, n, .inl (upd f i.toNatClampNeg x))))
  rw [hset] at hP1 hD1
  exact kk u9 ⟨⟨hx, hb, hml, hr, hlo, hown, hnm, htb, hll⟩, hts, hF, hcs, hK, by rw [List.length_set]; exact hN, hP1, hD1, hS1⟩ hl
theorem xr_bast {a n : Nat} {f : Nat → Int32} {i : Int32} {x : Int32} {h' : List xC} {q9 : Nat} (hd : xd M pc (.bastore) 1 q9) (ha : h[a]? = some (.inr (.byte, n, .inl f))) (hin : vp_in i n) (hh : h.set a (.inr (.byte, n, .inl (upd f i.toNatClampNeg (vp_nar .byte x)))) = h')
    (kk : xr M sc d q9 lo st h' rc rs Q) : xr M sc d pc lo (.int x :: .int i :: .ref a :: st) h rc rs Q := by
  obtain ⟨hd, rfl⟩ := hd
  intro u9 p l e s m args below meth c mc ms cells slots H locs ls D cA ad ad0 N0 C hl
  subst hh
  obtain ⟨⟨hx, hb, hml, hr, hlo, hown, hnm, htb, hll⟩, hts, hF, hcs, hK, hN, hP, hD, hS⟩ := C
  refine va_bast hx hb hK hP hD hS a (xti .byte) (xw_at (cA := cA) (ad := ad) ha) rfl hin hd (fun H1 locs1 hP1 hD1 hS1 => ?_)
  have hset : (xw cA ad h).set a (ad a, .inl (cA .byte, n, .inl (upd f i.toNatClampNeg (vp_nar .byte x)))) = xw cA ad (h.set a (.inr (.byte, n, .inl (upd f i.toNatClampNeg (vp_nar .byte x))))) := xw_set (c := (.inr (.byte, n, .inl (upd f i.toNatClampNeg (vp_nar .byte x)))))
  rw [hset] at hP1 hD1
  exact kk u9 ⟨⟨hx, hb, hml, hr, hlo, hown, hnm, htb, hll⟩, hts, hF, hcs, hK, by rw [List.length_set]; exact hN, hP1, hD1, hS1⟩ hl
theorem xr_zast {a n : Nat} {f : Nat → Int32} {i : Int32} {x : Int32} {h' : List xC} {q9 : Nat} (hd : xd M pc (.bastore) 1 q9) (ha : h[a]? = some (.inr (.boolean, n, .inl f))) (hin : vp_in i n) (hh : h.set a (.inr (.boolean, n, .inl (upd f i.toNatClampNeg (vp_nar .boolean x)))) = h')
    (kk : xr M sc d q9 lo st h' rc rs Q) : xr M sc d pc lo (.int x :: .int i :: .ref a :: st) h rc rs Q := by
  obtain ⟨hd, rfl⟩ := hd
  intro u9 p l e s m args below meth c mc ms cells slots H locs ls D cA ad ad0 N0 C hl
  subst hh
  obtain ⟨⟨hx, hb, hml, hr, hlo, hown, hnm, htb, hll⟩, hts, hF, hcs, hK, hN, hP, hD, hS⟩ := C
  refine va_zast hx hb hK hP hD hS a (xti .boolean) (xw_at (cA := cA) (ad := ad) ha) rfl hin hd (fun H1 locs1 hP1 hD1 hS1 => ?_)
  have hset : (xw cA ad h).set a (ad a, .inl (cA .boolean, n, .inl (upd f i.toNatClampNeg (vp_nar .boolean x)))) = xw cA ad (h.set a (.inr (.boolean, n, .inl (upd f i.toNatClampNeg (vp_nar .boolean x))))) := xw_set (c := (.inr (.boolean, n, .inl (upd f i.toNatClampNeg (vp_nar .boolean x)))))
  rw [hset] at hP1 hD1
  exact kk u9 ⟨⟨hx, hb, hml, hr, hlo, hown, hnm, htb, hll⟩, hts, hF, hcs, hK, by rw [List.length_set]; exact hN, hP1, hD1, hS1⟩ hl
theorem xr_last {a n : Nat} {f : Nat → Int64} {i : Int32} {x : Int64} {h' : List xC} {q9 : Nat} (hd : xd M pc (.lastore) 1 q9) (ha : h[a]? = some (.inr (.long, n, .inr (.inl f)))) (hin : vp_in i n) (hh : h.set a (.inr (.long, n, .inr (.inl (vp_updL f i.toNatClampNeg x)))) = h')
    (kk : xr M sc d q9 lo st h' rc rs Q) : xr M sc d pc lo (.long x :: .int i :: .ref a :: st) h rc rs Q := by
  obtain ⟨hd, rfl⟩ := hd
  intro u9 p l e s m args below meth c mc ms cells slots H locs ls D cA ad ad0 N0 C hl
  subst hh
  obtain ⟨⟨hx, hb, hml, hr, hlo, hown, hnm, htb, hll⟩, hts, hF, hcs, hK, hN, hP, hD, hS⟩ := C
  refine va_last hx hb hK hP hD hS a (xti .long) (xw_at (cA := cA) (ad := ad) ha) rfl hin hd (fun H1 locs1 hP1 hD1 hS1 => ?_)
  have hset : (xw cA ad h).set a (ad a, .inl (cA .long, n, .inr (.inl (vp_updL f i.toNatClampNeg x)))) = xw cA ad (h.set a (.inr (.long, n, .inr (.inl (vp_updL f i.toNatClampNeg x))))) := xw_set (c := (.inr (.long, n, .inr (.inl (vp_updL f i.toNatClampNeg x)))))
  rw [hset] at hP1 hD1
  exact kk u9 ⟨⟨hx, hb, hml, hr, hlo, hown, hnm, htb, hll⟩, hts, hF, hcs, hK, by rw [List.length_set]; exact hN, hP1, hD1, hS1⟩ hl
theorem xr_alen {a : Nat} {ty : FieldType} {x : vp_A} {v : Int32} {q9 : Nat} (hd : xd M pc (.arraylength) 1 q9) (ha : h[a]? = some (.inr (ty, x))) (hty : xtok ty) (hv : Int32.ofNat x.1 = v)
    (kk : xr M sc d q9 lo (.int v :: st) h rc rs Q) : xr M sc d pc lo (.ref a :: st) h rc rs Q := by
  obtain ⟨hd, rfl⟩ := hd
  intro u9 p l e s m args below meth c mc ms cells slots H locs ls D cA ad ad0 N0 C hl
  have hk2 := kk u9 C hl (below := below)
  obtain ⟨⟨hx, hb, hml, hr, hlo, hown, hnm, htb, hll⟩, hts, hF, hcs, hK, hN, hP, hD, hS⟩ := C
  exact va_alen hx hb hK hP a (xti ty) (xw_at (cA := cA) (ad := ad) ha) (xt_at hty) hv hd hk2
theorem xr_sld {n : Nat} {f : Nat → Int32} {i : Int32} {q9 : Nat} (hd : xd M pc (.iaload) 1 q9) (hsc : sc = some (n, f)) (hin : vp_in i n)
    (kk : xr M sc d q9 lo (.int (f i.toNatClampNeg) :: st) h rc rs Q) : xr M sc d pc lo (.int i :: .ref 1000000 :: st) h rc rs Q := by
  obtain ⟨hd, rfl⟩ := hd
  intro u9 p l e s m args below meth c mc ms cells slots H locs ls D cA ad ad0 N0 C hl
  have hk2 := kk u9 C hl (below := below)
  obtain ⟨⟨hx, hb, hml, hr, hlo, hown, hnm, htb, hll⟩, hts, hF, hcs, hK, hN, hP, hD, hS⟩ := C
  obtain ⟨hX, hbl, hbA⟩ := hF.2.2.1 _ hsc
  have e9 : ad 1000000 = ad0 1000000 := hN.2.1 _ (Or.inr hN.2.2.2)
  show W p l e _ s m args below meth c H locs cells slots _ (F0 m pc ls (.int i :: .ref (ad 1000000) :: st.map (xv ad)))
  rw [e9]
  exact va_sld hx hb hX hbl hbA hS hin hd hk2
theorem xr_slen {n : Nat} {f : Nat → Int32} {q9 : Nat} (hd : xd M pc (.arraylength) 1 q9) (hsc : sc = some (n, f))
    (kk : xr M sc d q9 lo (.int (Int32.ofNat n) :: st) h rc rs Q) : xr M sc d pc lo (.ref 1000000 :: st) h rc rs Q := by
  obtain ⟨hd, rfl⟩ := hd
  intro u9 p l e s m args below meth c mc ms cells slots H locs ls D cA ad ad0 N0 C hl
  have hk2 := kk u9 C hl (below := below)
  obtain ⟨⟨hx, hb, hml, hr, hlo, hown, hnm, htb, hll⟩, hts, hF, hcs, hK, hN, hP, hD, hS⟩ := C
  obtain ⟨hX, hbl, hbA⟩ := hF.2.2.1 _ hsc
  have e9 : ad 1000000 = ad0 1000000 := hN.2.1 _ (Or.inr hN.2.2.2)
  show W p l e _ s m args below meth c H locs cells slots _ (F0 m pc ls (.ref (ad 1000000) :: st.map (xv ad)))
  rw [e9]
  exact va_slen hx hb hX hbl hbA hS hd hk2
end XH
end
section
section XRET
variable {M : xM} {sc : xSc} {d : Nat × Nat} {pc : Nat} {lo : xL} {h : List xC} {rc rs : Nat} {Q : xO → Prop}
theorem xE_ret {D : va_G} {cA : FieldType → ClassId} {ad ad0 : Nat → Nat} {N0 mc ms : Nat} {s t : State} {H : Heap} {locs L : List Loc} {v : Option Value}
    (hN : N0 ≤ h.length) (hag : ∀ k, k < N0 ∨ h.length ≤ k → ad k = ad0 k) (hP : va_P D vwCl (xw cA ad h) H) (hD : va_D (xA ad0 N0 s.heap.size) (xw cA ad h)) (hS : va_S (xA ad0 N0 s.heap.size) s.heap H locs)
    (ht : t.heap = H) (hW : s.WarmedH t.vm) (hsm : s.sameButNew ({ t with vm := s.vm } : State) L mc ms) (hL : ∀ q ∈ L, xA ad0 N0 s.heap.size q.base) :
    xE D cA ad0 N0 (.inl v, h) s mc ms (.returned (v.map (xv ad))) t :=
  ⟨⟨L, hW, hsm, hL⟩, hN, hS.F ht, ad, hag, by rw [ht]; exact hP, hD, rfl⟩
theorem xr_zret {v : Int32} {ty : FieldType} (hrt : M.2.2.2.1 = some ty) (hn : narrow ty (.int v) = .int v) {q9 : Nat} (hd : xd M pc (.ireturn) 1 q9) (hq : Q (.inl (some (.int v)), h)) : xr M sc d pc lo [.int v] h rc rs Q := by
  obtain ⟨hd, rfl⟩ := hd
  intro u9 p l e s m args below meth c mc ms cells slots H locs ls D cA ad ad0 N0 C hl
  obtain ⟨⟨hx, hb, hml, hr, hlo, hown, hnm, htb, hll⟩, hts, hF, hcs, hK, hN, hP, hD, hS⟩ := C
  refine W.widen (k := mc) (n := ms) (by omega) (by omega) ?_
  refine W.mono ?_ (W.zret (Qc := fun _ _ oc t => oc = .returned (some (.int v)) ∧ t.heap = H) (free := xA ad0 N0 s.heap.size) (v := v) hx hb (hr.trans hrt) hn (fun t ht hW => ⟨rfl, ht⟩) hS.2.2 hd hlo)
  rintro t ⟨oc, h1, h2, ⟨rfl, ht⟩, L, ⟨-, hW, hsm⟩, hL⟩
  exact ⟨_, _, hq, h1, h2, xE_ret (v := some (.int v)) hN.1 hN.2.1 hP hD hS ht hW hsm hL⟩
theorem xr_iret {v : Int32} (hrt : M.2.2.2.1 = some .int) {q9 : Nat} (hd : xd M pc (.ireturn) 1 q9) (hq : Q (.inl (some (.int v)), h)) : xr M sc d pc lo [.int v] h rc rs Q := xr_zret hrt rfl hd hq
theorem xr_vret (hrt : M.2.2.2.1 = none) {q9 : Nat} (hd : xd M pc (.return_) 1 q9) (hq : Q (.inl none, h)) : xr M sc d pc lo [] h rc rs Q := by
  obtain ⟨hd, rfl⟩ := hd
  intro u9 p l e s m args below meth c mc ms cells slots H locs ls D cA ad ad0 N0 C hl
  obtain ⟨⟨hx, hb, hml, hr, hlo, hown, hnm, htb, hll⟩, hts, hF, hcs, hK, hN, hP, hD, hS⟩ := C
  refine W.widen (k := mc) (n := ms) (by omega) (by omega) ?_
  refine W.mono ?_ (W.vret (Qc := fun _ _ oc t => oc = .returned none ∧ t.heap = H) (free := xA ad0 N0 s.heap.size) hx hb (hr.trans hrt) (fun t ht hW => ⟨rfl, ht⟩) hS.2.2 hd hlo)
  rintro t ⟨oc, h1, h2, ⟨rfl, ht⟩, L, ⟨-, hW, hsm⟩, hL⟩
  exact ⟨_, _, hq, h1, h2, xE_ret (v := none) hN.1 hN.2.1 hP hD hS ht hW hsm hL⟩
theorem xr_aret {a : Nat} {rt : FieldType} (hrt : M.2.2.2.1 = some rt) (hrf : (∃ n, rt = .object n) ∨ ∃ t, rt = .array t) {q9 : Nat} (hd : xd M pc (.areturn) 1 q9) (hq : Q (.inl (some (.ref a)), h)) : xr M sc d pc lo [.ref a] h rc rs Q := by
  obtain ⟨hd, rfl⟩ := hd
  intro u9 p l e s m args below meth c mc ms cells slots H locs ls D cA ad ad0 N0 C hl
  obtain ⟨⟨hx, hb, hml, hr, hlo, hown, hnm, htb, hll⟩, hts, hF, hcs, hK, hN, hP, hD, hS⟩ := C
  refine W.widen (k := mc) (n := ms) (by omega) (by omega) ?_
  refine W.mono ?_ (W.aret (Qc := fun _ _ oc t => oc = .returned (some (.ref (ad a))) ∧ t.heap = H) (free := xA ad0 N0 s.heap.size) (v := .ref (ad a)) hx hb (hr.trans hrt) hrf (Or.inr ⟨_, rfl⟩) (fun t ht hW => ⟨rfl, ht⟩) hS.2.2 hd hlo)
  rintro t ⟨oc, h1, h2, ⟨rfl, ht⟩, L, ⟨-, hW, hsm⟩, hL⟩
  exact ⟨_, _, hq, h1, h2, xE_ret (v := some (.ref a)) hN.1 hN.2.1 hP hD hS ht hW hsm hL⟩
end XRET
def xen (n : Nat) (as : List Value) : xL := (as.flatMap (fun v => if v.category = 2 then [some v, none] else [some v])) ++ List.replicate (n - (lg_sl as).length) none
theorem xen_go {ad : Nat → Nat} : ∀ (as : List Value) (i j : Nat) (v : Value) (k : Nat), ((as.flatMap (fun v => if v.category = 2 then [some v, none] else [some v])) ++ List.replicate k (none : Option Value))[j]? = some (some v) → (i + j, xv ad v) ∈ lv_args i (as.map (xv ad))
  | [], i, j, v, k, h => by
    simp only [List.flatMap_nil, List.nil_append] at h
    rw [List.getElem?_replicate] at h
    split at h <;> cases h
  | w :: as, i, j, v, k, h => by
    rw [List.flatMap_cons] at h
    show _ ∈ (i, xv ad w) :: lv_args (if (xv ad w).category = 2 then i + 2 else i + 1) (as.map (xv ad))
    rw [xv_cat]
    by_cases hc : w.category = 2
    · rw [if_pos hc] at h
      rw [if_pos hc]
      match j, h with
      | 0, h => cases h; exact List.mem_cons_self
      | 1, h => cases h
      | j + 2, h =>
        have := xen_go (ad := ad) as (i + 2) j v k h
        rw [show i + 2 + j = i + (j + 2) by omega] at this
        exact List.mem_cons_of_mem _ this
    · rw [if_neg hc] at h
      rw [if_neg hc]
      match j, h with
      | 0, h => cases h; exact List.mem_cons_self
      | j + 1, h =>
        have := xen_go (ad := ad) as (i + 1) j v k h
        rw [show i + 1 + j = i + (j + 1) by omega] at this
        exact List.mem_cons_of_mem _ this
theorem lg_sl_map {ad : Nat → Nat} (as : List Value) : (lg_sl (as.map (xv ad))).length = (lg_sl as).length := by
  induction as with
  | nil => rfl
  | cons v as ih =>
    simp only [lg_sl, List.map_cons, List.flatMap_cons, List.length_append] at ih ⊢
    rw [ih, xv_cat]
    by_cases hc : v.category = 2 <;> simp [hc]
def xws (M : xM) : List Cond := Cond.code M.1 M.2.1 M.2.2.1 M.2.2.2.1 :: xtb
def xPc (D : va_G) (cA : FieldType → ClassId) (ad0 : Nat → Nat) (as : List Value) (h : List xC) : Array Value → State → Prop := fun a U =>
  a = (as.map (xv ad0)).toArray ∧ va_K D vwCl (xT cA) U ∧ xG none ad0 (xA ad0 h.length U.heap.size) U ∧ va_P D vwCl (xw cA ad0 h) U.heap ∧ va_D (fun _ => True) (xw cA ad0 h) ∧ h.length ≤ 1000000
def xm (M : xM) (d : Nat × Nat) (as : List Value) (h : List xC) (mc ms : Nat) (P : xO → Prop) : Prop :=
  ∀ (l : Launch), xl l → ∀ (D : va_G) (cA : FieldType → ClassId) (ad0 : Nat → Nat), MetFree l M.1 (headSpec (xws M) (xrm d mc ms)) (xPc D cA ad0 as h) (fun _ _ _ _ _ => True) (fun _ st oc t => ∃ o : xO, P o ∧ xE D cA ad0 h.length o st mc ms oc t)
theorem xplain {D : va_G} {cA : FieldType → ClassId} {ad : Nat → Nat} {h : List xC} {H : Heap} (hP : va_P D vwCl (xw cA ad h) H) : ∀ k, k < h.length → ∀ ce, H[ad k]? = some ce → ce.vm.isStatics = false := by
  intro k hk ce hce
  have hc : h[k]? = some h[k] := List.getElem?_eq_getElem hk
  have h1 := hP k _ (xw_at hc)
  cases hx : h[k] with
  | inl q =>
    rw [hx] at h1
    obtain ⟨r, -, cell, g1, -, g3, -⟩ := h1
    cases Option.some.inj (hce.symm.trans g1)
    rw [g3]; rfl
  | inr q =>
    rw [hx] at h1
    have h2 : H[ad k]? = some (vp_cell (cA q.1) q.2) := h1
    cases Option.some.inj (hce.symm.trans h2)
    obtain ⟨ty, n, f | f | f | f | f⟩ := q <;> rfl
theorem xd_self {D : va_G} {cA : FieldType → ClassId} {ad : Nat → Nat} {h : List xC} {sz : Nat} {A : Nat → Prop} (hD : va_D A (xw cA ad h)) : va_D (xA ad h.length sz) (xw cA ad h) := by
  refine ⟨hD.1, fun k q hq => ?_⟩
  obtain ⟨c, hc, rfl⟩ := xw_of hq
  exact Or.inl ⟨k, (List.getElem?_eq_some_iff.mp hc).1, rfl⟩
theorem xm_of {M : xM} {d : Nat × Nat} {as : List Value} {h : List xC} {mc ms : Nat} {P : xO → Prop} (hw : M.2.2.2.2 = []) (hpl : plainName M.1.cls = true) (hsz : (lg_sl as).length ≤ M.2.2.1) (k : xr M none d 0 (xen M.2.2.1 as) [] h mc ms P) : xm M d as h mc ms P := by
  intro l hll D cA ad0
  refine MetFree.of_bodyS (code := M.2.1) (maxLocals := M.2.2.1) (ret := M.2.2.2.1) hpl ?_ ?_
  · intro args s m h9 hn
    obtain ⟨meth, c, h1, h2, h3, h4, h5, h6, -, -⟩ := Cond.code_spec hn (atoms_spec (ws := xws M) h9 _ List.mem_cons_self)
    exact ⟨meth, c, h1, h2, h3, h4, h5, h6⟩
  · intro p e s m args below meth c s₁ B hml hP9 _
    obtain ⟨rfl, hK, hF, hP, hD, hlen⟩ := hP9
    have hh0 : s₁.heap = s.heap := by rw [B.state]; rfl
    have hts0 := atoms_spec (ws := xws M) B.pre
    have hown : s.vm.findClass M.1.cls = some m.cls := findClass_of_methodNamed B.named
    have hin : meth.name = M.1.name := (name_of_methodNamed B.named B.method).1
    have hempty := B.noHandlers (hts0 _ List.mem_cons_self)
    have htb : c.exceptionTable.toList.map (fun h => (h.startPc, h.endPc, h.handlerPc, h.catchType)) = M.2.2.2.2 := by
      rw [hw]
      have h0 : c.exceptionTable.size = 0 := by simpa [Array.isEmpty] using hempty
      have h1 : c.exceptionTable.toList = [] := List.eq_nil_of_length_eq_zero (by simpa using h0)
      rw [h1]; rfl
    have hl := lv_entry (as.map (xv ad0)) (n := M.2.2.1) (by rw [lg_sl_map]; exact hsz)
    have hxl : xhas ((lg_sl (as.map (xv ad0)) ++ List.replicate (M.2.2.1 - (lg_sl (as.map (xv ad0))).length) Slot.unset).toArray) M.2.2.1 ad0 (xen M.2.2.1 as) := by
      refine ⟨hl.1, hl.2.1, fun q hq => ?_⟩
      obtain ⟨v, h1, h2⟩ := xlv_mem.mp hq
      have h3 := xen_go (ad := ad0) as 0 q.1 v _ h1
      refine hl.2.2 q ?_
      rw [Nat.zero_add, ← h2] at h3
      exact h3
    have C : xC0 M none mc ms h p l e s m (as.map (xv ad0)).toArray meth c mc ms 0 0 s.heap [] D cA ad0 ad0 h.length :=
      ⟨⟨B.exec, B.bytes, hml, B.returns, B.notSynchronized, hown, hin, htb, hll⟩, fun w hw => hts0 w (List.mem_cons_of_mem _ hw), hF, ⟨by omega, by omega⟩, hK, ⟨Nat.le_refl _, fun _ _ => rfl, xplain hP, hlen⟩, hP, xd_self (D := D) hD, va_S.rf⟩
    have K := k () C hxl (below := below)
    rw [List.map_nil, ← lg_entry_eq] at K
    obtain ⟨t, a1, oc, o, b0, b1, b2, b3⟩ := K s₁ hh0 (Stand.of_body B)
    exact ⟨t, oc, a1, b1, b2, o, b0, b3⟩
theorem xmet {M : xM} {d : Nat × Nat} {as : List Value} {h : List xC} {mc ms : Nat} {P : xO → Prop} (hM : xm M d as h mc ms P) (hno : ∀ o, P o → ∃ v, o.1 = .inl v) {l : Launch} (hl : xl l) (D : va_G) (cA : FieldType → ClassId) (ad0 : Nat → Nat) (sz : Nat) :
    Met l M.1 (xws M) (xrm d mc ms) (fun a U => xPc D cA ad0 as h a U ∧ U.heap.size = sz) (fun _ st oc t => (∃ o : xO, P o ∧ xE D cA ad0 h.length o st mc ms oc t) ∧ st.heap.size = sz) mc ms (xA ad0 h.length sz) := by
  intro p e ha hc hk s m args below hf happ hP hK
  obtain ⟨n, oc, h1, h2, h3, o, h4, h5⟩ := hM l hl D cA ad0 p e ha hc hk s m args below hf happ hP.1 hK
  refine ⟨n, oc, h1, h2, h3, ⟨⟨o, h4, h5⟩, hP.2⟩, ?_⟩
  obtain ⟨v, hv⟩ := hno o h4
  obtain ⟨⟨L, q1, q2, q3⟩, -, -, ad', -, -, -, q4⟩ := h5
  rw [hv] at q4
  have q4 : oc = .returned (v.map (xv ad')) := q4
  exact ⟨L, ⟨⟨_, q4⟩, q1, q2⟩, by rw [← hP.2]; exact q3⟩
theorem xgood {M : xM} (hc : xcd M) : GoodIn xtb (xws M) := by
  intro w hw
  have hm : w ∈ xtb := by
    rcases List.mem_cons.mp hw with rfl | h
    · exact hc
    · exact h
  exact ⟨hm, good_of_word (List.mem_filter.mp hm).2⟩
theorem xblind {D : va_G} {cA : FieldType → ClassId} {ad0 : Nat → Nat} {as : List Value} {h : List xC} {sz : Nat} : FrameBlind (fun a U => xPc D cA ad0 as h a U ∧ U.heap.size = sz) := by
  intro a U g mk hp
  obtain ⟨⟨h1, h2, h3, h4, h5, h6⟩, h7⟩ := hp
  exact ⟨⟨h1, va_K.moved (u := U) (U := U.calling g mk a) (Vm.Alike.refl U.vm) h2, xG_same (u := U) (U := U.calling g mk a) rfl rfl h3, h4, h5, h6⟩, h7⟩
end
section
section XCALL
variable {M M' : xM} {sc : xSc} {d d' : Nat × Nat} {pc idx mc' ms' : Nat} {lo : xL} {st as : List Value} {h h' : List xC} {rc rs rc' rs' : Nat} {P Q : xO → Prop}
theorem xA_sub {D : va_G} {cA : FieldType → ClassId} {ad ad0 : Nat → Nat} {N0 sz sz2 : Nat} (hD : va_D (xA ad0 N0 sz) (xw cA ad h)) (hz : sz ≤ sz2) : ∀ q, xA ad h.length sz2 q → xA ad0 N0 sz q := by
  intro q hq
  rcases hq with ⟨k, hk, rfl⟩ | hq
  · exact hD.2 k _ (xw_at (List.getElem?_eq_getElem hk))
  · exact Or.inr (Nat.le_trans hz hq)
theorem xcontA {p : Program} {l : Launch} {e : Env} {s : State} {m : MethodId} {args : Array Value} {below : List Frame} {meth : Method} {c : Code} {mc ms cells slots : Nat} {H : Heap} {locs : List Loc} {ls : Array Slot} {D : va_G} {cA : FieldType → ClassId} {ad ad0 : Nat → Nat} {N0 : Nat} {st0 : List Value} {aa : Array Value}
    (C : xC0 M sc rc rs h p l e s m args meth c mc ms cells slots H locs D cA ad ad0 N0) (hl : xhas ls M.2.2.1 ad lo)
    (hr : va_Run p l e (xrm d mc ms) s m args below meth c H locs cells slots mc' ms' (F0 m pc ls st0) (st.map (xv ad)) (fun st oc t => (∃ o : xO, P o ∧ xE D cA ad h.length o st mc' ms' oc t) ∧ st.heap.size = H.size) (xA ad h.length H.size))
    (hrc : mc' + rc' ≤ rc) (hrs : ms' + rs' ≤ rs)
    (kk : ∀ (v : Option Value) (h' : List xC), P (.inl v, h') → h'.length ≤ 1000000 ∧ (∀ ad ad' : Nat → Nat, (∀ k, k < h.length ∨ h'.length ≤ k → ad' k = ad k) → st.map (xv ad') = st.map (xv ad) ∧ xlv ad' lo = xlv ad lo) ∧ xr M sc d (pc + 3) lo (v.toList ++ st) h' rc' rs' Q) : W p l e (xrm d mc ms) s m args below meth c H locs cells slots (xQ below D cA ad0 N0 Q s mc ms) (F0 m pc ls st0) := by
  intro T hT X
  obtain ⟨v9, st₀, t, T', L, h0, X', hL, e1, e2, ⟨⟨⟨r9, h'⟩, hPo, hE⟩, hsz⟩, gs⟩ := hr T hT X
  obtain ⟨-, hN', hFr, ad', hag', hP', hD', hoc⟩ := hE
  cases r9 with
  | inr E =>
    obtain ⟨q, ce, hq, -⟩ := hoc
    cases hq
  | inl v =>
  have hoc : Outcome.returned v9 = Outcome.returned (v.map (xv ad')) := hoc
  cases hoc
  obtain ⟨hlen, hw1, kk⟩ := kk v h' hPo
  obtain ⟨⟨hx, hb, hml, hr, hlo, hown, hnm, htb, hll⟩, hts, hF, hcs, hK, ⟨hN, hag, hpl, hln⟩, hP, hD, hS⟩ := C
  have hN' : h.length ≤ h'.length := hN'
  have hag' : ∀ k, k < h.length ∨ h'.length ≤ k → ad' k = ad k := hag'
  obtain ⟨hw2, hw3⟩ := hw1 ad ad' hag'
  have hsub := xA_sub (D := D) (sz2 := H.size) hD hS.1
  rw [hsz] at hFr hD'
  unfold va_F at hFr
  rw [h0] at hFr
  have hS' : va_S (xA ad0 N0 s.heap.size) s.heap T'.heap (locs ++ L) := by
    refine ⟨?_, ?_, ?_⟩
    · rw [e1]; exact Nat.le_trans hS.1 hFr.1
    · intro q h1 h2
      rw [e1, hFr.2 q (Nat.lt_of_lt_of_le h1 hS.1) (fun z => h2 (hsub q z))]
      exact hS.2.1 q h1 h2
    · intro q hq
      rcases List.mem_append.mp hq with h9 | h9
      · exact hS.2.2 q h9
      · exact hsub _ (hL q h9)
  have hl' : xhas ls M.2.2.1 ad' lo := by unfold xhas; rw [hw3]; exact hl
  have C' : xC0 M sc rc' rs' h' p l e s m args meth c mc ms (cells + mc') (slots + ms') T'.heap (locs ++ L) D cA ad' ad0 N0 :=
    ⟨⟨hx, hb, hml, hr, hlo, hown, hnm, htb, hll⟩, hts, hF, ⟨by omega, by omega⟩, hK, ⟨Nat.le_trans hN hN', fun k hk => (hag' k (by omega)).trans (hag k (by omega)), hpl, hlen⟩, by rw [e1]; exact hP', hD'.weaken (fun q _ _ hq => hsub _ hq), hS'⟩
  obtain ⟨t2, a1, b1⟩ := kk () C' hl' (below := below) T' rfl X'
  refine ⟨t2, gs t2 ?_, b1⟩
  have e5 : (v.toList ++ st).map (xv ad') = (v.map (xv ad')).toList ++ st.map (xv ad) := by
    rw [List.map_append, hw2]
    cases v <;> rfl
  rw [e5] at a1
  exact a1
theorem xsame {h h' : List xC} (hlen : h'.length = h.length) {ad ad' : Nat → Nat} (hag : ∀ k, k < h.length ∨ h'.length ≤ k → ad' k = ad k) : ad' = ad := by
  funext k
  exact hag k (by omega)
theorem xcat {ad : Nat → Nat} (st : List Value) : ((st.map (xv ad)).map fun v => v.category).sum = (st.map fun v => v.category).sum := by
  rw [List.map_map]
  congr 1
  exact List.map_congr_left fun v _ => xv_cat ad v
def xwfv (a b : Nat) : Value → Bool
  | .ref k => decide (k < a) || decide (b ≤ k)
  | _ => true
theorem xwfv_ok {a b : Nat} {ad ad' : Nat → Nat} (hag : ∀ k, k < a ∨ b ≤ k → ad' k = ad k) {v : Value} (hv : xwfv a b v = true) : xv ad' v = xv ad v := by
  cases v with
  | ref k =>
    have h1 : k < a ∨ b ≤ k := by
      simp only [xwfv, Bool.or_eq_true, decide_eq_true_eq] at hv
      exact hv
    show Value.ref (ad' k) = Value.ref (ad k)
    rw [hag k h1]
  | _ => rfl
theorem xwfs_ok {a b : Nat} {ad ad' : Nat → Nat} (hag : ∀ k, k < a ∨ b ≤ k → ad' k = ad k) {st : List Value} (hv : st.all (xwfv a b) = true) : st.map (xv ad') = st.map (xv ad) :=
  List.map_congr_left fun v hm => xwfv_ok hag (List.all_eq_true.mp hv v hm)
theorem xfm_congr {α β : Type} {f g : α → Option β} : ∀ {l : List α}, (∀ x ∈ l, f x = g x) → l.filterMap f = l.filterMap g
  | [], _ => rfl
  | x :: l, hx => by
    rw [List.filterMap_cons, List.filterMap_cons, hx x List.mem_cons_self, xfm_congr (fun y hy => hx y (List.mem_cons_of_mem _ hy))]
theorem xwfl_ok {a b : Nat} {ad ad' : Nat → Nat} (hag : ∀ k, k < a ∨ b ≤ k → ad' k = ad k) {lo : xL} (hv : lo.all (fun q => match q with | none => true | some v => xwfv a b v) = true) : xlv ad' lo = xlv ad lo := by
  unfold xlv
  apply xfm_congr
  intro q hq
  cases hq1 : q.1 with
  | none => rfl
  | some v =>
    have hm : q.1 ∈ lo := List.mem_of_getElem? (List.mem_zipIdx_iff_getElem?.mp hq)
    have h1 := List.all_eq_true.mp hv q.1 hm
    rw [hq1] at h1
    show some (q.2, xv ad' v) = some (q.2, xv ad v)
    rw [xwfv_ok hag h1]
theorem xstart {p : Program} {l : Launch} {e : Env} {s : State} {m : MethodId} {args : Array Value} {meth : Method} {c : Code} {mc ms cells slots : Nat} {H : Heap} {locs : List Loc} {D : va_G} {cA : FieldType → ClassId} {ad ad0 : Nat → Nat} {N0 : Nat}
    (C : xC0 M sc rc rs h p l e s m args meth c mc ms cells slots H locs D cA ad ad0 N0) : ∀ U : State, U.heap = H → s.WarmedH U.vm → xPc D cA ad as h (as.map (xv ad)).toArray U ∧ U.heap.size = H.size := by
  intro U hU hW
  obtain ⟨⟨hx, hb, hml, hr, hlo, hown, hnm, htb, hll⟩, hts, hF, hcs, hK, ⟨hN, hag, hpl, hln⟩, hP, hD, hS⟩ := C
  refine ⟨⟨rfl, va_K.moved hW.alike hK, ?_, by rw [hU]; exact hP, hD.weaken (fun _ _ _ _ => trivial), hln⟩, by rw [hU]⟩
  rw [hU]
  exact xG_call hW hU (n := h.length) (fun k hk => hag k (Or.inr hk)) hln hS (xA_sub (D := D) (sz2 := H.size) hD hS.1) hF
theorem xrm_ok {d d' : Nat × Nat} {nL mc ms mc' ms' : Nat} (hd : d'.1 + 1 ≤ d.1 ∧ nL + 19 + d'.2 ≤ d.2) : (xrm d' mc' ms').frames + 1 ≤ (xrm d mc ms).frames ∧ 8 + (nL + 11) + (xrm d' mc' ms').locals ≤ (xrm d mc ms).locals := by
  refine ⟨hd.1, ?_⟩
  show 8 + (nL + 11) + d'.2 ≤ d.2
  omega
theorem xr_callVA {n b ci : Nat} {fs : List Value} (hM : xm M' d' (.ref b :: as) h mc' ms' P) (hno : ∀ o, P o → ∃ v, o.1 = .inl v) (hlk : xlV M.1.cls idx M'.1 n) (hcd : xcd M') (hn : as.length = n) {q9 : Nat} (hd : xd M pc (.invokevirtual idx) 3 q9) (hb0 : h[b]? = some (.inl (ci, fs))) (hci : ∃ (T : u_T) (N : Nat), vwCl[ci]? = some (M'.1.cls, T, N))
    (hdd : d'.1 + 1 ≤ d.1 ∧ M'.2.2.1 + 19 + d'.2 ≤ d.2) (hcat : (st.map fun v => v.category).sum ≤ 8) (hrc : mc' + rc' ≤ rc) (hrs : ms' + rs' ≤ rs) 
    (kk : ∀ (v : Option Value) (h' : List xC), P (.inl v, h') → h'.length ≤ 1000000 ∧ (∀ ad ad' : Nat → Nat, (∀ k, k < h.length ∨ h'.length ≤ k → ad' k = ad k) → st.map (xv ad') = st.map (xv ad) ∧ xlv ad' lo = xlv ad lo) ∧ xr M sc d q9 lo (v.toList ++ st) h' rc' rs' Q) : xr M sc d pc lo (as.reverse ++ .ref b :: st) h rc rs Q := by
  obtain ⟨hd, rfl⟩ := hd
  intro u9 p l e s m args below meth c mc ms cells slots H locs ls D cA ad ad0 N0 C hl
  have hst := xstart (as := .ref b :: as) C
  have C9 := C
  obtain ⟨⟨hx, hb, hml, hr, hlo, hown, hnm, htb, hll⟩, hts, hF, hcs, hK, ⟨hN, hag, hpl, hln⟩, hP, hD, hS⟩ := C
  obtain ⟨T, N, hci⟩ := hci
  obtain ⟨hl1, hl2, hl3, hl4, hl5⟩ := hlk
  have hmet := xmet hM hno hll D cA ad H.size
  have hrecv := va_recv (a := ad b) hK hP hci (q0 := b) (fs := fs.map (xv ad)) (xw_at hb0)
  have hstk : (F0 m pc ls ((as.reverse ++ .ref b :: st).map (xv ad))).stack = (as.map (xv ad)).reverse ++ .ref (ad b) :: st.map (xv ad) := by
    show (as.reverse ++ .ref b :: st).map (xv ad) = _
    rw [List.map_append, List.map_reverse]; rfl
  have hroom := lv_room (m := m) (pc := pc) (ls := ls) (rest := (as.reverse ++ .ref b :: st).map (xv ad)) (st := st.map (xv ad)) (by rw [xcat]; exact hcat)
  have hcells : cells + mc' ≤ (xrm d mc ms).cells ∧ slots + ms' ≤ (xrm d mc ms).slots := ⟨by show cells + mc' ≤ mc; omega, by show slots + ms' ≤ ms; omega⟩
  have hlen2 : (as.map (xv ad)).length = n := by rw [List.length_map]; exact hn
  rcases hl1 with hl1 | ⟨host, hl1⟩
  · have cw : CallW (xrm d mc ms) s args M.1.cls M'.1.cls idx M'.1 M'.2.1 M'.2.2.1 M'.2.2.2.1 (xws M') (xrm d' mc' ms') mc' ms' n :=
      ⟨callB_of n hts (xgood hcd) rfl rfl rfl (hts _ hl4) (hts _ hl1) hl5 (xrm_ok hdd), hts _ hl2, hts _ hl3⟩
    exact xcontA (aa := args) C9 hl (va_runV ⟨hx, hb, hml, hown, hts⟩ hmet cw ⟨xblind, hrecv, hst⟩ rfl hlen2 hl.1 hstk hroom hd hcells) hrc hrs kk
  · have cw : va_CN (xrm d mc ms) s args M.1.cls idx M'.1 host M'.2.1 M'.2.2.1 M'.2.2.2.1 (xws M') (xrm d' mc' ms') mc' ms' n := va_cnB n hts (xgood hcd) rfl rfl rfl (hF.1 _ hl1) (hts _ hl4) hl5 (xrm_ok hdd)
    exact xcontA (aa := args) C9 hl (va_runVN ⟨hx, hb, hml, hown, hts⟩ hmet ⟨cw, hts _ hl2, hts _ hl3⟩ ⟨xblind, hrecv, hst⟩ rfl hlen2 hl.1 hstk hroom hd hcells) hrc hrs kk
theorem xr_callSA {n : Nat} (hM : xm M' d' as h mc' ms' P) (hno : ∀ o, P o → ∃ v, o.1 = .inl v) (hlk : xlS M.1.cls idx M'.1 n) (hcd : xcd M') (hn : as.length = n) {q9 : Nat} (hd : xd M pc (.invokestatic idx) 3 q9)
    (hdd : d'.1 + 1 ≤ d.1 ∧ M'.2.2.1 + 19 + d'.2 ≤ d.2) (hcat : (st.map fun v => v.category).sum ≤ 8) (hrc : mc' + rc' ≤ rc) (hrs : ms' + rs' ≤ rs) 
    (kk : ∀ (v : Option Value) (h' : List xC), P (.inl v, h') → h'.length ≤ 1000000 ∧ (∀ ad ad' : Nat → Nat, (∀ k, k < h.length ∨ h'.length ≤ k → ad' k = ad k) → st.map (xv ad') = st.map (xv ad) ∧ xlv ad' lo = xlv ad lo) ∧ xr M sc d q9 lo (v.toList ++ st) h' rc' rs' Q) : xr M sc d pc lo (as.reverse ++ st) h rc rs Q := by
  obtain ⟨hd, rfl⟩ := hd
  intro u9 p l e s m args below meth c mc ms cells slots H locs ls D cA ad ad0 N0 C hl
  have hst := xstart (as := as) C
  have C9 := C
  obtain ⟨⟨hx, hb, hml, hr, hlo, hown, hnm, htb, hll⟩, hts, hF, hcs, hK, ⟨hN, hag, hpl, hln⟩, hP, hD, hS⟩ := C
  obtain ⟨hl1, hl2, hl4, hl5⟩ := hlk
  have hmet := xmet hM hno hll D cA ad H.size
  have hstk : (F0 m pc ls ((as.reverse ++ st).map (xv ad))).stack = (as.map (xv ad)).reverse ++ st.map (xv ad) := by
    show (as.reverse ++ st).map (xv ad) = _
    rw [List.map_append, List.map_reverse]
  have hroom := lv_room (m := m) (pc := pc) (ls := ls) (rest := (as.reverse ++ st).map (xv ad)) (st := st.map (xv ad)) (by rw [xcat]; exact hcat)
  have hcells : cells + mc' ≤ (xrm d mc ms).cells ∧ slots + ms' ≤ (xrm d mc ms).slots := ⟨by show cells + mc' ≤ mc; omega, by show slots + ms' ≤ ms; omega⟩
  have hlen2 : (as.map (xv ad)).length = n := by rw [List.length_map]; exact hn
  rcases hl1 with hl1 | ⟨host, hl1⟩
  · have cw : CallB (xrm d mc ms) s args M.1.cls idx M'.1 M'.2.1 M'.2.2.1 M'.2.2.2.1 (xws M') (xrm d' mc' ms') mc' ms' n :=
      callB_of n hts (xgood hcd) rfl rfl rfl (hts _ hl4) (hts _ hl1) hl5 (xrm_ok hdd)
    exact xcontA (aa := args) C9 hl (va_runS ⟨hx, hb, hml, hown, hts⟩ hmet ⟨cw, hts _ hl2⟩ ⟨xblind, hst⟩ rfl hlen2 hl.1 hstk hroom hd hcells) hrc hrs kk
  · have cw : va_CN (xrm d mc ms) s args M.1.cls idx M'.1 host M'.2.1 M'.2.2.1 M'.2.2.2.1 (xws M') (xrm d' mc' ms') mc' ms' n := va_cnB n hts (xgood hcd) rfl rfl rfl (hF.1 _ hl1) (hts _ hl4) hl5 (xrm_ok hdd)
    exact xcontA (aa := args) C9 hl (va_runSN ⟨hx, hb, hml, hown, hts⟩ hmet ⟨cw, hts _ hl2, trivial⟩ ⟨xblind, hst⟩ rfl hlen2 hl.1 hstk hroom hd hcells) hrc hrs kk
theorem xr_callIA {n b : Nat} (hM : xm M' d' (.ref b :: as) h mc' ms' P) (hno : ∀ o, P o → ∃ v, o.1 = .inl v) (hrn : M'.2.2.2.1 = none) (hlk : xlI M.1.cls idx M'.1 n) (hcd : xcd M') (hn : as.length = n) {q9 : Nat} (hd : xd M pc (.invokespecial idx) 3 q9)
    (hdd : d'.1 + 1 ≤ d.1 ∧ M'.2.2.1 + 19 + d'.2 ≤ d.2) (hcat : (st.map fun v => v.category).sum ≤ 8) (hrc : mc' + rc' ≤ rc) (hrs : ms' + rs' ≤ rs) 
    (kk : ∀ (v : Option Value) (h' : List xC), P (.inl v, h') → h'.length ≤ 1000000 ∧ (∀ ad ad' : Nat → Nat, (∀ k, k < h.length ∨ h'.length ≤ k → ad' k = ad k) → st.map (xv ad') = st.map (xv ad) ∧ xlv ad' lo = xlv ad lo) ∧ xr M sc d q9 lo (v.toList ++ st) h' rc' rs' Q) : xr M sc d pc lo (as.reverse ++ .ref b :: st) h rc rs Q := by
  obtain ⟨hd, rfl⟩ := hd
  intro u9 p l e s m args below meth c mc ms cells slots H locs ls D cA ad ad0 N0 C hl
  have hst := xstart (as := .ref b :: as) C
  have C9 := C
  obtain ⟨⟨hx, hb, hml, hr, hlo, hown, hnm, htb, hll⟩, hts, hF, hcs, hK, ⟨hN, hag, hpl, hln⟩, hP, hD, hS⟩ := C
  obtain ⟨hl1, hl2, hl4, hl5, hl6⟩ := hlk
  have hmet := xmet hM hno hll D cA ad H.size
  have hstk : (F0 m pc ls ((as.reverse ++ .ref b :: st).map (xv ad))).stack = (as.map (xv ad)).reverse ++ .ref (ad b) :: st.map (xv ad) := by
    show (as.reverse ++ .ref b :: st).map (xv ad) = _
    rw [List.map_append, List.map_reverse]; rfl
  have hroom := lv_room (m := m) (pc := pc) (ls := ls) (rest := (as.reverse ++ .ref b :: st).map (xv ad)) (st := st.map (xv ad)) (by rw [xcat]; exact hcat)
  have hcells : cells + mc' ≤ (xrm d mc ms).cells ∧ slots + ms' ≤ (xrm d mc ms).slots := ⟨by show cells + mc' ≤ mc; omega, by show slots + ms' ≤ ms; omega⟩
  have hlen2 : (as.map (xv ad)).length = n := by rw [List.length_map]; exact hn
  rcases hl1 with hl1 | ⟨host, hl1⟩
  · have cw : CallB (xrm d mc ms) s args M.1.cls idx M'.1 M'.2.1 M'.2.2.1 none (xws M') (xrm d' mc' ms') mc' ms' n :=
      callB_of n hts (xgood hcd) (by unfold xws; rw [hrn]) rfl rfl (hts _ hl4) (hts _ hl1) hl5 (xrm_ok hdd)
    exact xcontA (aa := args) C9 hl (va_runI ⟨hx, hb, hml, hown, hts⟩ hmet ⟨cw, hl6, hts _ hl2⟩ ⟨xblind, hst⟩ rfl hlen2 hl.1 hstk hroom hd hcells) hrc hrs kk
  · have cw : va_CN (xrm d mc ms) s args M.1.cls idx M'.1 host M'.2.1 M'.2.2.1 none (xws M') (xrm d' mc' ms') mc' ms' n := va_cnB n hts (xgood hcd) (by unfold xws; rw [hrn]) rfl rfl (hF.1 _ hl1) (hts _ hl4) hl5 (xrm_ok hdd)
    exact xcontA (aa := args) C9 hl (va_runIN ⟨hx, hb, hml, hown, hts⟩ hmet ⟨cw, hl6, hts _ hl2⟩ ⟨xblind, hst⟩ rfl hlen2 hl.1 hstk hroom hd hcells) hrc hrs kk
theorem xw1_same (hlen : h'.length = h.length) : ∀ ad ad' : Nat → Nat, (∀ k, k < h.length ∨ h'.length ≤ k → ad' k = ad k) → st.map (xv ad') = st.map (xv ad) ∧ xlv ad' lo = xlv ad lo := by
  intro ad ad' hag
  rw [xsame hlen hag]
  exact ⟨rfl, rfl⟩
theorem xw1_wf (h1 : st.all (xwfv h.length h'.length) = true) (h2 : lo.all (fun q => match q with | none => true | some v => xwfv h.length h'.length v) = true) : ∀ ad ad' : Nat → Nat, (∀ k, k < h.length ∨ h'.length ≤ k → ad' k = ad k) → st.map (xv ad') = st.map (xv ad) ∧ xlv ad' lo = xlv ad lo :=
  fun _ _ hag => ⟨xwfs_ok hag h1, xwfl_ok hag h2⟩
end XCALL
end
section
section XNEW
variable {M : xM} {sc : xSc} {d : Nat × Nat} {pc : Nat} {lo : xL} {st : List Value} {h : List xC} {rc rs : Nat} {Q : xO → Prop}
def xwfc (a b : Nat) : xC → Bool
  | .inl q => q.2.all (xwfv a b)
  | .inr _ => true
theorem xwfh_ok {cA : FieldType → ClassId} {b : Nat} {ad ad' : Nat → Nat} (hag : ∀ k, k < h.length ∨ b ≤ k → ad' k = ad k) (hv : h.all (xwfc h.length b) = true) : xw cA ad' h = xw cA ad h := by
  apply List.ext_getElem?
  intro i
  unfold xw
  rw [List.getElem?_mapIdx, List.getElem?_mapIdx]
  cases hc : h[i]? with
  | none => rfl
  | some c =>
    have hi : i < h.length := (List.getElem?_eq_some_iff.mp hc).1
    have h1 := List.all_eq_true.mp hv c (List.mem_of_getElem? hc)
    show some (ad' i, xe cA ad' c) = some (ad i, xe cA ad c)
    rw [hag i (Or.inl hi)]
    cases c with
    | inl q =>
      have h2 : q.2.all (xwfv h.length b) = true := h1
      show some (ad i, Sum.inr (q.1, q.2.map (xv ad'))) = some (ad i, Sum.inr (q.1, q.2.map (xv ad)))
      rw [xwfs_ok hag h2]
    | inr q => rfl
def xad (ad : Nat → Nat) (n q : Nat) : Nat → Nat := fun k => if k = n then q else ad k
theorem xad_ag {ad : Nat → Nat} {n q : Nat} : ∀ k, k < n ∨ n + 1 ≤ k → xad ad n q k = ad k := by
  intro k hk
  unfold xad
  rw [if_neg (by omega)]
theorem xad_self {ad : Nat → Nat} {n q : Nat} : xad ad n q n = q := by unfold xad; rw [if_pos rfl]
theorem xgrow {p : Program} {l : Launch} {e : Env} {s : State} {m : MethodId} {args : Array Value} {below : List Frame} {meth : Method} {c : Code} {mc ms cells slots : Nat} {H H1 : Heap} {locs : List Loc} {ls : Array Slot} {D : va_G} {cA : FieldType → ClassId} {ad ad0 : Nat → Nat} {N0 n rc' rs' len q : Nat} {cl : xC}
    (C : xC0 M sc rc rs h p l e s m args meth c mc ms cells slots H locs D cA ad ad0 N0) (hl : xhas ls M.2.2.1 ad lo) (hrc : 1 + rc' ≤ rc) (hrs : n + rs' ≤ rs) (hlen : h.length + 1 ≤ 1000000)
    (hwh : h.all (xwfc h.length (h.length + 1)) = true) (hws : st.all (xwfv h.length (h.length + 1)) = true) (hwl : lo.all (fun q => match q with | none => true | some v => xwfv h.length (h.length + 1) v) = true)
    (hcl : ∀ ad' : Nat → Nat, xe cA ad' cl = xe cA ad cl)
    (hP : va_P D vwCl (xw cA ad h ++ [(q, xe cA ad cl)]) H1) (hD : va_D (xA ad0 N0 s.heap.size) (xw cA ad h ++ [(q, xe cA ad cl)])) (hS : va_S (xA ad0 N0 s.heap.size) s.heap H1 locs)
    (kk : xr M sc d (pc + len) lo (.ref h.length :: st) (h ++ [cl]) rc' rs' Q) : W p l e (xrm d mc ms) s m args below meth c H1 locs (cells + 1) (slots + n) (xQ below D cA ad0 N0 Q s mc ms) (F0 m (pc + len) ls (.ref q :: st.map (xv ad))) := by
  obtain ⟨⟨hx, hb, hml, hr, hlo, hown, hnm, htb, hll⟩, hts, hF, hcs, hK, ⟨hN, hag, hpl, hln⟩, -, -, -⟩ := C
  have hag' : ∀ k, k < h.length ∨ h.length + 1 ≤ k → xad ad h.length q k = ad k := xad_ag
  have e1 : xw cA (xad ad h.length q) (h ++ [cl]) = xw cA ad h ++ [(q, xe cA ad cl)] := by
    rw [xw_app, xwfh_ok hag' hwh, xad_self, hcl]
  have hl' : xhas ls M.2.2.1 (xad ad h.length q) lo := by unfold xhas; rw [xwfl_ok hag' hwl]; exact hl
  have hlen2 : (h ++ [cl]).length = h.length + 1 := by rw [List.length_append]; rfl
  have C' : xC0 M sc rc' rs' (h ++ [cl]) p l e s m args meth c mc ms (cells + 1) (slots + n) H1 locs D cA (xad ad h.length q) ad0 N0 :=
    ⟨⟨hx, hb, hml, hr, hlo, hown, hnm, htb, hll⟩, hts, hF, ⟨by omega, by omega⟩, hK, ⟨by omega, fun k hk => (hag' k (by omega)).trans (hag k (by omega)), hpl, by omega⟩, by rw [e1]; exact hP, by rw [e1]; exact hD, hS⟩
  have K := kk () C' hl' (below := below)
  have e2 : (Value.ref h.length :: st).map (xv (xad ad h.length q)) = .ref q :: st.map (xv ad) := by
    show Value.ref (xad ad h.length q h.length) :: st.map (xv (xad ad h.length q)) = _
    rw [xad_self, xwfs_ok hag' hws]
  rw [e2] at K
  exact K
def xnw (own : String) (idx ci : Nat) (fs : List Value) : Prop := ∃ (C : String) (T : u_T) (N : Nat) (ty : Nat → FieldType), vwCl[ci]? = some (C, T, N) ∧ fs.length = N ∧ (∀ w ∈ u_ws C T N, w ∈ xtb) ∧ (∀ k, k < N → parseFieldDescriptor (T k).2.2.1 = some (ty k)) ∧ Cond.classLink own idx C ∈ xtb ∧ Cond.instantiable C N ∈ xtb ∧ Cond.initialized C ∈ xtb ∧ (∀ j, j < N → defaultValue (ty j) = vp_V fs j) ∧ fs.all (fun v => match v with | .ref _ => false | _ => true) = true
theorem xr_new {idx ci rc' rs' : Nat} {fs : List Value} (hw : xnw M.1.cls idx ci fs) {q9 : Nat} (hd : xd M pc (.new idx) 3 q9) (hrc : 1 + rc' ≤ rc) (hrs : fs.length + rs' ≤ rs) (hlen : h.length + 1 ≤ 1000000)
    (hwh : h.all (xwfc h.length (h.length + 1)) = true) (hws : st.all (xwfv h.length (h.length + 1)) = true) (hwl : lo.all (fun q => match q with | none => true | some v => xwfv h.length (h.length + 1) v) = true)
    (kk : xr M sc d q9 lo (.ref h.length :: st) (h ++ [.inl (ci, fs)]) rc' rs' Q) : xr M sc d pc lo st h rc rs Q := by
  obtain ⟨hd, rfl⟩ := hd
  intro u9 p l e s m args below meth c mc ms cells slots H locs ls D cA ad ad0 N0 C hl
  have C9 := C
  obtain ⟨⟨hx, hb, hml, hr, hlo, hown, hnm, htb, hll⟩, hts, hF, hcs, hK, ⟨hN, hag, hpl, hln⟩, hP, hD, hS⟩ := C
  obtain ⟨C1, T, N, ty, hc, rfl, hin, hty, hw1, hw2, hw3, hfs, hnr⟩ := hw
  have hfm : ∀ ad' : Nat → Nat, fs.map (xv ad') = fs := by
    intro ad'
    have : fs.map (xv ad') = fs.map id := List.map_congr_left fun v hv => by
      have h1 := List.all_eq_true.mp hnr v hv
      cases v with
      | ref k => cases h1
      | _ => rfl
    rw [this, List.map_id]
  refine va_new (D := D) (ci := ci) (fs := fs) (C := C1) (T := T) (N := fs.length) hx hb hts hin ty hty hown (hts _ hw1) (hts _ hw2) (hts _ hw3) hK hP hD hS (fun q hq => Or.inr hq) hc hfs (by show cells + 1 ≤ mc; omega) (by show slots + fs.length ≤ ms; omega) hd (fun q H1 hP1 hD1 hS1 => ?_)
  have e1 : ∀ ad' : Nat → Nat, xe cA ad' (.inl (ci, fs)) = .inr (ci, fs) := fun ad' => by
    show Sum.inr (ci, fs.map (xv ad')) = _
    rw [hfm]
  exact xgrow (cl := .inl (ci, fs)) C9 hl hrc hrs hlen hwh hws hwl (fun ad' => (e1 ad').trans (e1 ad).symm) (by rw [e1]; exact hP1) (by rw [e1]; exact hD1) hS1 kk
theorem xr_newa {at9 : ArrayType} {ty : FieldType} {n : Int32} {N rc' rs' : Nat} {a0 : vp_A} {q9 : Nat} (hd : xd M pc (.newarray at9) 2 q9) (hty : newarray.typeOf at9 = ty) (htk : xtok ty) (hw : Cond.arrayClass ty ∈ xtb) (ha : ∀ c9 : ClassId, vp_cell c9 a0 = arrV c9 N (fun _ => defaultValue ty)) (hn : ¬ n < 0) (hN0 : n.toNatClampNeg = N) (hby : N * componentBytes ty ≤ 536870912) (hrc : 1 + rc' ≤ rc) (hrs : N + rs' ≤ rs) (hlen : h.length + 1 ≤ 1000000)
    (hwh : h.all (xwfc h.length (h.length + 1)) = true) (hws : st.all (xwfv h.length (h.length + 1)) = true) (hwl : lo.all (fun q => match q with | none => true | some v => xwfv h.length (h.length + 1) v) = true)
    (kk : xr M sc d q9 lo (.ref h.length :: st) (h ++ [.inr (ty, a0)]) rc' rs' Q) : xr M sc d pc lo (.int n :: st) h rc rs Q := by
  obtain ⟨hd, rfl⟩ := hd
  intro u9 p l e s m args below meth c mc ms cells slots H locs ls D cA ad ad0 N0 C hl
  have C9 := C
  obtain ⟨⟨hx, hb, hml, hr, hlo, hown, hnm, htb, hll⟩, hts, hF, hcs, hK, ⟨hN, hag, hpl, hln⟩, hP, hD, hS⟩ := C
  refine va_newa (D := D) (a0 := a0) (ty := ty) (N' := N) hx hb (by rw [hty]; exact hts _ hw) hty hK hP hD hS (fun q hq => Or.inr hq) ha hn hN0 hby (by show cells + 1 ≤ mc; omega) (by show slots + N ≤ ms; omega) hd (fun q c9 H1 hK1 hP1 hD1 hS1 => ?_)
  have hc9 : c9 = cA ty := by
    have h1 := (hK1.2 4 (c9, ty) rfl).2
    have h2 := (hK.2 (xti ty) _ (xt_at htk)).2
    rcases htk with rfl | rfl | rfl | rfl
    · exact Option.some.inj ((va_nm_int h1).symm.trans (va_nm_int h2))
    · exact Option.some.inj ((va_nm_byte h1).symm.trans (va_nm_byte h2))
    · exact Option.some.inj ((va_nm_boolean h1).symm.trans (va_nm_boolean h2))
    · exact Option.some.inj ((va_nm_long h1).symm.trans (va_nm_long h2))
  subst hc9
  exact xgrow (cl := .inr (ty, a0)) C9 hl hrc hrs hlen hwh hws hwl (fun _ => rfl) hP1 hD1 hS1 kk
theorem xr_objInit {idx a : Nat} {q9 : Nat} (hd : xd M pc (.invokespecial idx) 3 q9) (hw1 : Cond.methodLink M.1.cls idx objectInit ∈ xtb) (hw2 : Cond.instanceMethod objectInit ∈ xtb) (hw3 : Cond.code objectInit ⟨#[0xb1]⟩ 1 none ∈ xtb) (hdd : 1 ≤ d.1 ∧ 20 ≤ d.2) (hcat : (st.map fun v => v.category).sum ≤ 8)
    (kk : xr M sc d q9 lo st h rc rs Q) : xr M sc d pc lo (.ref a :: st) h rc rs Q := by
  obtain ⟨hd, rfl⟩ := hd
  intro u9 p l e s m args below meth c mc ms cells slots H locs ls D cA ad ad0 N0 C hl
  have hk2 := kk u9 C hl (below := below)
  obtain ⟨⟨hx, hb, hml, hr, hlo, hown, hnm, htb, hll⟩, hts, hF, hcs, hK, ⟨hN, hag, hpl, hln⟩, hP, hD, hS⟩ := C
  refine W.objInit hx hb hown (hts _ hw1) (hts _ hw2) (hts _ hw3) rfl (by rw [hml]; exact hl.1) rfl hd hdd.1 ?_ ?_
  · show 2 * 0 + ((st.map (xv ad)).map fun v => v.category).sum + (1 + 11) ≤ d.2
    rw [xcat]; omega
  · exact hk2
end XNEW
end
section
section XTH
variable {M : xM} {sc : xSc} {d : Nat × Nat} {pc : Nat} {lo : xL} {st : List Value} {h : List xC} {rc rs : Nat} {Q : xO → Prop}
theorem xbase {p : Program} {l : Launch} {e : Env} {R : Room} {s : State} {m : MethodId} {args : Array Value} {below : List Frame} {meth : Method} {c : Code} {T : State} {locs : List Loc} {cells slots : Nat} (X : Stand p l e R s m args below meth c T locs cells slots) {R' : Room} (hf : R'.frames ≤ R.frames) (hl : R'.locals ≤ R.locals) (hc : cells + R'.cells ≤ R.cells) (hs : slots + R'.slots ≤ R.slots) :
    Stand p l e R' ((T.setVm s.vm).setFrames (.invoking m args :: below)) m args below meth c T [] 0 0 := by
  have ht : (T.setVm s.vm).topJava?.isSome := X.here.top
  have hF : ((T.setVm s.vm).setFrames (.invoking m args :: below)).frames = .invoking m args :: below := State.frames_setFrames _ (State.cur_lt_of_top ht)
  obtain ⟨g₀, hg0⟩ := Option.isSome_iff_exists.mp ht
  obtain ⟨r, hr⟩ := State.topJava?_eq_some.mp hg0
  have hlim : e.platform.stackLimits (T.setVm s.vm).me = e.platform.stackLimits s.me := X.limits
  have hby : (T.setVm s.vm).me.stackBytes = s.me.stackBytes := X.bytes
  have hnil : T.heap.toList.drop T.heap.size = [] := List.drop_eq_nil_of_le (Nat.le_of_eq Array.length_toList)
  have hroom : ((T.setVm s.vm).setFrames (.invoking m args :: below)).hasRoom e.platform R' = true := by
    have h := X.room
    have hU : ((T.setVm s.vm).setFrames (.invoking m args :: below)).localsInUse = s.localsInUse := by
      rw [State.localsInUse_invoking hF (meth := meth) (c := c) X.method X.code, State.localsInUse_invoking X.frames X.method X.code]
    have q1 := X.heapSize
    have q2 := X.used
    simp only [State.hasRoom, Bool.and_eq_true, decide_eq_true_eq] at h ⊢
    obtain ⟨⟨⟨⟨h1, h2, h3, h4, h5, h6⟩, h7⟩, h8⟩, h9⟩ := h
    rw [X.frames, List.length_cons] at h2 h3
    simp only [hF, hU, List.length_cons, State.stackLimits_setFrames, State.stackBytes_setFrames, hlim, hby]
    exact ⟨⟨⟨⟨by omega, by omega, by omega, by omega, by omega, h6⟩, (by show T.heap.size + R'.cells ≤ e.platform.maxCells; omega)⟩, (by show T.slotsUsed + R'.slots ≤ e.platform.maxSlots; omega)⟩, X.book⟩
  have hsame : ((T.setVm s.vm).setFrames (.invoking m args :: below)).sameButNew (T.setVm s.vm) [] 0 0 := by
    refine ⟨?_, Nat.le_refl _, Nat.le_refl _, ?_, ?_, fun a c9 h9 => ⟨c9, h9, rfl, rfl, fun _ _ => rfl⟩⟩
    · obtain ⟨t, h1, -⟩ := State.frames_cons hr
      show T.setVm s.vm = { ((T.setVm s.vm).setFrames (.invoking m args :: below)).setFrames (T.setVm s.vm).frames with heap := T.heap, slotsUsed := T.slotsUsed }
      rw [State.setFrames_setFrames, State.setFrames_self h1]
      rfl
    · show T.slotsUsed = T.slotsUsed + ((T.heap.toList.drop T.heap.size).map (·.slots.size)).sum
      rw [hnil]; rfl
    · show ((T.heap.toList.drop T.heap.size).map (·.slots.size)).sum ≤ 0
      rw [hnil]; exact Nat.le_refl _
  exact ⟨X.admits, X.cas, X.clock, hF, hroom, X.hears, X.method, X.code, X.here, X.tail, X.warmed, by rw [State.stackLimits_setFrames]; rfl, by rw [State.stackBytes_setFrames]; rfl, hsame⟩
theorem xsame_frames {X0 U : State} {fs : List Frame} {k n : Nat} (h : (X0.setFrames fs).sameButNew U [] k n) : X0.sameButNew U [] k n := by
  obtain ⟨h1, h2⟩ := h
  refine ⟨?_, h2⟩
  rw [State.setFrames_setFrames] at h1
  exact h1
theorem xisRef {args : Array Value} {C n d : String} {A : Nat → Prop} {s : State} (h : va_Zq C n d A s s.heap) : (Cond.isRef (.static C n d)).before args s = true := by
  rcases h with ⟨cf, kf, fi, f, a, cell, h1, h2, h3, h4, h5, h6, h7, h8⟩ | ⟨t, cf, kf, fi, f, a, cell, h1, h2, h3, h4, h5, h6, h7, h8⟩ <;>
    simp [Cond.before, Cond.holds, Cond.value, Term.eval, State.fieldNamed?, h1, h2, h4, h5, h6, h7]
def xno (w : Cond) : Prop := w = .isRef (.static Bundle.tN "UNASSIGNED_STACK" Bundle.steD) ∨ w = .isRef (.static Bundle.tN "SUPPRESSED_SENTINEL" Bundle.listD) ∨ w = .laysStatic Bundle.tN "UNASSIGNED_STACK" Bundle.steD ∨ w = .laysStatic Bundle.tN "SUPPRESSED_SENTINEL" Bundle.listD
def xtw (own : String) (ik is ic : Nat) (E : String) (names : List String) : Prop :=
  Bundle.fit E = true ∧ (∀ n ∈ names, Bundle.fit n = true) ∧ Cond.classLink own ik E ∈ xtb ∧ Cond.initialized E ∈ xtb ∧ (∃ tx, (own, is, tx) ∈ xstrs) ∧ (∀ w ∈ Bundle.ownAtoms own ic E names, w ∈ xtb ∨ w ∈ xdcl ∨ xno w) ∧ names.length ≤ 4
set_option maxHeartbeats 1000000 in
theorem xr_throwS {ik is ic : Nat} {E : String} {names : List String} (hw : xtw M.1.cls ik is ic E names) (hM0 : M.2.2.2.2 = [])
    (d0 : decode M.2.1 pc = .ok (.new ik, 3)) (d3 : decode M.2.1 (pc + 3) = .ok (.dup, 1)) (d4 : decode M.2.1 (pc + 4) = .ok (.ldc is, 2)) (d6 : decode M.2.1 (pc + 6) = .ok (.invokespecial ic, 3)) (d9 : decode M.2.1 (pc + 9) = .ok (.athrow, 1))
    (hd : names.length + 3 < d.1) (hd2 : 9 + (13 * (names.length + 1) + 42) ≤ d.2) (hcat : (st.map fun v => v.category).sum ≤ 8) (hrc : 1 ≤ rc) (hrs : 6 ≤ rs) (hq : Q (.inr E, h)) : xr M sc d pc lo st h rc rs Q := by
  intro u9 p l e s m args below meth c mc ms cells slots H locs ls D cA ad ad0 N0 C hl
  obtain ⟨⟨hx, hb, hml, hr, hlo, hown, hnm, htb, hll⟩, hts, hF, hcs, hK, ⟨hN, hag, hpl, hln⟩, hP, hD, hS⟩ := C
  obtain ⟨hfE, hfn, hw1, hw2, ⟨tx, hw3⟩, hw4, hnl⟩ := hw
  intro T hT X
  have X' := xbase X (R' := { frames := d.1, cells := 1, slots := 6, locals := d.2 }) (Nat.le_refl _) (Nat.le_refl _) (by show cells + 1 ≤ mc; omega) (by show slots + 6 ≤ ms; omega)
  have hWs : ((T.setVm s.vm).setFrames (.invoking m args :: below)).WarmedH s.vm := State.WarmedH.refl _
  generalize hs' : (T.setVm s.vm).setFrames (.invoking m args :: below) = s' at X' hWs
  have hvm : s'.vm = s.vm := by rw [← hs']; rfl
  have hhp : s'.heap = H := by rw [← hs', ← hT]; rfl
  have hown' : s'.vm.findClass M.1.cls = some m.cls := by rw [hvm]; exact hown
  have hWm : s.WarmedH s'.vm := by rw [hvm]; exact State.WarmedH.refl s
  have hts' : ∀ w ∈ xtb, w.before args s' = true := fun w hw => word_at hWm (good_of_word (List.mem_filter.mp hw).2) (hts w hw)
  have hzU : va_Zq Bundle.tN "UNASSIGNED_STACK" Bundle.steD (xA ad0 N0 s.heap.size) s' s'.heap := by
    rw [hhp]
    exact (va_Zq.moved hWm.alike (hF.2.2.2.1 (Bundle.tN, "UNASSIGNED_STACK", Bundle.steD) xzq_U)).kept hS.2.1
  have hzS : va_Zq Bundle.tN "SUPPRESSED_SENTINEL" Bundle.listD (xA ad0 N0 s.heap.size) s' s'.heap := by
    rw [hhp]
    exact (va_Zq.moved hWm.alike (hF.2.2.2.1 (Bundle.tN, "SUPPRESSED_SENTINEL", Bundle.listD) xzq_S)).kept hS.2.1
  have hlU : xls Bundle.tN "UNASSIGNED_STACK" Bundle.steD (xA ad0 N0 s.heap.size) s' s'.heap := by
    rw [hhp]
    exact xls_kept (xls_moved hWm.alike (hF.2.2.2.2.2.2.2 (Bundle.tN, "UNASSIGNED_STACK", Bundle.steD) xzq_U)) hS.2.1
  have hlS : xls Bundle.tN "SUPPRESSED_SENTINEL" Bundle.listD (xA ad0 N0 s.heap.size) s' s'.heap := by
    rw [hhp]
    exact xls_kept (xls_moved hWm.alike (hF.2.2.2.2.2.2.2 (Bundle.tN, "SUPPRESSED_SENTINEL", Bundle.listD) xzq_S)) hS.2.1
  have hat : ∀ w ∈ Bundle.ownAtoms M.1.cls ic E names, w.before args s' = true := by
    intro w hw
    rcases hw4 w hw with h1 | h1 | rfl | rfl | rfl | rfl
    · exact hts' w h1
    · have h9 : va_Nw w s' := xD_same (List.mem_filter.mp h1).2 hvm (hF.2.2.2.2.2.2.1 w h1)
      exact xD_use (List.mem_filter.mp h1).2 h9
    · exact xisRef hzU
    · exact xisRef hzS
    · exact xls_use hlU
    · exact xls_use hlS
  obtain ⟨aS, hvR⟩ := hF.2.1 _ hw3
  have hvR' := vk_R.warm hWm hvR
  have hins : (Cond.instantiable E 6).before args s' = true := hat _ (by simp [Bundle.ownAtoms])
  have htr : e.platform.stackTraces = false := xl_off hll X.admits
  have hout : ∀ x ∈ c.exceptionTable.toList, covers x (pc + 9) = false := by
    rw [hM0] at htb
    have : c.exceptionTable.toList = [] := List.map_eq_nil_iff.mp htb
    rw [this]
    intro x hx; cases hx
  have K : W p l e { frames := d.1, cells := 1, slots := 6, locals := d.2 } s' m args below meth c H [] 0 0 (fun U => U.status = .running ∧ Ended U below (.threw H.size) ∧ s'.WarmedH U.vm ∧ s'.sameButNew ({ U with vm := s'.vm } : State) [] 1 6 ∧ ∃ ce, U.heap[H.size]? = some ce ∧ ce.vm = .none ∧ s'.vm.findClass E = some ce.cls) (F0 m pc ls (st.map (xv ad))) := by
    refine W.newc hx hb hown' (hts' _ hw1) hins (hts' _ hw2) rfl d0 (Nat.le_refl _) (Nat.le_refl _) (fun cC kC h1 h2 h3 h4 => ?_)
    refine lv_dup hx hb d3 rfl ?_
    refine va_ldcS hx hb hown' hvR' d4 ?_
    intro T2 hT2 X2
    have hcell : T2.heap[H.size]? = some (freshCell cC kC) := by
      rw [hT2]
      simp [freshCell]
    obtain ⟨U, q1, q2, q3, q4, q5, ce, q6, q7⟩ := X2.ctorThrowS hx htr hown' hfE hfn hat (fun x hx => by cases hx) h1 h2 hcell (by rw [hhp]; exact Nat.le_refl _) (msg := .ref aS) rfl (g := F0 m (pc + 6) ls (.ref aS :: .ref H.size :: .ref H.size :: st.map (xv ad))) rfl (by rw [hml]; exact hl.1) rfl rfl (rest := st.map (xv ad)) rfl (by rw [hb]; exact d6) (by rw [hb]; exact d9) hout (by show names.length + 3 < d.1; exact hd)
      (by
        show 2 * 0 + ((Value.ref H.size :: st.map (xv ad)).map fun v => v.category).sum + (13 * (names.length + 1) + 42) ≤ d.2
        rw [List.map_cons, List.sum_cons, xcat]
        show 2 * 0 + (1 + _) + _ ≤ _
        omega) hlo
    exact ⟨U, q1, q2, q3, q4, q5, ce, q6, q7.vm, q7.cls⟩
  obtain ⟨U, a1, b1, b2, b3, b4, ce, b5, b6, b7⟩ := K T hT X'
  refine ⟨U, a1, .threw H.size, (.inr E, h), hq, b1, b2, ?_⟩
  have hWU : s.WarmedH U.vm := State.WarmedH.of_rootvm hvm.symm b3
  have hsm : (T.setVm s.vm).sameButNew ({ U with vm := s.vm } : State) [] 1 6 := by
    rw [hvm, ← hs'] at b4
    exact xsame_frames b4
  have hsm2 : s.sameButNew ({ U with vm := s.vm } : State) locs mc ms := by
    have := X.same.trans hsm
    rw [List.append_nil] at this
    exact this.mono (by omega) (by omega)
  have hkeep : ∀ q : Nat, q < H.size → U.heap[q]? = H[q]? := by
    intro q hq9
    have hc1 : (T.setVm s.vm).heap[q]? = some H[q] := by
      show T.heap[q]? = _
      rw [hT]; exact Array.getElem?_eq_getElem hq9
    have := State.sameButNew.old_cell hsm hc1
    rw [Array.getElem?_eq_getElem hq9]
    exact this
  have hszU : H.size ≤ U.heap.size := by
    have := hsm.2.1
    have e1 : (T.setVm s.vm).heap.size = H.size := by rw [← hT]; rfl
    rw [e1] at this
    exact this
  refine ⟨⟨locs, hWU, hsm2, hS.2.2⟩, hN, ⟨Nat.le_trans hS.1 hszU, fun q h1 h2 => ?_⟩, ad, hag, ?_, hD, H.size, ce, rfl, b5, b6, by rw [← hvm]; exact b7⟩
  · rw [hkeep q (Nat.lt_of_lt_of_le h1 hS.1)]
    exact hS.2.1 q h1 h2
  · exact hP.kept (fun k q hq9 => hkeep _ ((hP k q hq9).lt))
end XTH
end
section
def xFnd (e : Env) (s : State) (f : JFrame) (a : Addr) (t : List ExceptionTableEntry) (pc : Nat) (vm' : Vm) : Prop :=
  ∀ (Q : Handler → Pre) (E : CtlPost) (d : Bool) (acts : List Action), wp (findHandler.go f a t) Q E e d acts s ↔ Q (.found pc) d acts (s.setVm vm')
theorem xgo_row {e : Env} {s : State} {f : JFrame} {a : Addr} {x : ExceptionTableEntry} {t : List ExceptionTableEntry} {c : ClassId} {cell : Cell} {Q : Handler → Pre} {E : CtlPost} {d : Bool} {acts : List Action} (hx : covers x f.pc = true) (h0 : x.catchType ≠ 0)
    (hl : s.vm.ClassLinks e.platform f.method.cls x.catchType c) (hcell : s.heap[a]? = some cell) (hobj : ∀ k, cell.vm ≠ .statics k)
    (hk : ∃ k, s.vm.classes[cell.cls]? = some k) (hc : ∃ k, s.vm.classes[c]? = some k) {b : Bool} (hb : s.vm.assignable cell.cls c = b) :
    wp (findHandler.go f a (x :: t)) Q E e d acts s ↔ if b = true then Q (.found x.handlerPc) d acts (s.setVm (s.vm.noted f.method.cls x.catchType (.cls c))) else wp (findHandler.go f a t) Q E e d acts (s.setVm (s.vm.noted f.method.cls x.catchType (.cls c))) := by
  simp only [covers] at hx
  obtain ⟨ha, ht⟩ := (resolveClass_links e.toSetting hl).op (op := VmOp.resolveClass f.method.cls x.catchType) rfl
  have hal : s.vm.Alike (s.vm.noted f.method.cls x.catchType (.cls c)) := (Vm.Alike.refl s.vm).noted _ _ _
  obtain ⟨k1, hk1⟩ := hk
  obtain ⟨k2, hk2⟩ := hc
  obtain ⟨k1', hk1', -⟩ := hal.2.2 _ _ hk1
  obtain ⟨k2', hk2', -⟩ := hal.2.2 _ _ hk2
  have hb' : (s.vm.noted f.method.cls x.catchType (.cls c)).assignable cell.cls c = b := by rw [hal.assignable]; exact hb
  cases b <;> simp [findHandler.go, hx, h0, ha, ht, hcell, hobj, hk1', hk2', hb', VmOp.dirties, VmOp.acts]
def xrow (s₀ : State) (pl : Platform) (d : ClassId) (thrown : ClassId) (x : ExceptionTableEntry) (b : Bool) : Prop := x.catchType ≠ 0 ∧ ∃ c, s₀.vm.ClassLinks pl d x.catchType c ∧ s₀.vm.assignable thrown c = b
theorem xfind {e : Env} {s₀ : State} {f : JFrame} {a : Addr} {cell : Cell} (hobj : ∀ k, cell.vm ≠ .statics k) (hk0 : ∃ k, s₀.vm.classes[cell.cls]? = some k) {x : ExceptionTableEntry} {rest : List ExceptionTableEntry} (hx : covers x f.pc = true) (hend : xrow s₀ e.platform f.method.cls cell.cls x true) :
    ∀ (pre : List ExceptionTableEntry) (S : State), s₀.WarmedH S.vm → S.heap[a]? = some cell → (∀ y ∈ pre, covers y f.pc = true ∧ xrow s₀ e.platform f.method.cls cell.cls y false) →
      ∃ vm', s₀.WarmedH vm' ∧ xFnd e S f a (pre ++ x :: rest) x.handlerPc vm' := by
  obtain ⟨k0, hk0⟩ := hk0
  intro pre
  induction pre with
  | nil =>
    intro S hW hcell _
    obtain ⟨k0', hk0', -⟩ := hW.alike.2.2 _ _ hk0
    obtain ⟨h0, c, hl, hfit⟩ := hend
    obtain ⟨dk, _, _, kt, hd, _, _, _, _, hkt, _, hopen⟩ := hl.here
    obtain ⟨kt', hkt', -⟩ := hW.alike.2.2 _ _ hkt
    refine ⟨_, hW.noted hd hopen (State.rightAt_cls hl), fun Q E d acts => ?_⟩
    rw [List.nil_append, xgo_row hx h0 (hW.classLinks hl) hcell hobj ⟨k0', hk0'⟩ ⟨kt', hkt'⟩ (b := true) (by rw [hW.alike.assignable]; exact hfit), if_pos rfl]
  | cons y ys ih =>
    intro S hW hcell hpass
    obtain ⟨k0', hk0', -⟩ := hW.alike.2.2 _ _ hk0
    obtain ⟨hcov, h0, c, hl, hno⟩ := hpass y List.mem_cons_self
    obtain ⟨dk, _, _, kt, hd, _, _, _, _, hkt, _, hopen⟩ := hl.here
    obtain ⟨kt', hkt', -⟩ := hW.alike.2.2 _ _ hkt
    obtain ⟨vm', hW', hq⟩ := ih (S.setVm (S.vm.noted f.method.cls y.catchType (.cls c))) (hW.noted hd hopen (State.rightAt_cls hl)) hcell (fun z hz => hpass z (List.mem_cons_of_mem _ hz))
    refine ⟨vm', hW', fun Q E d acts => ?_⟩
    rw [List.cons_append, xgo_row hcov h0 (hW.classLinks hl) hcell hobj ⟨k0', hk0'⟩ ⟨kt', hkt'⟩ (b := false) (by rw [hW.alike.assignable]; exact hno), if_neg (by decide)]
    exact hq Q E d acts
theorem xstep_catch {e : Env} {s : State} {a : Addr} {f : JFrame} {r : List Frame} {pc : Nat} {vm' : Vm} {meth : Method} {code : Code} (hm : s.vm.method? f.method = some meth) (hc : meth.code = some code) (hfind : xFnd e s f a code.exceptionTable.toList pc vm') :
    (stepThrowing e s a (.java f :: r)).Is ((s.setVm vm').setFrames (.java { f with pc := pc, stack := [.ref a] } :: r)) [] := by
  simp only [stepThrowing, searchFrame, vmDo]
  generalize hr : Sem.go _ e false [] s = res
  obtain ⟨as, rfl, ha⟩ := Sem.eq_ok_of hr (a := Handler.found pc) (s' := s.setVm vm') (acts' := []) (by simp [W.findHandler_eq hm hc, hfind _ _ _ _])
  exact ⟨rfl, ha⟩
theorem xcaught {tb : Tables} {e : Env} {s target : State} {g : JFrame} {c : Code} {below : List Frame} {a : Addr} {meth : Method} (h : At s g.method c below) (hm : s.vm.method? g.method = some meth) (hc : meth.code = some c) {pc : Nat} {vm' : Vm}
    (hfind : xFnd e ((s.setTop g).pushFrame (.throwing a)) g a c.exceptionTable.toList pc vm') (hrest : Steps tb e below ((s.setVm vm').setTop { g with pc := pc, stack := [.ref a] }) target) :
    Steps tb e below ((s.setTop g).pushFrame (.throwing a)) target := by
  obtain ⟨hgo, hw⟩ := h.throwing a
  refine Steps.head hgo hw ?_
  rw [stepThread_throwing (frames_entered h.top _), (xstep_catch (s := (s.setTop g).pushFrame (.throwing a)) (meth := meth) (code := c) (by simpa [State.pushFrame, State.setFrames] using hm) hc hfind).1]
  obtain ⟨g₀, hg⟩ := Option.isSome_iff_exists.mp h.top
  obtain ⟨r, hr⟩ := State.topJava?_eq_some.mp hg
  have hr2 : (s.setVm vm').frames = .java g₀ :: r := hr
  have e1 : ((s.setTop g).pushFrame (.throwing a)).setVm vm' = ((s.setVm vm').setTop g).pushFrame (.throwing a) := by
    rw [State.setTop_of_frames _ hr, State.setTop_of_frames _ hr2]
    rfl
  rw [e1, State.pushFrame, State.setFrames_setFrames, State.setTop_of_frames _ hr2, State.setFrames_setFrames]
  rw [State.setTop_of_frames _ hr2] at hrest
  rw [hr]
  exact hrest
end
section
section XCT
variable {M M' : xM} {sc : xSc} {d d' : Nat × Nat} {pc idx mc' ms' : Nat} {lo : xL} {st as : List Value} {h : List xC} {rc rs rc' rs' : Nat} {P Q : xO → Prop}
def xkill (lo : xL) (i : Nat) : xL := (xst lo i .null).set i none
theorem xhas_kill {ls' : Array Slot} {nL : Nat} {ad : Nat → Nat} {lo : xL} {i : Nat} {v : Value} (h : lv_has ls' nL ((i, v) :: (xlv ad lo).filter (fun q => !(q.1 == i) && !(q.1 + 1 == i && q.2.category == 2)))) : xhas ls' nL ad (xkill lo i) := by
  refine ⟨h.1, h.2.1, fun q hq => ?_⟩
  obtain ⟨w, h1, h2⟩ := xlv_mem.mp hq
  unfold xkill at h1
  rw [List.getElem?_set] at h1
  by_cases hi : i = q.1
  · rw [if_pos hi] at h1
    split at h1 <;> cases h1
  · rw [if_neg hi] at h1
    rcases xst_get h1 with ⟨e1, e2⟩ | ⟨e1, e2, e3⟩
    · exact absurd e1.symm hi
    · refine h.2.2 q (List.mem_cons.mpr (Or.inr (List.mem_filter.mpr ⟨xlv_mem.mpr ⟨w, e2, h2⟩, ?_⟩)))
      rw [h2, xv_cat]
      simp only [Bool.and_eq_true, Bool.not_eq_true', beq_eq_false_iff_ne, ne_eq, Bool.and_eq_false_iff]
      refine ⟨e1, ?_⟩
      by_cases hj : q.1 + 1 = i
      · exact Or.inr (fun hc => e3 ⟨hj, hc⟩)
      · exact Or.inl hj
def xcat9 (own : String) (hs : List (Nat × Nat × Nat × Nat)) (pc : Nat) (E : String) (hpc : Nat) : Prop :=
  ∃ (pre : List (Nat × Nat × Nat × Nat)) (x : Nat × Nat × Nat × Nat) (suf : List (Nat × Nat × Nat × Nat)), hs = pre ++ x :: suf ∧ x.2.2.1 = hpc ∧
    (x.1 ≤ pc ∧ pc < x.2.1 ∧ x.2.2.2 ≠ 0 ∧ ∃ nm, Cond.classLink own x.2.2.2 nm ∈ xtb ∧ (nm = E ∧ Cond.initialized E ∈ xtb)) ∧
    ∀ y ∈ pre, y.1 ≤ pc ∧ pc < y.2.1 ∧ y.2.2.2 ≠ 0 ∧ ∃ nm, Cond.classLink own y.2.2.2 nm ∈ xtb ∧ (E, nm) ∈ xnc
set_option maxHeartbeats 1000000 in
theorem xr_callVT {n b ci i len : Nat} {fs : List Value} (hM : xm M' d' (.ref b :: as) h mc' ms' P) (hth : ∀ o, P o → ∃ E, o.1 = .inr E) (hlk : xlV M.1.cls idx M'.1 n) (hcd : xcd M') (hn : as.length = n) (hd : decode M.2.1 pc = .ok (.invokevirtual idx, 3)) (hb0 : h[b]? = some (.inl (ci, fs))) (hci : ∃ (T : u_T) (N : Nat), vwCl[ci]? = some (M'.1.cls, T, N))
    (hdd : d'.1 + 1 ≤ d.1 ∧ M'.2.2.1 + 19 + d'.2 ≤ d.2) (hcat : (st.map fun v => v.category).sum ≤ 8) (hrc : mc' + rc' ≤ rc) (hrs : ms' + rs' ≤ rs)
    (kk : ∀ (E : String) (h' : List xC), P (.inr E, h') → h'.length = h.length ∧ ∃ (hpc i : Nat), xcat9 M.1.cls M.2.2.2.2 pc E hpc ∧ i < M.2.2.1 ∧ ((∃ k9 : Fin 4, (k9 : Nat) = i ∧ decode M.2.1 hpc = .ok (.astore_n k9, 1) ∧ xr M sc d (hpc + 1) (xkill lo i) [] h' rc' rs' Q) ∨ (decode M.2.1 hpc = .ok (.astore i, 2) ∧ xr M sc d (hpc + 2) (xkill lo i) [] h' rc' rs' Q))) :
    xr M sc d pc lo (as.reverse ++ .ref b :: st) h rc rs Q := by
  intro u9 p l e s m args below meth c mc ms cells slots H locs ls D cA ad ad0 N0 C hl
  have hstart := xstart (as := .ref b :: as) C
  have C9 := C
  obtain ⟨⟨hx, hb, hml, hr, hlo, hown, hnm, htb, hll⟩, hts, hF, hcs, hK, ⟨hN, hag, hpl, hln⟩, hP, hD, hS⟩ := C
  obtain ⟨T9, N9, hci⟩ := hci
  obtain ⟨hl1, hl2, hl3, hl4, hl5⟩ := hlk
  obtain ⟨cellB, hcB, hoB, hclB⟩ := va_recv (a := ad b) hK hP hci (q0 := b) (fs := fs.map (xv ad)) (xw_at hb0)
  have hclB : s.vm.findClass M'.1.cls = some cellB.cls := hclB
  intro T hT X
  have hcode := hts _ hcd
  obtain ⟨mk, methM, hnamed, hmethM, hstM, habM⟩ := Cond.instanceMethod_spec (hts _ hl2)
  obtain ⟨methM', cM, hmethM', hcM, -, hlM, -, -, -, hsigM⟩ := Cond.code_spec hnamed hcode
  cases hmethM.symm.trans hmethM'
  have hy : M'.1.cls ≠ "java/lang/invoke/MethodHandle" ∧ M'.1.cls ≠ "java/lang/invoke/VarHandle" := ⟨hl5.1, hl5.2.1⟩
  obtain ⟨c2, r2, m2, q1, q2, q3, q4, kP, hkP, hkPi⟩ := Cond.selects_spec (hts _ hl3)
  cases hclB.symm.trans q1
  cases (State.methodFound?_of_named hnamed hy).symm.trans q2
  cases hnamed.symm.trans q3
  have hselP : selectMethod e.platform s.vm cellB.cls mk = .method mk := by rw [Launch.admits_selectMethod X.admits]; exact q4
  have hlen9 : (as.map (xv ad)).length = methM.sig.parameters.length := by
    have h2 := hl5.2.2
    rw [hsigM] at h2
    rw [List.length_map, hn]
    exact (Option.some.inj h2).symm
  have hstk : (F0 m pc ls ((as.reverse ++ .ref b :: st).map (xv ad))).stack = (as.map (xv ad)).reverse ++ .ref (ad b) :: st.map (xv ad) := by
    show (as.reverse ++ .ref b :: st).map (xv ad) = _
    rw [List.map_append, List.map_reverse]; rfl
  have hinv : ∃ vm₁, Stand p l e (xrm d mc ms) s m args below meth c (T.setVm vm₁) locs cells slots ∧ ∀ target, (∀ acts, Steps p.tables e below (doInvoke e ((T.setVm vm₁).setTop (F0 m pc ls (st.map (xv ad)))) acts mk (Value.ref (ad b) :: as.map (xv ad)).toArray).1 target) → Steps p.tables e below (T.setTop (F0 m pc ls ((as.reverse ++ .ref b :: st).map (xv ad)))) target := by
    rcases hl1 with hl1 | ⟨host, hl1⟩
    · exact X.invokevirtual hx hown (hts _ hl1) hnamed hmethM hstM hkP hkPi hy (a := ad b) (cell := cellB) (by rw [hT]; exact hcB) (fun z h => by rw [h] at hoB; cases hoB) hselP hmethM habM hkP hkPi (g := F0 m pc ls ((as.reverse ++ .ref b :: st).map (xv ad))) rfl (argsL := as.map (xv ad)) (rest := st.map (xv ad)) hlen9 hstk (by rw [hb]; exact hd)
    · exact X.invokevirtualNest hx hown (va_Nw.use rfl (hF.1 _ hl1)) hnamed hmethM hstM hkP hkPi hy (a := ad b) (cell := cellB) (by rw [hT]; exact hcB) (fun z h => by rw [h] at hoB; cases hoB) hselP hmethM habM hkP hkPi (g := F0 m pc ls ((as.reverse ++ .ref b :: st).map (xv ad))) rfl (argsL := as.map (xv ad)) (rest := st.map (xv ad)) hlen9 hstk (by rw [hb]; exact hd)
  obtain ⟨vm₁, X₁, hstep₁⟩ := hinv
  have hW₁ := X₁.warmed
  have hgood := xgood hcd
  have hpre : (headSpec (xws M') (xrm d' mc' ms')).pre.before (Value.ref (ad b) :: as.map (xv ad)).toArray (T.setVm vm₁) = true := atoms_intro fun w hw => pay_in hts hgood w hw _ _ hW₁
  have hini : (Cond.initialized M'.1.cls).before (Value.ref (ad b) :: as.map (xv ad)).toArray (T.setVm vm₁) = true := word_at hW₁ (good_of_word (List.mem_filter.mp hl4).2) (hts _ hl4)
  have hn₁ : (T.setVm vm₁).methodNamed? M'.1 = some mk := X₁.named hnamed
  obtain ⟨kY, hkY, -⟩ := className_of_methodNamed hn₁
  have hinitY : kY.init = .initialized := Cond.initialized_spec (findClass_of_methodNamed hn₁) hkY hini
  have hmY : (T.setVm vm₁).vm.method? mk = some methM := by rw [hW₁.alike.method?]; exact hmethM
  have hdg : decode c.code pc = .ok (.invokevirtual idx, 3) := by rw [hb]; exact hd
  have hat : At (T.setVm vm₁) m c below := X₁.here
  generalize hgd : F0 m pc ls (st.map (xv ad)) = g at hstep₁
  have hgm : g.method = m := by rw [← hgd]
  have hgp : g.pc = pc := by rw [← hgd]
  have hsz : g.locals.size = c.maxLocals := by rw [← hgd, hml]; exact hl.1
  have hgw : 2 * g.monitorRoom + (g.stack.map fun v => v.category).sum ≤ 8 := by
    rw [← hgd]
    exact lv_room (m := m) (pc := pc) (ls := ls) (rest := st.map (xv ad)) (st := st.map (xv ad)) (by rw [xcat]; exact hcat)
  have hat' : At (T.setVm vm₁) g.method c below := by rw [hgm]; exact hat
  have happ : (headSpec (xws M') (xrm d' mc' ms')).appliesLoose M'.1 e.platform ((T.setVm vm₁).calling g mk (Value.ref (ad b) :: as.map (xv ad)).toArray) = true :=
    Spec.appliesLoose_calling (g := g) hat' (by rw [hgp]; exact hdg) hn₁ hkY hinitY
      (X₁.room_calling (g := g) (R' := (headSpec (xws M') (xrm d' mc' ms')).room) hsz hmY hcM (by show d'.1 + 1 ≤ d.1; exact hdd.1) (by rw [hlM]; show _ + _ + (_ + 11) + d'.2 ≤ d.2; omega) (by show cells + mc' ≤ mc; omega) (by show slots + ms' ≤ ms; omega)) hpre
  obtain ⟨mid, hmid⟩ := hat'.above
  have hfr : ((T.setVm vm₁).setTop g).frames = (.java g :: mid) ++ below := by rw [State.frames_setTop' g hat'.top, hmid]; rfl
  have hPc : xPc D cA ad (.ref b :: as) h (Value.ref (ad b) :: as.map (xv ad)).toArray ((T.setVm vm₁).calling g mk (Value.ref (ad b) :: as.map (xv ad)).toArray) := (xblind (sz := H.size) _ _ g mk (hstart (T.setVm vm₁) hT hW₁)).1
  obtain ⟨oc, s₂, hsteps, -, hend, o, hPo, hE⟩ := Steps.callFree (hM l hll D cA ad) p X.admits X.cas X.clock (acts := []) hfr happ hPc trivial
  have hE : xE D cA ad h.length o ((T.setVm vm₁).calling g mk (Value.ref (ad b) :: as.map (xv ad)).toArray) mc' ms' oc s₂ := hE
  obtain ⟨r9, h'⟩ := o
  obtain ⟨E, hE1⟩ := hth _ hPo
  have hE1 : r9 = .inr E := hE1
  subst hE1
  obtain ⟨⟨L, hW₂, hsm, hL⟩, hN', hFr, ad', hag', hP', hD', q, ce, rfl, hce, hcv, hcl⟩ := hE
  obtain ⟨hlen', hpc, i, hcat9, hin, hrest⟩ := kk E h' hPo
  have hade : ad' = ad := xsame hlen' hag'
  subst hade
  rw [State.frames_setTop' g hat'.top] at hend
  obtain ⟨g₀, hg0⟩ := Option.isSome_iff_exists.mp hat'.top
  obtain ⟨r, hr9⟩ := State.topJava?_eq_some.mp hg0
  obtain ⟨e2, z2, z3, z4, z5, z6⟩ := hsm
  have hW' : (T.setVm vm₁).WarmedH s₂.vm := hW₂
  have hU0 : (({ (T.setVm vm₁) with heap := s₂.heap, slotsUsed := s₂.slotsUsed } : State).setVm s₂.vm).frames = .java g₀ :: r := hr9
  have e3 : s₂ = ({ ((T.setVm vm₁).calling g mk (Value.ref (ad' b) :: as.map (xv ad')).toArray).setFrames s₂.frames with heap := s₂.heap, slotsUsed := s₂.slotsUsed } : State).setVm s₂.vm := by
    have : s₂ = ({ s₂ with vm := ((T.setVm vm₁).calling g mk (Value.ref (ad' b) :: as.map (xv ad')).toArray).vm } : State).setVm s₂.vm := rfl
    rw [e2] at this
    exact this
  have hend : s₂.frames = .throwing q :: .java g :: (T.setVm vm₁).frames.tail := hend
  have hs₂ : s₂ = ((({ (T.setVm vm₁) with heap := s₂.heap, slotsUsed := s₂.slotsUsed } : State).setVm s₂.vm).setTop g).pushFrame (.throwing q) := by
    refine e3.trans ?_
    rw [hend, State.calling_eq hat'.top, State.setFrames_setFrames, State.pushFrame, State.setTop_of_frames _ hU0, State.setFrames_setFrames, hr9]
    have hU1 : ((({ (T.setVm vm₁) with heap := s₂.heap, slotsUsed := s₂.slotsUsed } : State).setVm s₂.vm).setFrames (.java g :: r)).frames = .java g :: r := State.frames_setFrames _ (State.cur_lt_of_frames hU0)
    rw [hU1]
    rfl
  have hsame : (T.setVm vm₁).sameButNew ({ (T.setVm vm₁) with heap := s₂.heap, slotsUsed := s₂.slotsUsed } : State) L mc' ms' := by
    refine ⟨?_, z2, z3, z4, z5, z6⟩
    obtain ⟨t, ht, -⟩ := State.frames_cons hr9
    show ({ (T.setVm vm₁) with heap := s₂.heap, slotsUsed := s₂.slotsUsed } : State) = { (T.setVm vm₁).setFrames (T.setVm vm₁).frames with heap := s₂.heap, slotsUsed := s₂.slotsUsed }
    rw [State.setFrames_self ht]
  have X₂ : Stand p l e (xrm d mc ms) s m args below meth c (({ (T.setVm vm₁) with heap := s₂.heap, slotsUsed := s₂.slotsUsed } : State).setVm s₂.vm) (locs ++ L) (cells + mc') (slots + ms') :=
    ⟨X₁.admits, X₁.cas, X₁.clock, X₁.frames, X₁.room, X₁.hears, X₁.method, X₁.code, (X₁.here.setHeapUsed s₂.heap s₂.slotsUsed).setVm hW'.alike, X₁.tail, State.WarmedH.trans X₁.warmed hW', X₁.limits, X₁.bytes, X₁.same.trans (hsame.setVm s.vm)⟩
  generalize hU : (({ (T.setVm vm₁) with heap := s₂.heap, slotsUsed := s₂.slotsUsed } : State).setVm s₂.vm) = U at X₂ hs₂
  have hUh : U.heap = s₂.heap := by rw [← hU]; rfl
  have hclE : s.vm.findClass E = some ce.cls := by
    have : (T.setVm vm₁).vm.findClass E = some ce.cls := hcl
    rw [hW₁.alike.findClass] at this
    exact this
  obtain ⟨kE, hkE, -⟩ := Vm.findClass_spec hclE
  obtain ⟨pre9, x9, suf9, hhs, hxp, ⟨hx1, hx2, hx3, nm, hx4, hx5, hx6⟩, hpre9⟩ := hcat9
  subst hx5
  rw [hhs] at htb
  obtain ⟨preE, restE, hsp1, hsp2, hsp3⟩ := List.map_eq_append_iff.mp htb
  obtain ⟨xE9, sufE, hsp4, hsp5, hsp6⟩ := List.map_eq_cons_iff.mp hsp3
  subst hsp4
  have hplt : e.platform.magicAccessors = ({} : Platform).magicAccessors := by rw [X.admits.platform]
  have hxe : xE9.startPc = x9.1 ∧ xE9.endPc = x9.2.1 ∧ xE9.handlerPc = x9.2.2.1 ∧ xE9.catchType = x9.2.2.2 := by rw [← hsp5]; exact ⟨rfl, rfl, rfl, rfl⟩
  have hcovx : covers xE9 g.pc = true := by
    rw [hgp]
    simp only [covers, Bool.and_eq_true, decide_eq_true_eq]
    omega
  have hrowx : xrow s e.platform g.method.cls ce.cls xE9 true := by
    rw [hgm]
    refine ⟨by rw [hxe.2.2.2]; exact hx3, ?_⟩
    have := hts _ hx4
    rw [← hxe.2.2.2] at this
    obtain ⟨c5, hc5, hcl5⟩ := Cond.classLink_spec hown this e.platform hplt
    cases Option.some.inj (hc5.symm.trans hclE)
    exact ⟨_, hcl5, va_asg _ _⟩
  have hrowp : ∀ y ∈ preE, covers y g.pc = true ∧ xrow s e.platform g.method.cls ce.cls y false := by
    intro y hy9
    have hym : (y.startPc, y.endPc, y.handlerPc, y.catchType) ∈ pre9 := by
      rw [← hsp2]
      exact List.mem_map.mpr ⟨y, hy9, rfl⟩
    obtain ⟨w1, w2, w3, nm9, w4, w5⟩ := hpre9 _ hym
    dsimp only at w1 w2 w3 w4
    refine ⟨?_, ?_⟩
    · rw [hgp]
      simp only [covers, Bool.and_eq_true, decide_eq_true_eq]
      exact ⟨w1, w2⟩
    · rw [hgm]
      refine ⟨w3, ?_⟩
      obtain ⟨c6, hc6, hcl6⟩ := Cond.classLink_spec hown (hts _ w4) e.platform hplt
      obtain ⟨a8, b8, n1, n2, n3⟩ := hF.2.2.2.2.2.1 _ w5
      cases Option.some.inj (n1.symm.trans hclE)
      cases Option.some.inj (n2.symm.trans hc6)
      exact ⟨_, hcl6, n3⟩
  obtain ⟨vm', hW9, hfnd⟩ := xfind (e := e) (s₀ := s) (f := g) (a := q) (cell := ce) (VmData.ne_statics_of (by rw [hcv]; rfl)) ⟨kE, hkE⟩ (rest := sufE) hcovx hrowx preE ((U.setTop g).pushFrame (.throwing q)) X₂.warmed (by show U.heap[q]? = some ce; rw [hUh]; exact hce) hrowp
  rw [← hsp1] at hfnd
  have hAt2 : At U g.method c below := by rw [hgm]; exact X₂.here
  have X₃ := X₂.noted hW9
  have hsub := xA_sub (D := D) (sz2 := H.size) hD hS.1
  have hsz9 : ((T.setVm vm₁).calling g mk (Value.ref (ad' b) :: as.map (xv ad')).toArray).heap = H := hT
  rw [hsz9] at hFr hD' hL
  have hFr2 : H.size ≤ s₂.heap.size ∧ ∀ q : Nat, q < H.size → ¬ xA ad' h.length H.size q → s₂.heap[q]? = H[q]? := by
    have := hFr
    unfold va_F at this
    rw [hsz9] at this
    exact this
  have hS' : va_S (xA ad0 N0 s.heap.size) s.heap s₂.heap (locs ++ L) := by
    refine ⟨Nat.le_trans hS.1 hFr2.1, ?_, ?_⟩
    · intro q9 h1 h2
      rw [hFr2.2 q9 (Nat.lt_of_lt_of_le h1 hS.1) (fun z => h2 (hsub q9 z))]
      exact hS.2.1 q9 h1 h2
    · intro q9 hq9
      rcases List.mem_append.mp hq9 with h9 | h9
      · exact hS.2.2 q9 h9
      · exact hsub _ (hL q9 h9)
  have C' : xC0 M sc rc' rs' h' p l e s m args meth c mc ms (cells + mc') (slots + ms') s₂.heap (locs ++ L) D cA ad' ad0 N0 :=
    ⟨⟨hx, hb, hml, hr, hlo, hown, hnm, by rw [hhs]; exact htb, hll⟩, hts, hF, ⟨by omega, by omega⟩, hK, ⟨by rw [hlen']; exact hN, fun k hk => hag k (by rw [← hlen']; exact hk), hpl, by rw [hlen']; exact hln⟩, hP', hD'.weaken (fun q9 _ _ hq9 => hsub _ hq9), hS'⟩
  have K : W p l e (xrm d mc ms) s m args below meth c s₂.heap (locs ++ L) (cells + mc') (slots + ms') (xQ below D cA ad0 N0 Q s mc ms) (F0 m hpc ls [.ref q]) := by
    rcases hrest with ⟨k9, hk9, hdh, hr⟩ | ⟨hdh, hr⟩
    · exact lv_astore_n hx hb hdh hk9 hl hin rfl (fun ls' hl' => hr u9 C' (xhas_kill hl'))
    · exact lv_astore hx hb hdh hl hin rfl (fun ls' hl' => hr u9 C' (xhas_kill hl'))
  obtain ⟨t2, a1, b1⟩ := K (U.setVm vm') hUh X₃
  refine ⟨t2, hstep₁ _ fun acts => ?_, b1⟩
  rw [doInvoke_state]
  refine hsteps.trans ?_
  rw [hs₂]
  refine xcaught (meth := meth) hAt2 (by rw [hgm]; exact X₂.method') X₂.code hfnd ?_
  rw [hxe.2.2.1, hxp, ← hgd]
  exact a1
end XCT
end
section
section XJ
variable {M M' : xM} {sc : xSc} {d d' : Nat × Nat} {pc idx mc' ms' : Nat} {lo : xL} {st as : List Value} {h : List xC} {rc rs rc' rs' : Nat} {P Q : xO → Prop}
theorem xr_ldc {v : Int32} {q9 : Nat} (hd : xd M pc (.ldc idx) 2 q9) (hw : Cond.constant M.1.cls idx v ∈ xtb) (k : xr M sc d q9 lo (.int v :: st) h rc rs Q) : xr M sc d pc lo st h rc rs Q := by
  obtain ⟨hd, rfl⟩ := hd
  intro u9 p l e s m args below meth c mc ms cells slots H locs ls D cA ad ad0 N0 C hl
  exact lv_ldc C.1.1 C.1.2.1 C.1.2.2.2.2.2.1 (C.2.1 _ hw) hd (k u9 C hl)
theorem xr_ldcw {v : Int32} {q9 : Nat} (hd : xd M pc (.ldc_w idx) 3 q9) (hw : Cond.constant M.1.cls idx v ∈ xtb) (k : xr M sc d q9 lo (.int v :: st) h rc rs Q) : xr M sc d pc lo st h rc rs Q := by
  obtain ⟨hd, rfl⟩ := hd
  intro u9 p l e s m args below meth c mc ms cells slots H locs ls D cA ad ad0 N0 C hl
  exact lv_ldcw C.1.1 C.1.2.1 C.1.2.2.2.2.2.1 (C.2.1 _ hw) hd (k u9 C hl)
theorem xr_ldc2 {v : Int64} {q9 : Nat} (hd : xd M pc (.ldc2_w idx) 3 q9) (hw : Cond.constantLong M.1.cls idx v ∈ xtb) (k : xr M sc d q9 lo (.long v :: st) h rc rs Q) : xr M sc d pc lo st h rc rs Q := by
  obtain ⟨hd, rfl⟩ := hd
  intro u9 p l e s m args below meth c mc ms cells slots H locs ls D cA ad ad0 N0 C hl
  exact lv_ldc2 C.1.1 C.1.2.1 C.1.2.2.2.2.2.1 (C.2.1 _ hw) hd (k u9 C hl)
theorem xr_mmax {x y : Int32} {q9 : Nat} (hd : xd M pc (.invokestatic idx) 3 q9) (hw : xwmax M.1.cls idx) (hdd : 1 ≤ d.1 ∧ 21 ≤ d.2) (hcat : (st.map fun v => v.category).sum ≤ 8) (k : xr M sc d q9 lo (.int (if x < y then y else x) :: st) h rc rs Q) : xr M sc d pc lo (.int y :: .int x :: st) h rc rs Q := by
  obtain ⟨hd, rfl⟩ := hd
  intro u9 p l e s m args below meth c mc ms cells slots H locs ls D cA ad ad0 N0 C hl
  have hk := k u9 C hl (below := below)
  obtain ⟨⟨hx, hb, hml, hr, hlo, hown, hnm, htb, hll⟩, hts, hF, hcs, hK, hN, hP, hD, hS⟩ := C
  exact va_mmax hx hb (hml.trans hl.1.symm) hown (hts _ hw.1) (hts _ hw.2.1) (hts _ hw.2.2.1) (hts _ hw.2.2.2) hdd.1 (by rw [xcat]; show _ + 13 ≤ d.2; omega) (by show cells ≤ mc; omega) (by show slots ≤ ms; omega) hd hk
theorem xr_mmin {x y : Int32} {q9 : Nat} (hd : xd M pc (.invokestatic idx) 3 q9) (hw : xwmin M.1.cls idx) (hdd : 1 ≤ d.1 ∧ 21 ≤ d.2) (hcat : (st.map fun v => v.category).sum ≤ 8) (k : xr M sc d q9 lo (.int (if y < x then y else x) :: st) h rc rs Q) : xr M sc d pc lo (.int y :: .int x :: st) h rc rs Q := by
  obtain ⟨hd, rfl⟩ := hd
  intro u9 p l e s m args below meth c mc ms cells slots H locs ls D cA ad ad0 N0 C hl
  have hk := k u9 C hl (below := below)
  obtain ⟨⟨hx, hb, hml, hr, hlo, hown, hnm, htb, hll⟩, hts, hF, hcs, hK, hN, hP, hD, hS⟩ := C
  exact va_mmin hx hb (hml.trans hl.1.symm) hown (hts _ hw.1) (hts _ hw.2.1) (hts _ hw.2.2.1) (hts _ hw.2.2.2) hdd.1 (by rw [xcat]; show _ + 13 ≤ d.2; omega) (by show cells ≤ mc; omega) (by show slots ≤ ms; omega) hd hk
theorem xr_copyi {a0 a1 n0 n1 : Nat} {f g : Nat → Int32} {ty : FieldType} {sp dp n : Int32} {h' : List xC} {q9 : Nat} (hd : xd M pc (.invokestatic idx) 3 q9) (hw : xwcopy M.1.cls idx) (hty : xtok ty) (hprim : refKind ty = false) (ha0 : h[a0]? = some (.inr (ty, n0, .inl f))) (ha1 : h[a1]? = some (.inr (ty, n1, .inl g)))
    (h1 : ¬ sp < 0) (h2 : ¬ dp < 0) (h3 : ¬ n < 0) (h4 : sp.toNatClampNeg + n.toNatClampNeg ≤ n0) (h5 : dp.toNatClampNeg + n.toNatClampNeg ≤ n1) (hfit : ∀ i, i < n.toNatClampNeg → fits ty (.int (f (sp.toNatClampNeg + i))) = true)
    (hdd : 1 ≤ d.1) (hnw : 8 + (nativeFrameWords "java/lang/System" "arraycopy" 5 + 11) ≤ d.2) (hcat : (st.map fun v => v.category).sum ≤ 8) (hh : h.set a1 (.inr (ty, n1, .inl (va_cpy f g sp.toNatClampNeg dp.toNatClampNeg n.toNatClampNeg))) = h')
    (kk : xr M sc d q9 lo st h' rc rs Q) : xr M sc d pc lo (.int n :: .int dp :: .ref a1 :: .int sp :: .ref a0 :: st) h rc rs Q := by
  obtain ⟨hd, rfl⟩ := hd
  intro u9 p l e s m args below meth c mc ms cells slots H locs ls D cA ad ad0 N0 C hl
  subst hh
  obtain ⟨⟨hx, hb, hml, hr, hlo, hown, hnm, htb, hll⟩, hts, hF, hcs, hK, hN, hP, hD, hS⟩ := C
  refine va_copyi hx hb (hml.trans hl.1.symm) hown (hts _ hw.1) (hts _ hw.2.1) (hts _ hw.2.2.1) (hts _ hw.2.2.2) hK hP hD hS a0 a1 (xti ty) (xti ty) (xw_at (cA := cA) (ad := ad) ha0) (xw_at (cA := cA) (ad := ad) ha1) (xt_at hty) (xt_at hty) hprim h1 h2 h3 h4 h5 hfit hdd (by rw [xcat]; show _ ≤ d.2; omega) hd (fun H1 locs1 hP1 hD1 hS1 => ?_)
  have hset : (xw cA ad h).set a1 (ad a1, .inl (cA ty, n1, .inl (va_cpy f g sp.toNatClampNeg dp.toNatClampNeg n.toNatClampNeg))) = xw cA ad (h.set a1 (.inr (ty, n1, .inl (va_cpy f g sp.toNatClampNeg dp.toNatClampNeg n.toNatClampNeg)))) := xw_set (c := (.inr (ty, n1, .inl (va_cpy f g sp.toNatClampNeg dp.toNatClampNeg n.toNatClampNeg))))
  rw [hset] at hP1 hD1
  exact kk u9 ⟨⟨hx, hb, hml, hr, hlo, hown, hnm, htb, hll⟩, hts, hF, hcs, hK, by rw [List.length_set]; exact hN, hP1, hD1, hS1⟩ hl
theorem xr_getsA {C n ds : String} {t N : Nat} {f : Nat → Int32} {q9 : Nat} (hd : xd M pc (.getstatic idx) 3 q9) (hq : (C, n, ds, t, N, f) ∈ xsa) (hlk : Cond.fieldLink M.1.cls idx C n ds ∈ xtb) (k : xr M sc d q9 lo (.ref t :: st) h rc rs Q) : xr M sc d pc lo st h rc rs Q := by
  obtain ⟨hd, rfl⟩ := hd
  intro u9 p l e s m args below meth c mc ms cells slots H locs ls D cA ad ad0 N0 C9 hl
  have hk := k u9 C9 hl (below := below)
  obtain ⟨⟨hx, hb, hml, hr, hlo, hown, hnm, htb, hll⟩, hts, hF, hcs, hK, hN, hP, hD, hS⟩ := C9
  obtain ⟨hZ, hT, ht⟩ := hF.2.2.2.2.1 _ hq
  dsimp only at hZ hT ht
  have e9 : ad t = ad0 t := hN.2.1 _ (Or.inr (Nat.le_trans hN.2.2.2 ht))
  have hk : W p l e (xrm d mc ms) s m args below meth c H locs cells slots (xQ below D cA ad0 N0 Q s mc ms) (F0 m (pc + 3) ls (.ref (ad t) :: st.map (xv ad))) := hk
  rw [e9] at hk
  exact va_gets hx hb hZ hS hown (hts _ hlk) (fun _ h9 => h9) hd hk
theorem xr_tald {C n ds : String} {t N : Nat} {f : Nat → Int32} {i : Int32} {q9 : Nat} (hd : xd M pc (.iaload) 1 q9) (hq : (C, n, ds, t, N, f) ∈ xsa) (hin : vp_in i N) (k : xr M sc d q9 lo (.int (f i.toNatClampNeg) :: st) h rc rs Q) : xr M sc d pc lo (.int i :: .ref t :: st) h rc rs Q := by
  obtain ⟨hd, rfl⟩ := hd
  intro u9 p l e s m args below meth c mc ms cells slots H locs ls D cA ad ad0 N0 C9 hl
  have hk := k u9 C9 hl (below := below)
  obtain ⟨⟨hx, hb, hml, hr, hlo, hown, hnm, htb, hll⟩, hts, hF, hcs, hK, hN, hP, hD, hS⟩ := C9
  obtain ⟨hZ, hT, ht⟩ := hF.2.2.2.2.1 _ hq
  dsimp only at hZ hT ht
  have e9 : ad t = ad0 t := hN.2.1 _ (Or.inr (Nat.le_trans hN.2.2.2 ht))
  show W p l e _ s m args below meth c H locs cells slots _ (F0 m pc ls (.int i :: .ref (ad t) :: st.map (xv ad)))
  rw [e9]
  exact va_ti hx hb hT hS hin rfl hd hk
theorem xr_tlen {C n ds : String} {t N : Nat} {f : Nat → Int32} {v : Int32} {q9 : Nat} (hd : xd M pc (.arraylength) 1 q9) (hq : (C, n, ds, t, N, f) ∈ xsa) (hv : Int32.ofNat N = v) (k : xr M sc d q9 lo (.int v :: st) h rc rs Q) : xr M sc d pc lo (.ref t :: st) h rc rs Q := by
  obtain ⟨hd, rfl⟩ := hd
  intro u9 p l e s m args below meth c mc ms cells slots H locs ls D cA ad ad0 N0 C9 hl
  have hk := k u9 C9 hl (below := below)
  obtain ⟨⟨hx, hb, hml, hr, hlo, hown, hnm, htb, hll⟩, hts, hF, hcs, hK, hN, hP, hD, hS⟩ := C9
  obtain ⟨hZ, hT, ht⟩ := hF.2.2.2.2.1 _ hq
  dsimp only at hZ hT ht
  have e9 : ad t = ad0 t := hN.2.1 _ (Or.inr (Nat.le_trans hN.2.2.2 ht))
  show W p l e _ s m args below meth c H locs cells slots _ (F0 m pc ls (.ref (ad t) :: st.map (xv ad)))
  rw [e9]
  exact va_tlen hx hb hT hS hv hd hk
theorem xr_lret {v : Int64} {q9 : Nat} (hrt : M.2.2.2.1 = some .long) (hd : xd M pc (.lreturn) 1 q9) (hq : Q (.inl (some (.long v)), h)) : xr M sc d pc lo [.long v] h rc rs Q := by
  obtain ⟨hd, rfl⟩ := hd
  intro u9 p l e s m args below meth c mc ms cells slots H locs ls D cA ad ad0 N0 C hl
  obtain ⟨⟨hx, hb, hml, hr, hlo, hown, hnm, htb, hll⟩, hts, hF, hcs, hK, hN, hP, hD, hS⟩ := C
  refine W.widen (k := mc) (n := ms) (by omega) (by omega) ?_
  refine W.mono ?_ (W.lret (Qc := fun _ _ oc t => oc = .returned (some (.long v)) ∧ t.heap = H) (free := xA ad0 N0 s.heap.size) (v := v) hx hb (hr.trans hrt) (fun t ht hW => ⟨rfl, ht⟩) hS.2.2 hd hlo)
  rintro t ⟨oc, h1, h2, ⟨rfl, ht⟩, L, ⟨-, hW, hsm⟩, hL⟩
  exact ⟨_, _, hq, h1, h2, xE_ret (v := some (.long v)) hN.1 hN.2.1 hP hD hS ht hW hsm hL⟩
theorem xr_cV {n b ci q9 : Nat} {fs : List Value} (hM : xm M' d' (.ref b :: as) h mc' ms' P) (hlk : xlV M.1.cls idx M'.1 n) (hcd : xcd M') (hci : ∃ (T : u_T) (N : Nat), vwCl[ci]? = some (M'.1.cls, T, N)) (hd : xd M pc (.invokevirtual idx) 3 q9) (hn : as.length = n) (hb0 : h[b]? = some (.inl (ci, fs)))
    (hdd : d'.1 + 1 ≤ d.1 ∧ M'.2.2.1 + 19 + d'.2 ≤ d.2) (hcat : (st.map fun v => v.category).sum ≤ 8) (hrc : mc' + rc' ≤ rc) (hrs : ms' + rs' ≤ rs) (hl9 : h.length ≤ 1000000)
    (kk : ∀ o, P o → ∃ v h', o = (.inl v, h') ∧ h'.length = h.length ∧ xr M sc d q9 lo (v.toList ++ st) h' rc' rs' Q) : xr M sc d pc lo (as.reverse ++ .ref b :: st) h rc rs Q := by
  refine xr_callVA hM (fun o ho => ?_) hlk hcd hn hd hb0 hci hdd hcat hrc hrs (fun v h' hP => ?_)
  · obtain ⟨v, h', rfl, -, -⟩ := kk o ho
    exact ⟨v, rfl⟩
  · obtain ⟨v2, h2, he, hlen, hk⟩ := kk _ hP
    cases he
    exact ⟨by omega, xw1_same hlen, hk⟩
theorem xr_cS {n q9 : Nat} (hM : xm M' d' as h mc' ms' P) (hlk : xlS M.1.cls idx M'.1 n) (hcd : xcd M') (hd : xd M pc (.invokestatic idx) 3 q9) (hn : as.length = n)
    (hdd : d'.1 + 1 ≤ d.1 ∧ M'.2.2.1 + 19 + d'.2 ≤ d.2) (hcat : (st.map fun v => v.category).sum ≤ 8) (hrc : mc' + rc' ≤ rc) (hrs : ms' + rs' ≤ rs) (hl9 : h.length ≤ 1000000)
    (kk : ∀ o, P o → ∃ v h', o = (.inl v, h') ∧ h'.length = h.length ∧ xr M sc d q9 lo (v.toList ++ st) h' rc' rs' Q) : xr M sc d pc lo (as.reverse ++ st) h rc rs Q := by
  refine xr_callSA hM (fun o ho => ?_) hlk hcd hn hd hdd hcat hrc hrs (fun v h' hP => ?_)
  · obtain ⟨v, h', rfl, -, -⟩ := kk o ho
    exact ⟨v, rfl⟩
  · obtain ⟨v2, h2, he, hlen, hk⟩ := kk _ hP
    cases he
    exact ⟨by omega, xw1_same hlen, hk⟩
end XJ
theorem xm_mono {M : xM} {d : Nat × Nat} {as : List Value} {h : List xC} {mc ms : Nat} {P P' : xO → Prop} (hM : xm M d as h mc ms P) (hp : ∀ o, P o → P' o) : xm M d as h mc ms P' := by
  intro l hl D cA ad0 p e ha hc hk s m args below hf happ hP hK
  obtain ⟨n, oc, h1, h2, h3, o, h4, h5⟩ := hM l hl D cA ad0 p e ha hc hk s m args below hf happ hP hK
  exact ⟨n, oc, h1, h2, h3, o, hp o h4, h5⟩
theorem xr_mono {M : xM} {sc : xSc} {d : Nat × Nat} {pc : Nat} {lo : xL} {st : List Value} {h : List xC} {rc rs : Nat} {Q Q' : xO → Prop} (hk : xr M sc d pc lo st h rc rs Q) (hq : ∀ o, Q o → Q' o) : xr M sc d pc lo st h rc rs Q' := by
  intro u9 p l e s m args below meth c mc ms cells slots H locs ls D cA ad ad0 N0 C hl
  refine W.mono ?_ (hk u9 C hl)
  rintro t ⟨oc, o, h1, h2, h3, h4⟩
  exact ⟨oc, o, hq o h1, h2, h3, h4⟩
theorem xr_lo {M : xM} {sc : xSc} {d : Nat × Nat} {pc : Nat} {lo lo' : xL} {st : List Value} {h : List xC} {rc rs : Nat} {Q : xO → Prop} (hs : ∀ (i : Nat) (v : Value), lo'[i]? = some (some v) → lo[i]? = some (some v)) (hk : xr M sc d pc lo' st h rc rs Q) : xr M sc d pc lo st h rc rs Q := by
  intro u9 p l e s m args below meth c mc ms cells slots H locs ls D cA ad ad0 N0 C hl
  refine hk u9 C ⟨hl.1, hl.2.1, fun q hq => ?_⟩
  obtain ⟨v, h1, h2⟩ := xlv_mem.mp hq
  exact hl.2.2 q (xlv_mem.mpr ⟨v, hs _ _ h1, h2⟩)
theorem xr_room {M : xM} {sc : xSc} {d : Nat × Nat} {pc : Nat} {lo : xL} {st : List Value} {h : List xC} {rc rs rc' rs' : Nat} {Q : xO → Prop} (h1 : rc' ≤ rc) (h2 : rs' ≤ rs) (hk : xr M sc d pc lo st h rc' rs' Q) : xr M sc d pc lo st h rc rs Q := by
  intro u9 p l e s m args below meth c mc ms cells slots H locs ls D cA ad ad0 N0 C hl
  obtain ⟨c1, c2, c3, c4, c5⟩ := C
  exact hk u9 ⟨c1, c2, c3, ⟨by omega, by omega⟩, c5⟩ hl
end
