section
-- ===== PART A: goes FIRST, ahead of the names: the tables' words, and 'selects' of the private methods out of them =====
/-- a private method of a class that the tables say can be made, by its rows of tables_1 -/
def lw_okq (q : MethodName × Nat) : Prop := (q.1.cls ≠ "java/lang/invoke/MethodHandle" ∧ q.1.cls ≠ "java/lang/invoke/VarHandle") ∧ Cond.instantiable q.1.cls q.2 ∈ tables_1 ∧ Cond.privateMethod q.1 ∈ tables_1 ∧ Cond.instanceMethod q.1 ∈ tables_1
theorem lw_p0 : lw_okq (⟨"FelledByNames$Text", "readLevel", "(I)V"⟩, 11) := ⟨⟨by decide +kernel, by decide +kernel⟩, List.mem_of_getElem? (i := 60) (by decide +kernel), List.mem_of_getElem? (i := 296) (by decide +kernel), List.mem_of_getElem? (i := 297) (by decide +kernel)⟩
theorem lw_p1 : lw_okq (⟨"FelledByNames$Text", "readPart", "()V"⟩, 11) := ⟨⟨by decide +kernel, by decide +kernel⟩, List.mem_of_getElem? (i := 60) (by decide +kernel), List.mem_of_getElem? (i := 300) (by decide +kernel), List.mem_of_getElem? (i := 301) (by decide +kernel)⟩
theorem lw_p2 : lw_okq (⟨"FelledByNames$Text", "readNumber", "()V"⟩, 11) := ⟨⟨by decide +kernel, by decide +kernel⟩, List.mem_of_getElem? (i := 60) (by decide +kernel), List.mem_of_getElem? (i := 319) (by decide +kernel), List.mem_of_getElem? (i := 320) (by decide +kernel)⟩
theorem lw_p3 : lw_okq (⟨"FelledByNames$Text", "readOpen", "(I)V"⟩, 11) := ⟨⟨by decide +kernel, by decide +kernel⟩, List.mem_of_getElem? (i := 60) (by decide +kernel), List.mem_of_getElem? (i := 380) (by decide +kernel), List.mem_of_getElem? (i := 381) (by decide +kernel)⟩
theorem lw_p4 : lw_okq (⟨"FelledByNames$Text", "taken", "(Ljava/lang/String;)I"⟩, 11) := ⟨⟨by decide +kernel, by decide +kernel⟩, List.mem_of_getElem? (i := 60) (by decide +kernel), List.mem_of_getElem? (i := 385) (by decide +kernel), List.mem_of_getElem? (i := 386) (by decide +kernel)⟩
theorem lw_p5 : lw_okq (⟨"FelledByNames$Text", "forget", "()V"⟩, 11) := ⟨⟨by decide +kernel, by decide +kernel⟩, List.mem_of_getElem? (i := 60) (by decide +kernel), List.mem_of_getElem? (i := 411) (by decide +kernel), List.mem_of_getElem? (i := 412) (by decide +kernel)⟩
theorem lw_p6 : lw_okq (⟨"FelledByNames", "error", "(I)I"⟩, 15) := ⟨⟨by decide +kernel, by decide +kernel⟩, List.mem_of_getElem? (i := 24) (by decide +kernel), List.mem_of_getElem? (i := 487) (by decide +kernel), List.mem_of_getElem? (i := 488) (by decide +kernel)⟩
theorem lw_p7 : lw_okq (⟨"FelledByNames", "isTree", "(I)Z"⟩, 15) := ⟨⟨by decide +kernel, by decide +kernel⟩, List.mem_of_getElem? (i := 24) (by decide +kernel), List.mem_of_getElem? (i := 615) (by decide +kernel), List.mem_of_getElem? (i := 616) (by decide +kernel)⟩
theorem lw_p8 : lw_okq (⟨"FelledByNames$World", "cool", "()V"⟩, 14) := ⟨⟨by decide +kernel, by decide +kernel⟩, List.mem_of_getElem? (i := 106) (by decide +kernel), List.mem_of_getElem? (i := 723) (by decide +kernel), List.mem_of_getElem? (i := 724) (by decide +kernel)⟩
theorem lw_p9 : lw_okq (⟨"FelledByNames$World", "isOver", "(LFelledByNames$Tree;)Z"⟩, 14) := ⟨⟨by decide +kernel, by decide +kernel⟩, List.mem_of_getElem? (i := 106) (by decide +kernel), List.mem_of_getElem? (i := 752) (by decide +kernel), List.mem_of_getElem? (i := 753) (by decide +kernel)⟩
theorem lw_p10 : lw_okq (⟨"FelledByNames$World", "fall", "(LFelledByNames$Tree;I)V"⟩, 14) := ⟨⟨by decide +kernel, by decide +kernel⟩, List.mem_of_getElem? (i := 106) (by decide +kernel), List.mem_of_getElem? (i := 758) (by decide +kernel), List.mem_of_getElem? (i := 759) (by decide +kernel)⟩
theorem lw_p11 : lw_okq (⟨"FelledByNames", "fallsByTalk", "(IIII)Z"⟩, 15) := ⟨⟨by decide +kernel, by decide +kernel⟩, List.mem_of_getElem? (i := 24) (by decide +kernel), List.mem_of_getElem? (i := 817) (by decide +kernel), List.mem_of_getElem? (i := 818) (by decide +kernel)⟩
theorem lw_p12 : lw_okq (⟨"FelledByNames", "standsByTalk", "(LFelledByNames$Sheet;II)Z"⟩, 15) := ⟨⟨by decide +kernel, by decide +kernel⟩, List.mem_of_getElem? (i := 24) (by decide +kernel), List.mem_of_getElem? (i := 850) (by decide +kernel), List.mem_of_getElem? (i := 851) (by decide +kernel)⟩
theorem lw_p13 : lw_okq (⟨"FelledByNamesModel", "finds", "(I)I"⟩, 26) := ⟨⟨by decide +kernel, by decide +kernel⟩, List.mem_of_getElem? (i := 1054) (by decide +kernel), List.mem_of_getElem? (i := 1147) (by decide +kernel), List.mem_of_getElem? (i := 1148) (by decide +kernel)⟩
theorem lw_p14 : lw_okq (⟨"FelledByNamesModel", "reads", "(III)V"⟩, 26) := ⟨⟨by decide +kernel, by decide +kernel⟩, List.mem_of_getElem? (i := 1054) (by decide +kernel), List.mem_of_getElem? (i := 1157) (by decide +kernel), List.mem_of_getElem? (i := 1158) (by decide +kernel)⟩
theorem lw_p15 : lw_okq (⟨"FelledByNamesModel", "either", "()V"⟩, 26) := ⟨⟨by decide +kernel, by decide +kernel⟩, List.mem_of_getElem? (i := 1054) (by decide +kernel), List.mem_of_getElem? (i := 1161) (by decide +kernel), List.mem_of_getElem? (i := 1162) (by decide +kernel)⟩
def lw_privs_1 : List (MethodName × Nat) := [(⟨"FelledByNames$Text", "readLevel", "(I)V"⟩, 11), (⟨"FelledByNames$Text", "readPart", "()V"⟩, 11), (⟨"FelledByNames$Text", "readNumber", "()V"⟩, 11), (⟨"FelledByNames$Text", "readOpen", "(I)V"⟩, 11), (⟨"FelledByNames$Text", "taken", "(Ljava/lang/String;)I"⟩, 11), (⟨"FelledByNames$Text", "forget", "()V"⟩, 11), (⟨"FelledByNames", "error", "(I)I"⟩, 15), (⟨"FelledByNames", "isTree", "(I)Z"⟩, 15), (⟨"FelledByNames$World", "cool", "()V"⟩, 14), (⟨"FelledByNames$World", "isOver", "(LFelledByNames$Tree;)Z"⟩, 14), (⟨"FelledByNames$World", "fall", "(LFelledByNames$Tree;I)V"⟩, 14), (⟨"FelledByNames", "fallsByTalk", "(IIII)Z"⟩, 15), (⟨"FelledByNames", "standsByTalk", "(LFelledByNames$Sheet;II)Z"⟩, 15), (⟨"FelledByNamesModel", "finds", "(I)I"⟩, 26), (⟨"FelledByNamesModel", "reads", "(III)V"⟩, 26), (⟨"FelledByNamesModel", "either", "()V"⟩, 26)]
theorem lw_r1 : ∀ q ∈ lw_privs_1, lw_okq q := List.forall_mem_cons.mpr ⟨lw_p0, List.forall_mem_cons.mpr ⟨lw_p1, List.forall_mem_cons.mpr ⟨lw_p2, List.forall_mem_cons.mpr ⟨lw_p3, List.forall_mem_cons.mpr ⟨lw_p4, List.forall_mem_cons.mpr ⟨lw_p5, List.forall_mem_cons.mpr ⟨lw_p6, List.forall_mem_cons.mpr ⟨lw_p7, List.forall_mem_cons.mpr ⟨lw_p8, List.forall_mem_cons.mpr ⟨lw_p9, List.forall_mem_cons.mpr ⟨lw_p10, List.forall_mem_cons.mpr ⟨lw_p11, List.forall_mem_cons.mpr ⟨lw_p12, List.forall_mem_cons.mpr ⟨lw_p13, List.forall_mem_cons.mpr ⟨lw_p14, List.forall_mem_cons.mpr ⟨lw_p15, fun _ h => absurd h List.not_mem_nil⟩⟩⟩⟩⟩⟩⟩⟩⟩⟩⟩⟩⟩⟩⟩⟩
theorem lw_p16 : lw_okq (⟨"FelledByNamesModel", "both", "()V"⟩, 26) := ⟨⟨by decide +kernel, by decide +kernel⟩, List.mem_of_getElem? (i := 1054) (by decide +kernel), List.mem_of_getElem? (i := 1165) (by decide +kernel), List.mem_of_getElem? (i := 1166) (by decide +kernel)⟩
theorem lw_p17 : lw_okq (⟨"FelledByNamesModel", "compared", "()V"⟩, 26) := ⟨⟨by decide +kernel, by decide +kernel⟩, List.mem_of_getElem? (i := 1054) (by decide +kernel), List.mem_of_getElem? (i := 1169) (by decide +kernel), List.mem_of_getElem? (i := 1170) (by decide +kernel)⟩
theorem lw_p18 : lw_okq (⟨"FelledByNamesModel", "sum", "()V"⟩, 26) := ⟨⟨by decide +kernel, by decide +kernel⟩, List.mem_of_getElem? (i := 1054) (by decide +kernel), List.mem_of_getElem? (i := 1173) (by decide +kernel), List.mem_of_getElem? (i := 1174) (by decide +kernel)⟩
theorem lw_p19 : lw_okq (⟨"FelledByNamesModel", "product", "()V"⟩, 26) := ⟨⟨by decide +kernel, by decide +kernel⟩, List.mem_of_getElem? (i := 1054) (by decide +kernel), List.mem_of_getElem? (i := 1177) (by decide +kernel), List.mem_of_getElem? (i := 1178) (by decide +kernel)⟩
theorem lw_p20 : lw_okq (⟨"FelledByNamesModel", "unit", "()V"⟩, 26) := ⟨⟨by decide +kernel, by decide +kernel⟩, List.mem_of_getElem? (i := 1054) (by decide +kernel), List.mem_of_getElem? (i := 1181) (by decide +kernel), List.mem_of_getElem? (i := 1182) (by decide +kernel)⟩
theorem lw_p21 : lw_okq (⟨"FelledByNamesModel", "here", "()I"⟩, 26) := ⟨⟨by decide +kernel, by decide +kernel⟩, List.mem_of_getElem? (i := 1054) (by decide +kernel), List.mem_of_getElem? (i := 1185) (by decide +kernel), List.mem_of_getElem? (i := 1186) (by decide +kernel)⟩
theorem lw_p22 : lw_okq (⟨"FelledByNamesModel", "opens", "(I)V"⟩, 26) := ⟨⟨by decide +kernel, by decide +kernel⟩, List.mem_of_getElem? (i := 1054) (by decide +kernel), List.mem_of_getElem? (i := 1189) (by decide +kernel), List.mem_of_getElem? (i := 1190) (by decide +kernel)⟩
theorem lw_p23 : lw_okq (⟨"FelledByNamesModel", "wrong", "()V"⟩, 26) := ⟨⟨by decide +kernel, by decide +kernel⟩, List.mem_of_getElem? (i := 1054) (by decide +kernel), List.mem_of_getElem? (i := 1193) (by decide +kernel), List.mem_of_getElem? (i := 1194) (by decide +kernel)⟩
theorem lw_p24 : lw_okq (⟨"FelledByNamesModel", "lay", "(I)V"⟩, 26) := ⟨⟨by decide +kernel, by decide +kernel⟩, List.mem_of_getElem? (i := 1054) (by decide +kernel), List.mem_of_getElem? (i := 1197) (by decide +kernel), List.mem_of_getElem? (i := 1198) (by decide +kernel)⟩
theorem lw_p25 : lw_okq (⟨"FelledByNamesModel", "takes", "(I)Z"⟩, 26) := ⟨⟨by decide +kernel, by decide +kernel⟩, List.mem_of_getElem? (i := 1054) (by decide +kernel), List.mem_of_getElem? (i := 1201) (by decide +kernel), List.mem_of_getElem? (i := 1202) (by decide +kernel)⟩
theorem lw_p26 : lw_okq (⟨"FelledByNamesModel", "nameOf", "(I)I"⟩, 26) := ⟨⟨by decide +kernel, by decide +kernel⟩, List.mem_of_getElem? (i := 1054) (by decide +kernel), List.mem_of_getElem? (i := 1205) (by decide +kernel), List.mem_of_getElem? (i := 1206) (by decide +kernel)⟩
theorem lw_p27 : lw_okq (⟨"FelledByNamesModel", "textGives", "(IIII)I"⟩, 26) := ⟨⟨by decide +kernel, by decide +kernel⟩, List.mem_of_getElem? (i := 1054) (by decide +kernel), List.mem_of_getElem? (i := 1215) (by decide +kernel), List.mem_of_getElem? (i := 1216) (by decide +kernel)⟩
theorem lw_p28 : lw_okq (⟨"FelledByNamesModel", "worked", "(II)I"⟩, 26) := ⟨⟨by decide +kernel, by decide +kernel⟩, List.mem_of_getElem? (i := 1054) (by decide +kernel), List.mem_of_getElem? (i := 1219) (by decide +kernel), List.mem_of_getElem? (i := 1220) (by decide +kernel)⟩
theorem lw_p29 : lw_okq (⟨"FelledByNamesModel", "hold0", "(II)I"⟩, 26) := ⟨⟨by decide +kernel, by decide +kernel⟩, List.mem_of_getElem? (i := 1054) (by decide +kernel), List.mem_of_getElem? (i := 1241) (by decide +kernel), List.mem_of_getElem? (i := 1242) (by decide +kernel)⟩
theorem lw_p30 : lw_okq (⟨"FelledByNamesModel", "sets", "(III)V"⟩, 26) := ⟨⟨by decide +kernel, by decide +kernel⟩, List.mem_of_getElem? (i := 1054) (by decide +kernel), List.mem_of_getElem? (i := 1271) (by decide +kernel), List.mem_of_getElem? (i := 1272) (by decide +kernel)⟩
theorem lw_p31 : lw_okq (⟨"FelledByNamesModel", "isTree", "(I)Z"⟩, 26) := ⟨⟨by decide +kernel, by decide +kernel⟩, List.mem_of_getElem? (i := 1054) (by decide +kernel), List.mem_of_getElem? (i := 1279) (by decide +kernel), List.mem_of_getElem? (i := 1280) (by decide +kernel)⟩
def lw_privs_2 : List (MethodName × Nat) := [(⟨"FelledByNamesModel", "both", "()V"⟩, 26), (⟨"FelledByNamesModel", "compared", "()V"⟩, 26), (⟨"FelledByNamesModel", "sum", "()V"⟩, 26), (⟨"FelledByNamesModel", "product", "()V"⟩, 26), (⟨"FelledByNamesModel", "unit", "()V"⟩, 26), (⟨"FelledByNamesModel", "here", "()I"⟩, 26), (⟨"FelledByNamesModel", "opens", "(I)V"⟩, 26), (⟨"FelledByNamesModel", "wrong", "()V"⟩, 26), (⟨"FelledByNamesModel", "lay", "(I)V"⟩, 26), (⟨"FelledByNamesModel", "takes", "(I)Z"⟩, 26), (⟨"FelledByNamesModel", "nameOf", "(I)I"⟩, 26), (⟨"FelledByNamesModel", "textGives", "(IIII)I"⟩, 26), (⟨"FelledByNamesModel", "worked", "(II)I"⟩, 26), (⟨"FelledByNamesModel", "hold0", "(II)I"⟩, 26), (⟨"FelledByNamesModel", "sets", "(III)V"⟩, 26), (⟨"FelledByNamesModel", "isTree", "(I)Z"⟩, 26)]
theorem lw_r2 : ∀ q ∈ lw_privs_2, lw_okq q := List.forall_mem_cons.mpr ⟨lw_p16, List.forall_mem_cons.mpr ⟨lw_p17, List.forall_mem_cons.mpr ⟨lw_p18, List.forall_mem_cons.mpr ⟨lw_p19, List.forall_mem_cons.mpr ⟨lw_p20, List.forall_mem_cons.mpr ⟨lw_p21, List.forall_mem_cons.mpr ⟨lw_p22, List.forall_mem_cons.mpr ⟨lw_p23, List.forall_mem_cons.mpr ⟨lw_p24, List.forall_mem_cons.mpr ⟨lw_p25, List.forall_mem_cons.mpr ⟨lw_p26, List.forall_mem_cons.mpr ⟨lw_p27, List.forall_mem_cons.mpr ⟨lw_p28, List.forall_mem_cons.mpr ⟨lw_p29, List.forall_mem_cons.mpr ⟨lw_p30, List.forall_mem_cons.mpr ⟨lw_p31, fun _ h => absurd h List.not_mem_nil⟩⟩⟩⟩⟩⟩⟩⟩⟩⟩⟩⟩⟩⟩⟩⟩
theorem lw_p32 : lw_okq (⟨"FelledByNamesModel", "of", "(II)I"⟩, 26) := ⟨⟨by decide +kernel, by decide +kernel⟩, List.mem_of_getElem? (i := 1054) (by decide +kernel), List.mem_of_getElem? (i := 1284) (by decide +kernel), List.mem_of_getElem? (i := 1285) (by decide +kernel)⟩
theorem lw_p33 : lw_okq (⟨"FelledByNamesModel", "limit", "(I)I"⟩, 26) := ⟨⟨by decide +kernel, by decide +kernel⟩, List.mem_of_getElem? (i := 1054) (by decide +kernel), List.mem_of_getElem? (i := 1288) (by decide +kernel), List.mem_of_getElem? (i := 1289) (by decide +kernel)⟩
theorem lw_p34 : lw_okq (⟨"FelledByNamesModel", "reaches", "(I)I"⟩, 26) := ⟨⟨by decide +kernel, by decide +kernel⟩, List.mem_of_getElem? (i := 1054) (by decide +kernel), List.mem_of_getElem? (i := 1292) (by decide +kernel), List.mem_of_getElem? (i := 1293) (by decide +kernel)⟩
theorem lw_p35 : lw_okq (⟨"FelledByNamesModel", "daysGo", "(I)V"⟩, 26) := ⟨⟨by decide +kernel, by decide +kernel⟩, List.mem_of_getElem? (i := 1054) (by decide +kernel), List.mem_of_getElem? (i := 1317) (by decide +kernel), List.mem_of_getElem? (i := 1318) (by decide +kernel)⟩
theorem lw_p36 : lw_okq (⟨"FelledByNamesModel", "dayGoes", "()V"⟩, 26) := ⟨⟨by decide +kernel, by decide +kernel⟩, List.mem_of_getElem? (i := 1054) (by decide +kernel), List.mem_of_getElem? (i := 1321) (by decide +kernel), List.mem_of_getElem? (i := 1322) (by decide +kernel)⟩
theorem lw_p37 : lw_okq (⟨"FelledByNamesModel", "grows", "(I)I"⟩, 26) := ⟨⟨by decide +kernel, by decide +kernel⟩, List.mem_of_getElem? (i := 1054) (by decide +kernel), List.mem_of_getElem? (i := 1325) (by decide +kernel), List.mem_of_getElem? (i := 1326) (by decide +kernel)⟩
theorem lw_p38 : lw_okq (⟨"FelledByNamesModel", "falls", "(I)V"⟩, 26) := ⟨⟨by decide +kernel, by decide +kernel⟩, List.mem_of_getElem? (i := 1054) (by decide +kernel), List.mem_of_getElem? (i := 1329) (by decide +kernel), List.mem_of_getElem? (i := 1330) (by decide +kernel)⟩
theorem lw_p39 : lw_okq (⟨"FelledByNamesModel", "goesDown", "(I)V"⟩, 26) := ⟨⟨by decide +kernel, by decide +kernel⟩, List.mem_of_getElem? (i := 1054) (by decide +kernel), List.mem_of_getElem? (i := 1333) (by decide +kernel), List.mem_of_getElem? (i := 1334) (by decide +kernel)⟩
theorem lw_p40 : lw_okq (⟨"FelledByNamesModel", "drawn", "()I"⟩, 26) := ⟨⟨by decide +kernel, by decide +kernel⟩, List.mem_of_getElem? (i := 1054) (by decide +kernel), List.mem_of_getElem? (i := 1343) (by decide +kernel), List.mem_of_getElem? (i := 1344) (by decide +kernel)⟩
theorem lw_p41 : lw_okq (⟨"FelledByNamesModel", "keepAside", "()V"⟩, 26) := ⟨⟨by decide +kernel, by decide +kernel⟩, List.mem_of_getElem? (i := 1054) (by decide +kernel), List.mem_of_getElem? (i := 1352) (by decide +kernel), List.mem_of_getElem? (i := 1353) (by decide +kernel)⟩
theorem lw_p42 : lw_okq (⟨"FelledByNamesModel", "putBack", "()V"⟩, 26) := ⟨⟨by decide +kernel, by decide +kernel⟩, List.mem_of_getElem? (i := 1054) (by decide +kernel), List.mem_of_getElem? (i := 1356) (by decide +kernel), List.mem_of_getElem? (i := 1357) (by decide +kernel)⟩
theorem lw_p43 : lw_okq (⟨"FelledByNamesModel", "standBehind", "(I)I"⟩, 26) := ⟨⟨by decide +kernel, by decide +kernel⟩, List.mem_of_getElem? (i := 1054) (by decide +kernel), List.mem_of_getElem? (i := 1368) (by decide +kernel), List.mem_of_getElem? (i := 1369) (by decide +kernel)⟩
theorem lw_p44 : lw_okq (⟨"FelledByNamesModel", "standing", "()I"⟩, 26) := ⟨⟨by decide +kernel, by decide +kernel⟩, List.mem_of_getElem? (i := 1054) (by decide +kernel), List.mem_of_getElem? (i := 1372) (by decide +kernel), List.mem_of_getElem? (i := 1373) (by decide +kernel)⟩
theorem lw_p45 : lw_okq (⟨"FelledByNamesModel", "creaksBy", "(II)I"⟩, 26) := ⟨⟨by decide +kernel, by decide +kernel⟩, List.mem_of_getElem? (i := 1054) (by decide +kernel), List.mem_of_getElem? (i := 1431) (by decide +kernel), List.mem_of_getElem? (i := 1432) (by decide +kernel)⟩
theorem lw_p46 : lw_okq (⟨"FelledByNamesModel", "ran", "(I)V"⟩, 26) := ⟨⟨by decide +kernel, by decide +kernel⟩, List.mem_of_getElem? (i := 1054) (by decide +kernel), List.mem_of_getElem? (i := 1435) (by decide +kernel), List.mem_of_getElem? (i := 1436) (by decide +kernel)⟩
theorem lw_p47 : lw_okq (⟨"FelledByNamesModel", "standsBy", "(II)I"⟩, 26) := ⟨⟨by decide +kernel, by decide +kernel⟩, List.mem_of_getElem? (i := 1054) (by decide +kernel), List.mem_of_getElem? (i := 1439) (by decide +kernel), List.mem_of_getElem? (i := 1440) (by decide +kernel)⟩
def lw_privs_3 : List (MethodName × Nat) := [(⟨"FelledByNamesModel", "of", "(II)I"⟩, 26), (⟨"FelledByNamesModel", "limit", "(I)I"⟩, 26), (⟨"FelledByNamesModel", "reaches", "(I)I"⟩, 26), (⟨"FelledByNamesModel", "daysGo", "(I)V"⟩, 26), (⟨"FelledByNamesModel", "dayGoes", "()V"⟩, 26), (⟨"FelledByNamesModel", "grows", "(I)I"⟩, 26), (⟨"FelledByNamesModel", "falls", "(I)V"⟩, 26), (⟨"FelledByNamesModel", "goesDown", "(I)V"⟩, 26), (⟨"FelledByNamesModel", "drawn", "()I"⟩, 26), (⟨"FelledByNamesModel", "keepAside", "()V"⟩, 26), (⟨"FelledByNamesModel", "putBack", "()V"⟩, 26), (⟨"FelledByNamesModel", "standBehind", "(I)I"⟩, 26), (⟨"FelledByNamesModel", "standing", "()I"⟩, 26), (⟨"FelledByNamesModel", "creaksBy", "(II)I"⟩, 26), (⟨"FelledByNamesModel", "ran", "(I)V"⟩, 26), (⟨"FelledByNamesModel", "standsBy", "(II)I"⟩, 26)]
theorem lw_r3 : ∀ q ∈ lw_privs_3, lw_okq q := List.forall_mem_cons.mpr ⟨lw_p32, List.forall_mem_cons.mpr ⟨lw_p33, List.forall_mem_cons.mpr ⟨lw_p34, List.forall_mem_cons.mpr ⟨lw_p35, List.forall_mem_cons.mpr ⟨lw_p36, List.forall_mem_cons.mpr ⟨lw_p37, List.forall_mem_cons.mpr ⟨lw_p38, List.forall_mem_cons.mpr ⟨lw_p39, List.forall_mem_cons.mpr ⟨lw_p40, List.forall_mem_cons.mpr ⟨lw_p41, List.forall_mem_cons.mpr ⟨lw_p42, List.forall_mem_cons.mpr ⟨lw_p43, List.forall_mem_cons.mpr ⟨lw_p44, List.forall_mem_cons.mpr ⟨lw_p45, List.forall_mem_cons.mpr ⟨lw_p46, List.forall_mem_cons.mpr ⟨lw_p47, fun _ h => absurd h List.not_mem_nil⟩⟩⟩⟩⟩⟩⟩⟩⟩⟩⟩⟩⟩⟩⟩⟩
theorem lw_p48 : lw_okq (⟨"FelledByNamesModel", "leansBy", "(II)I"⟩, 26) := ⟨⟨by decide +kernel, by decide +kernel⟩, List.mem_of_getElem? (i := 1054) (by decide +kernel), List.mem_of_getElem? (i := 1443) (by decide +kernel), List.mem_of_getElem? (i := 1444) (by decide +kernel)⟩
theorem lw_p49 : lw_okq (⟨"FelledByNamesModel", "tellsBy", "(II)I"⟩, 26) := ⟨⟨by decide +kernel, by decide +kernel⟩, List.mem_of_getElem? (i := 1054) (by decide +kernel), List.mem_of_getElem? (i := 1447) (by decide +kernel), List.mem_of_getElem? (i := 1448) (by decide +kernel)⟩
def lw_privs_4 : List (MethodName × Nat) := [(⟨"FelledByNamesModel", "leansBy", "(II)I"⟩, 26), (⟨"FelledByNamesModel", "tellsBy", "(II)I"⟩, 26)]
theorem lw_r4 : ∀ q ∈ lw_privs_4, lw_okq q := List.forall_mem_cons.mpr ⟨lw_p48, List.forall_mem_cons.mpr ⟨lw_p49, fun _ h => absurd h List.not_mem_nil⟩⟩
def lw_privs : List (MethodName × Nat) := lw_privs_1 ++ (lw_privs_2 ++ (lw_privs_3 ++ (lw_privs_4)))
def lw_tbl : List Cond := k2_sels lw_privs ++ tables_1
theorem lw_privs_ok : ∀ q ∈ lw_privs, lw_okq q := by
  show ∀ q ∈ lw_privs_1 ++ (lw_privs_2 ++ (lw_privs_3 ++ (lw_privs_4))), lw_okq q
  exact List.forall_mem_append.mpr ⟨lw_r1, List.forall_mem_append.mpr ⟨lw_r2, List.forall_mem_append.mpr ⟨lw_r3, lw_r4⟩⟩⟩
-- ===== end of PART A; then your names; then what follows =====
end
section
/-- the words that keep: what every contract here takes along -/
def tb : List Cond := lw_tbl.filter goodWord
theorem tb_of {w : Cond} (h : w ∈ lw_tbl) (g : goodWord w = true) : w ∈ tb := List.mem_filter.mpr ⟨h, g⟩
theorem tm {w : Cond} (i : Nat) (h : tables_1[i]? = some w) (g : goodWord w = true) : w ∈ tb := tb_of (List.mem_append_right _ (List.mem_of_getElem? h)) g
theorem tp {w : Cond} (i : Nat) (h : (k2_sels lw_privs)[i]? = some w) (g : goodWord w = true) : w ∈ tb := tb_of (List.mem_append_left _ (List.mem_of_getElem? h)) g
theorem tb_good : ∀ w ∈ tb, goodWord w = true := fun w h => (List.mem_filter.mp h).2
theorem u_wsIn {C : String} {T : u_T} {N : Nat} (g : ∀ k, k < N → u_lay C T k ∈ tb) : ∀ w ∈ u_ws C T N, w ∈ tb := by
  intro w hw
  obtain ⟨k, hk, rfl⟩ := List.mem_map.mp hw
  exact g k (List.mem_range.mp hk)

def R_F : String := "FelledByNames"
def F_F : u_T := fun k => match k with
  | 0 => ("FelledByNames", "tape", "LFelledByNames$Row;", true)
  | 1 => ("FelledByNames", "cools", "LFelledByNames$Text;", true)
  | 2 => ("FelledByNames", "woods", "LFelledByNames$Text;", true)
  | 3 => ("FelledByNames", "now", "LFelledByNames$World;", true)
  | 4 => ("FelledByNames", "thought", "LFelledByNames$World;", true)
  | 5 => ("FelledByNames", "waiting", "LFelledByNames$Row;", true)
  | 6 => ("FelledByNames", "bodies", "LFelledByNames$Row;", true)
  | 7 => ("FelledByNames", "sheets", "[LFelledByNames$Sheet;", true)
  | 8 => ("FelledByNames", "errors", "[I", true)
  | 9 => ("FelledByNames", "keptWorld", "LFelledByNames$World;", true)
  | 10 => ("FelledByNames", "keptTape", "LFelledByNames$Row;", true)
  | 11 => ("FelledByNames", "keptWaiting", "LFelledByNames$Row;", true)
  | 12 => ("FelledByNames", "keptCools", "LFelledByNames$Row;", true)
  | 13 => ("FelledByNames", "keptWoods", "LFelledByNames$Row;", true)
  | _ => ("FelledByNames", "images", "I", false)
def t_F : Nat → FieldType := fun k => match k with
  | 0 => .object "FelledByNames$Row"
  | 1 => .object "FelledByNames$Text"
  | 2 => .object "FelledByNames$Text"
  | 3 => .object "FelledByNames$World"
  | 4 => .object "FelledByNames$World"
  | 5 => .object "FelledByNames$Row"
  | 6 => .object "FelledByNames$Row"
  | 7 => .array (.object "FelledByNames$Sheet")
  | 8 => .array .int
  | 9 => .object "FelledByNames$World"
  | 10 => .object "FelledByNames$Row"
  | 11 => .object "FelledByNames$Row"
  | 12 => .object "FelledByNames$Row"
  | 13 => .object "FelledByNames$Row"
  | _ => .int
theorem n_F : ∀ a, a < 15 → ∀ b, b < 15 → a ≠ b → (F_F a).2.1 ≠ (F_F b).2.1 := by decide +kernel
theorem t_F_ok : ∀ k, k < 15 → parseFieldDescriptor (F_F k).2.2.1 = some (t_F k) := by decide +kernel
theorem i_F : ∀ w ∈ u_ws R_F F_F 15, w ∈ tb := by
  refine u_wsIn (fun k hk => ?_)
  match k, hk with
  | 0, _ => exact tm 445 (by decide +kernel) rfl
  | 1, _ => exact tm 447 (by decide +kernel) rfl
  | 2, _ => exact tm 449 (by decide +kernel) rfl
  | 3, _ => exact tm 451 (by decide +kernel) rfl
  | 4, _ => exact tm 453 (by decide +kernel) rfl
  | 5, _ => exact tm 455 (by decide +kernel) rfl
  | 6, _ => exact tm 457 (by decide +kernel) rfl
  | 7, _ => exact tm 459 (by decide +kernel) rfl
  | 8, _ => exact tm 461 (by decide +kernel) rfl
  | 9, _ => exact tm 463 (by decide +kernel) rfl
  | 10, _ => exact tm 465 (by decide +kernel) rfl
  | 11, _ => exact tm 467 (by decide +kernel) rfl
  | 12, _ => exact tm 469 (by decide +kernel) rfl
  | 13, _ => exact tm 471 (by decide +kernel) rfl
  | 14, _ => exact tm 473 (by decide +kernel) rfl
  | k + 15, hk => exact absurd hk (by omega)
def R_Row : String := "FelledByNames$Row"
def F_Row : u_T := fun k => match k with
  | 0 => ("FelledByNames$Row", "at", "[I", true)
  | _ => ("FelledByNames$Row", "size", "I", false)
def t_Row : Nat → FieldType := fun k => match k with
  | 0 => .array .int
  | _ => .int
theorem n_Row : ∀ a, a < 2 → ∀ b, b < 2 → a ≠ b → (F_Row a).2.1 ≠ (F_Row b).2.1 := by decide +kernel
theorem t_Row_ok : ∀ k, k < 2 → parseFieldDescriptor (F_Row k).2.2.1 = some (t_Row k) := by decide +kernel
theorem i_Row : ∀ w ∈ u_ws R_Row F_Row 2, w ∈ tb := by
  refine u_wsIn (fun k hk => ?_)
  match k, hk with
  | 0, _ => exact tm 53 (by decide +kernel) rfl
  | 1, _ => exact tm 55 (by decide +kernel) rfl
  | k + 2, hk => exact absurd hk (by omega)
def R_Sheet : String := "FelledByNames$Sheet"
def F_Sheet : u_T := fun k => match k with
  | 0 => ("FelledByNames$Row", "at", "[I", true)
  | 1 => ("FelledByNames$Row", "size", "I", false)
  | _ => ("FelledByNames$Sheet", "bits", "I", false)
def t_Sheet : Nat → FieldType := fun k => match k with
  | 0 => .array .int
  | 1 => .int
  | _ => .int
theorem n_Sheet : ∀ a, a < 3 → ∀ b, b < 3 → a ≠ b → (F_Sheet a).2.1 ≠ (F_Sheet b).2.1 := by decide +kernel
theorem t_Sheet_ok : ∀ k, k < 3 → parseFieldDescriptor (F_Sheet k).2.2.1 = some (t_Sheet k) := by decide +kernel
theorem i_Sheet : ∀ w ∈ u_ws R_Sheet F_Sheet 3, w ∈ tb := by
  refine u_wsIn (fun k hk => ?_)
  match k, hk with
  | 0, _ => exact tm 427 (by decide +kernel) rfl
  | 1, _ => exact tm 428 (by decide +kernel) rfl
  | 2, _ => exact tm 425 (by decide +kernel) rfl
  | k + 3, hk => exact absurd hk (by omega)
def R_Text : String := "FelledByNames$Text"
def F_Text : u_T := fun k => match k with
  | 0 => ("FelledByNames$Text", "code", "LFelledByNames$Row;", true)
  | 1 => ("FelledByNames$Text", "tape", "LFelledByNames$Row;", true)
  | 2 => ("FelledByNames$Text", "names", "Ljava/lang/String;", true)
  | 3 => ("FelledByNames$Text", "low", "I", true)
  | 4 => ("FelledByNames$Text", "high", "I", true)
  | 5 => ("FelledByNames$Text", "draft", "LFelledByNames$Row;", true)
  | 6 => ("FelledByNames$Text", "stack", "[I", true)
  | 7 => ("FelledByNames$Text", "place", "I", false)
  | 8 => ("FelledByNames$Text", "open", "I", false)
  | 9 => ("FelledByNames$Text", "fault", "I", false)
  | _ => ("FelledByNames$Text", "known", "[B", false)
def t_Text : Nat → FieldType := fun k => match k with
  | 0 => .object "FelledByNames$Row"
  | 1 => .object "FelledByNames$Row"
  | 2 => .object "java/lang/String"
  | 3 => .int
  | 4 => .int
  | 5 => .object "FelledByNames$Row"
  | 6 => .array .int
  | 7 => .int
  | 8 => .int
  | 9 => .int
  | _ => .array .byte
theorem n_Text : ∀ a, a < 11 → ∀ b, b < 11 → a ≠ b → (F_Text a).2.1 ≠ (F_Text b).2.1 := by decide +kernel
theorem t_Text_ok : ∀ k, k < 11 → parseFieldDescriptor (F_Text k).2.2.1 = some (t_Text k) := by decide +kernel
theorem i_Text : ∀ w ∈ u_ws R_Text F_Text 11, w ∈ tb := by
  refine u_wsIn (fun k hk => ?_)
  match k, hk with
  | 0, _ => exact tm 80 (by decide +kernel) rfl
  | 1, _ => exact tm 82 (by decide +kernel) rfl
  | 2, _ => exact tm 84 (by decide +kernel) rfl
  | 3, _ => exact tm 86 (by decide +kernel) rfl
  | 4, _ => exact tm 88 (by decide +kernel) rfl
  | 5, _ => exact tm 90 (by decide +kernel) rfl
  | 6, _ => exact tm 92 (by decide +kernel) rfl
  | 7, _ => exact tm 94 (by decide +kernel) rfl
  | 8, _ => exact tm 96 (by decide +kernel) rfl
  | 9, _ => exact tm 98 (by decide +kernel) rfl
  | 10, _ => exact tm 100 (by decide +kernel) rfl
  | k + 11, hk => exact absurd hk (by omega)
def R_World : String := "FelledByNames$World"
def F_World : u_T := fun k => match k with
  | 0 => ("FelledByNames$World", "cools", "LFelledByNames$Text;", true)
  | 1 => ("FelledByNames$World", "woods", "LFelledByNames$Text;", true)
  | 2 => ("FelledByNames$World", "holds", "[I", true)
  | 3 => ("FelledByNames$World", "talk", "[I", true)
  | 4 => ("FelledByNames$World", "trees", "[LFelledByNames$Tree;", true)
  | 5 => ("FelledByNames$World", "treeCount", "I", false)
  | 6 => ("FelledByNames$World", "day", "I", false)
  | 7 => ("FelledByNames$World", "fence", "I", false)
  | 8 => ("FelledByNames$World", "harm", "I", false)
  | 9 => ("FelledByNames$World", "wood", "I", false)
  | 10 => ("FelledByNames$World", "z", "I", false)
  | 11 => ("FelledByNames$World", "fell", "LFelledByNames$Row;", true)
  | 12 => ("FelledByNames$World", "hits", "[I", true)
  | _ => ("FelledByNames$World", "pairs", "LFelledByNames$Row;", true)
def t_World : Nat → FieldType := fun k => match k with
  | 0 => .object "FelledByNames$Text"
  | 1 => .object "FelledByNames$Text"
  | 2 => .array .int
  | 3 => .array .int
  | 4 => .array (.object "FelledByNames$Tree")
  | 5 => .int
  | 6 => .int
  | 7 => .int
  | 8 => .int
  | 9 => .int
  | 10 => .int
  | 11 => .object "FelledByNames$Row"
  | 12 => .array .int
  | _ => .object "FelledByNames$Row"
theorem n_World : ∀ a, a < 14 → ∀ b, b < 14 → a ≠ b → (F_World a).2.1 ≠ (F_World b).2.1 := by decide +kernel
theorem t_World_ok : ∀ k, k < 14 → parseFieldDescriptor (F_World k).2.2.1 = some (t_World k) := by decide +kernel
theorem i_World : ∀ w ∈ u_ws R_World F_World 14, w ∈ tb := by
  refine u_wsIn (fun k hk => ?_)
  match k, hk with
  | 0, _ => exact tm 200 (by decide +kernel) rfl
  | 1, _ => exact tm 202 (by decide +kernel) rfl
  | 2, _ => exact tm 204 (by decide +kernel) rfl
  | 3, _ => exact tm 206 (by decide +kernel) rfl
  | 4, _ => exact tm 208 (by decide +kernel) rfl
  | 5, _ => exact tm 210 (by decide +kernel) rfl
  | 6, _ => exact tm 212 (by decide +kernel) rfl
  | 7, _ => exact tm 214 (by decide +kernel) rfl
  | 8, _ => exact tm 216 (by decide +kernel) rfl
  | 9, _ => exact tm 218 (by decide +kernel) rfl
  | 10, _ => exact tm 220 (by decide +kernel) rfl
  | 11, _ => exact tm 222 (by decide +kernel) rfl
  | 12, _ => exact tm 224 (by decide +kernel) rfl
  | 13, _ => exact tm 226 (by decide +kernel) rfl
  | k + 14, hk => exact absurd hk (by omega)
def R_Mo : String := "FelledByNamesModel"
def F_Mo : u_T := fun k => match k with
  | 0 => ("FelledByNamesModel", "d", "[I", true)
  | 1 => ("FelledByNamesModel", "kept", "[I", true)
  | 2 => ("FelledByNamesModel", "aside", "[I", true)
  | 3 => ("FelledByNamesModel", "images", "I", false)
  | 4 => ("FelledByNamesModel", "found", "[I", true)
  | 5 => ("FelledByNamesModel", "base", "I", false)
  | 6 => ("FelledByNamesModel", "at", "I", false)
  | 7 => ("FelledByNamesModel", "size", "I", false)
  | 8 => ("FelledByNamesModel", "fault", "I", false)
  | 9 => ("FelledByNamesModel", "opened", "I", false)
  | 10 => ("FelledByNamesModel", "isWood", "Z", false)
  | 11 => ("FelledByNamesModel", "names", "[I", true)
  | 12 => ("FelledByNamesModel", "code", "[I", true)
  | 13 => ("FelledByNamesModel", "coded", "I", false)
  | 14 => ("FelledByNamesModel", "pile", "[I", true)
  | 15 => ("FelledByNamesModel", "pile0", "[I", true)
  | 16 => ("FelledByNamesModel", "looks", "[I", true)
  | 17 => ("FelledByNamesModel", "fell", "[I", true)
  | 18 => ("FelledByNamesModel", "fellMany", "I", false)
  | 19 => ("FelledByNamesModel", "traced", "[I", true)
  | 20 => ("FelledByNamesModel", "traceMany", "I", false)
  | 21 => ("FelledByNamesModel", "who", "I", false)
  | 22 => ("FelledByNamesModel", "bitsOf", "[I", true)
  | 23 => ("FelledByNamesModel", "sizeOf", "[I", true)
  | 24 => ("FelledByNamesModel", "number", "[I", true)
  | _ => ("FelledByNamesModel", "lifted", "[I", true)
def t_Mo : Nat → FieldType := fun k => match k with
  | 0 => .array .int
  | 1 => .array .int
  | 2 => .array .int
  | 3 => .int
  | 4 => .array .int
  | 5 => .int
  | 6 => .int
  | 7 => .int
  | 8 => .int
  | 9 => .int
  | 10 => .boolean
  | 11 => .array .int
  | 12 => .array .int
  | 13 => .int
  | 14 => .array .int
  | 15 => .array .int
  | 16 => .array .int
  | 17 => .array .int
  | 18 => .int
  | 19 => .array .int
  | 20 => .int
  | 21 => .int
  | 22 => .array .int
  | 23 => .array .int
  | 24 => .array .int
  | _ => .array .int
theorem n_Mo : ∀ a, a < 26 → ∀ b, b < 26 → a ≠ b → (F_Mo a).2.1 ≠ (F_Mo b).2.1 := by decide +kernel
theorem t_Mo_ok : ∀ k, k < 26 → parseFieldDescriptor (F_Mo k).2.2.1 = some (t_Mo k) := by decide +kernel
theorem i_Mo : ∀ w ∈ u_ws R_Mo F_Mo 26, w ∈ tb := by
  refine u_wsIn (fun k hk => ?_)
  match k, hk with
  | 0, _ => exact tm 1085 (by decide +kernel) rfl
  | 1, _ => exact tm 1087 (by decide +kernel) rfl
  | 2, _ => exact tm 1089 (by decide +kernel) rfl
  | 3, _ => exact tm 1091 (by decide +kernel) rfl
  | 4, _ => exact tm 1093 (by decide +kernel) rfl
  | 5, _ => exact tm 1095 (by decide +kernel) rfl
  | 6, _ => exact tm 1097 (by decide +kernel) rfl
  | 7, _ => exact tm 1099 (by decide +kernel) rfl
  | 8, _ => exact tm 1101 (by decide +kernel) rfl
  | 9, _ => exact tm 1103 (by decide +kernel) rfl
  | 10, _ => exact tm 1105 (by decide +kernel) rfl
  | 11, _ => exact tm 1107 (by decide +kernel) rfl
  | 12, _ => exact tm 1109 (by decide +kernel) rfl
  | 13, _ => exact tm 1111 (by decide +kernel) rfl
  | 14, _ => exact tm 1113 (by decide +kernel) rfl
  | 15, _ => exact tm 1115 (by decide +kernel) rfl
  | 16, _ => exact tm 1117 (by decide +kernel) rfl
  | 17, _ => exact tm 1119 (by decide +kernel) rfl
  | 18, _ => exact tm 1121 (by decide +kernel) rfl
  | 19, _ => exact tm 1123 (by decide +kernel) rfl
  | 20, _ => exact tm 1125 (by decide +kernel) rfl
  | 21, _ => exact tm 1127 (by decide +kernel) rfl
  | 22, _ => exact tm 1129 (by decide +kernel) rfl
  | 23, _ => exact tm 1131 (by decide +kernel) rfl
  | 24, _ => exact tm 1133 (by decide +kernel) rfl
  | 25, _ => exact tm 1135 (by decide +kernel) rfl
  | k + 26, hk => exact absurd hk (by omega)
def R_Tree : String := "FelledByNames$Tree"
def F_Tree : u_T := fun k => match k with
  | 0 => ("FelledByNames$Tree", "kind", "I", true)
  | 1 => ("FelledByNames$Tree", "number", "I", true)
  | 2 => ("FelledByNames$Tree", "m", "I", false)
  | 3 => ("FelledByNames$Tree", "one", "I", false)
  | 4 => ("FelledByNames$Tree", "other", "I", false)
  | 5 => ("FelledByNames$Tree", "place", "I", false)
  | 6 => ("FelledByNames$Tree", "height", "I", false)
  | _ => ("FelledByNames$Tree", "standing", "Z", false)
def t_Tree : Nat → FieldType := fun k => match k with
  | 0 => .int
  | 1 => .int
  | 2 => .int
  | 3 => .int
  | 4 => .int
  | 5 => .int
  | 6 => .int
  | _ => .boolean
theorem n_Tree : ∀ a, a < 8 → ∀ b, b < 8 → a ≠ b → (F_Tree a).2.1 ≠ (F_Tree b).2.1 := by decide +kernel
theorem t_Tree_ok : ∀ k, k < 8 → parseFieldDescriptor (F_Tree k).2.2.1 = some (t_Tree k) := by decide +kernel
theorem i_Tree : ∀ w ∈ u_ws R_Tree F_Tree 8, w ∈ tb := by
  refine u_wsIn (fun k hk => ?_)
  match k, hk with
  | 0, _ => exact tm 152 (by decide +kernel) rfl
  | 1, _ => exact tm 154 (by decide +kernel) rfl
  | 2, _ => exact tm 156 (by decide +kernel) rfl
  | 3, _ => exact tm 158 (by decide +kernel) rfl
  | 4, _ => exact tm 160 (by decide +kernel) rfl
  | 5, _ => exact tm 162 (by decide +kernel) rfl
  | 6, _ => exact tm 164 (by decide +kernel) rfl
  | 7, _ => exact tm 166 (by decide +kernel) rfl
  | k + 8, hk => exact absurd hk (by omega)
def R_Beech : String := "FelledByNames$Beech"
def F_Beech : u_T := fun k => match k with
  | 0 => ("FelledByNames$Tree", "kind", "I", true)
  | 1 => ("FelledByNames$Tree", "number", "I", true)
  | 2 => ("FelledByNames$Tree", "m", "I", false)
  | 3 => ("FelledByNames$Tree", "one", "I", false)
  | 4 => ("FelledByNames$Tree", "other", "I", false)
  | 5 => ("FelledByNames$Tree", "place", "I", false)
  | 6 => ("FelledByNames$Tree", "height", "I", false)
  | _ => ("FelledByNames$Tree", "standing", "Z", false)
def t_Beech : Nat → FieldType := fun k => match k with
  | 0 => .int
  | 1 => .int
  | 2 => .int
  | 3 => .int
  | 4 => .int
  | 5 => .int
  | 6 => .int
  | _ => .boolean
theorem n_Beech : ∀ a, a < 8 → ∀ b, b < 8 → a ≠ b → (F_Beech a).2.1 ≠ (F_Beech b).2.1 := by decide +kernel
theorem t_Beech_ok : ∀ k, k < 8 → parseFieldDescriptor (F_Beech k).2.2.1 = some (t_Beech k) := by decide +kernel
theorem i_Beech : ∀ w ∈ u_ws R_Beech F_Beech 8, w ∈ tb := by
  refine u_wsIn (fun k hk => ?_)
  match k, hk with
  | 0, _ => exact tm 524 (by decide +kernel) rfl
  | 1, _ => exact tm 525 (by decide +kernel) rfl
  | 2, _ => exact tm 526 (by decide +kernel) rfl
  | 3, _ => exact tm 527 (by decide +kernel) rfl
  | 4, _ => exact tm 528 (by decide +kernel) rfl
  | 5, _ => exact tm 529 (by decide +kernel) rfl
  | 6, _ => exact tm 530 (by decide +kernel) rfl
  | 7, _ => exact tm 531 (by decide +kernel) rfl
  | k + 8, hk => exact absurd hk (by omega)
def R_Oak : String := "FelledByNames$Oak"
def F_Oak : u_T := fun k => match k with
  | 0 => ("FelledByNames$Tree", "kind", "I", true)
  | 1 => ("FelledByNames$Tree", "number", "I", true)
  | 2 => ("FelledByNames$Tree", "m", "I", false)
  | 3 => ("FelledByNames$Tree", "one", "I", false)
  | 4 => ("FelledByNames$Tree", "other", "I", false)
  | 5 => ("FelledByNames$Tree", "place", "I", false)
  | 6 => ("FelledByNames$Tree", "height", "I", false)
  | _ => ("FelledByNames$Tree", "standing", "Z", false)
def t_Oak : Nat → FieldType := fun k => match k with
  | 0 => .int
  | 1 => .int
  | 2 => .int
  | 3 => .int
  | 4 => .int
  | 5 => .int
  | 6 => .int
  | _ => .boolean
theorem n_Oak : ∀ a, a < 8 → ∀ b, b < 8 → a ≠ b → (F_Oak a).2.1 ≠ (F_Oak b).2.1 := by decide +kernel
theorem t_Oak_ok : ∀ k, k < 8 → parseFieldDescriptor (F_Oak k).2.2.1 = some (t_Oak k) := by decide +kernel
theorem i_Oak : ∀ w ∈ u_ws R_Oak F_Oak 8, w ∈ tb := by
  refine u_wsIn (fun k hk => ?_)
  match k, hk with
  | 0, _ => exact tm 539 (by decide +kernel) rfl
  | 1, _ => exact tm 540 (by decide +kernel) rfl
  | 2, _ => exact tm 541 (by decide +kernel) rfl
  | 3, _ => exact tm 542 (by decide +kernel) rfl
  | 4, _ => exact tm 543 (by decide +kernel) rfl
  | 5, _ => exact tm 544 (by decide +kernel) rfl
  | 6, _ => exact tm 545 (by decide +kernel) rfl
  | 7, _ => exact tm 546 (by decide +kernel) rfl
  | k + 8, hk => exact absurd hk (by omega)
def R_Sapling : String := "FelledByNames$Sapling"
def F_Sapling : u_T := fun k => match k with
  | 0 => ("FelledByNames$Tree", "kind", "I", true)
  | 1 => ("FelledByNames$Tree", "number", "I", true)
  | 2 => ("FelledByNames$Tree", "m", "I", false)
  | 3 => ("FelledByNames$Tree", "one", "I", false)
  | 4 => ("FelledByNames$Tree", "other", "I", false)
  | 5 => ("FelledByNames$Tree", "place", "I", false)
  | 6 => ("FelledByNames$Tree", "height", "I", false)
  | _ => ("FelledByNames$Tree", "standing", "Z", false)
def t_Sapling : Nat → FieldType := fun k => match k with
  | 0 => .int
  | 1 => .int
  | 2 => .int
  | 3 => .int
  | 4 => .int
  | 5 => .int
  | 6 => .int
  | _ => .boolean
theorem n_Sapling : ∀ a, a < 8 → ∀ b, b < 8 → a ≠ b → (F_Sapling a).2.1 ≠ (F_Sapling b).2.1 := by decide +kernel
theorem t_Sapling_ok : ∀ k, k < 8 → parseFieldDescriptor (F_Sapling k).2.2.1 = some (t_Sapling k) := by decide +kernel
theorem i_Sapling : ∀ w ∈ u_ws R_Sapling F_Sapling 8, w ∈ tb := by
  refine u_wsIn (fun k hk => ?_)
  match k, hk with
  | 0, _ => exact tm 554 (by decide +kernel) rfl
  | 1, _ => exact tm 555 (by decide +kernel) rfl
  | 2, _ => exact tm 556 (by decide +kernel) rfl
  | 3, _ => exact tm 557 (by decide +kernel) rfl
  | 4, _ => exact tm 558 (by decide +kernel) rfl
  | 5, _ => exact tm 559 (by decide +kernel) rfl
  | 6, _ => exact tm 560 (by decide +kernel) rfl
  | 7, _ => exact tm 561 (by decide +kernel) rfl
  | k + 8, hk => exact absurd hk (by omega)
def R_Wedged : String := "FelledByNames$Wedged"
def F_Wedged : u_T := fun k => match k with
  | 0 => ("FelledByNames$Tree", "kind", "I", true)
  | 1 => ("FelledByNames$Tree", "number", "I", true)
  | 2 => ("FelledByNames$Tree", "m", "I", false)
  | 3 => ("FelledByNames$Tree", "one", "I", false)
  | 4 => ("FelledByNames$Tree", "other", "I", false)
  | 5 => ("FelledByNames$Tree", "place", "I", false)
  | 6 => ("FelledByNames$Tree", "height", "I", false)
  | _ => ("FelledByNames$Tree", "standing", "Z", false)
def t_Wedged : Nat → FieldType := fun k => match k with
  | 0 => .int
  | 1 => .int
  | 2 => .int
  | 3 => .int
  | 4 => .int
  | 5 => .int
  | 6 => .int
  | _ => .boolean
theorem n_Wedged : ∀ a, a < 8 → ∀ b, b < 8 → a ≠ b → (F_Wedged a).2.1 ≠ (F_Wedged b).2.1 := by decide +kernel
theorem t_Wedged_ok : ∀ k, k < 8 → parseFieldDescriptor (F_Wedged k).2.2.1 = some (t_Wedged k) := by decide +kernel
theorem i_Wedged : ∀ w ∈ u_ws R_Wedged F_Wedged 8, w ∈ tb := by
  refine u_wsIn (fun k hk => ?_)
  match k, hk with
  | 0, _ => exact tm 569 (by decide +kernel) rfl
  | 1, _ => exact tm 570 (by decide +kernel) rfl
  | 2, _ => exact tm 571 (by decide +kernel) rfl
  | 3, _ => exact tm 572 (by decide +kernel) rfl
  | 4, _ => exact tm 573 (by decide +kernel) rfl
  | 5, _ => exact tm 574 (by decide +kernel) rfl
  | 6, _ => exact tm 575 (by decide +kernel) rfl
  | 7, _ => exact tm 576 (by decide +kernel) rfl
  | k + 8, hk => exact absurd hk (by omega)
def R_Hollow : String := "FelledByNames$Hollow"
def F_Hollow : u_T := fun k => match k with
  | 0 => ("FelledByNames$Tree", "kind", "I", true)
  | 1 => ("FelledByNames$Tree", "number", "I", true)
  | 2 => ("FelledByNames$Tree", "m", "I", false)
  | 3 => ("FelledByNames$Tree", "one", "I", false)
  | 4 => ("FelledByNames$Tree", "other", "I", false)
  | 5 => ("FelledByNames$Tree", "place", "I", false)
  | 6 => ("FelledByNames$Tree", "height", "I", false)
  | _ => ("FelledByNames$Tree", "standing", "Z", false)
def t_Hollow : Nat → FieldType := fun k => match k with
  | 0 => .int
  | 1 => .int
  | 2 => .int
  | 3 => .int
  | 4 => .int
  | 5 => .int
  | 6 => .int
  | _ => .boolean
theorem n_Hollow : ∀ a, a < 8 → ∀ b, b < 8 → a ≠ b → (F_Hollow a).2.1 ≠ (F_Hollow b).2.1 := by decide +kernel
theorem t_Hollow_ok : ∀ k, k < 8 → parseFieldDescriptor (F_Hollow k).2.2.1 = some (t_Hollow k) := by decide +kernel
theorem i_Hollow : ∀ w ∈ u_ws R_Hollow F_Hollow 8, w ∈ tb := by
  refine u_wsIn (fun k hk => ?_)
  match k, hk with
  | 0, _ => exact tm 584 (by decide +kernel) rfl
  | 1, _ => exact tm 585 (by decide +kernel) rfl
  | 2, _ => exact tm 586 (by decide +kernel) rfl
  | 3, _ => exact tm 587 (by decide +kernel) rfl
  | 4, _ => exact tm 588 (by decide +kernel) rfl
  | 5, _ => exact tm 589 (by decide +kernel) rfl
  | 6, _ => exact tm 590 (by decide +kernel) rfl
  | 7, _ => exact tm 591 (by decide +kernel) rfl
  | k + 8, hk => exact absurd hk (by omega)
def R_Hill : String := "FelledByNames$Hill"
def F_Hill : u_T := fun k => match k with
  | 0 => ("FelledByNames$Tree", "kind", "I", true)
  | 1 => ("FelledByNames$Tree", "number", "I", true)
  | 2 => ("FelledByNames$Tree", "m", "I", false)
  | 3 => ("FelledByNames$Tree", "one", "I", false)
  | 4 => ("FelledByNames$Tree", "other", "I", false)
  | 5 => ("FelledByNames$Tree", "place", "I", false)
  | 6 => ("FelledByNames$Tree", "height", "I", false)
  | _ => ("FelledByNames$Tree", "standing", "Z", false)
def t_Hill : Nat → FieldType := fun k => match k with
  | 0 => .int
  | 1 => .int
  | 2 => .int
  | 3 => .int
  | 4 => .int
  | 5 => .int
  | 6 => .int
  | _ => .boolean
theorem n_Hill : ∀ a, a < 8 → ∀ b, b < 8 → a ≠ b → (F_Hill a).2.1 ≠ (F_Hill b).2.1 := by decide +kernel
theorem t_Hill_ok : ∀ k, k < 8 → parseFieldDescriptor (F_Hill k).2.2.1 = some (t_Hill k) := by decide +kernel
theorem i_Hill : ∀ w ∈ u_ws R_Hill F_Hill 8, w ∈ tb := by
  refine u_wsIn (fun k hk => ?_)
  match k, hk with
  | 0, _ => exact tm 599 (by decide +kernel) rfl
  | 1, _ => exact tm 600 (by decide +kernel) rfl
  | 2, _ => exact tm 601 (by decide +kernel) rfl
  | 3, _ => exact tm 602 (by decide +kernel) rfl
  | 4, _ => exact tm 603 (by decide +kernel) rfl
  | 5, _ => exact tm 604 (by decide +kernel) rfl
  | 6, _ => exact tm 605 (by decide +kernel) rfl
  | 7, _ => exact tm 606 (by decide +kernel) rfl
  | k + 8, hk => exact absurd hk (by omega)
abbrev cls : List vw_C := [(R_F, F_F, 15), (R_Row, F_Row, 2), (R_Sheet, F_Sheet, 3), (R_Text, F_Text, 11), (R_World, F_World, 14), (R_Mo, F_Mo, 26), (R_Tree, F_Tree, 8), (R_Beech, F_Beech, 8), (R_Oak, F_Oak, 8), (R_Sapling, F_Sapling, 8), (R_Wedged, F_Wedged, 8), (R_Hollow, F_Hollow, 8), (R_Hill, F_Hill, 8)]
end
section
/-! ===== the abstract heap: cells by small numbers, B + a the machine's own address of cell a; constants by numbers of their own ===== -/
abbrev AE : Type := (Nat × vp_A) ⊕ (Nat × List Value)
abbrev HP : Type := Nat → Option AE
/-- where the new cells begin, the places of the constants, the classes of arrays, classes and slots, the script -/
abbrev Ev : Type := Nat × (Nat → Nat) × (Nat → ClassId) × va_G × Nat × (Nat → Int32)
def tV (E : Ev) (v : Value) : Value := match v with
  | .ref a => .ref (E.1 + a)
  | .float k => .ref (E.2.1 k.toNat)
  | .int x => .int x
  | .long x => .long x
  | .double x => .double x
  | .null => .null
  | .retAddr x => .retAddr x
abbrev AX : Type := (Nat → Int32) ⊕ (Nat → Int64) ⊕ (Nat → UInt32) ⊕ (Nat → UInt64) ⊕ (Nat → Option Nat)
def tX (B : Nat) (x : AX) : AX := match x with
  | .inl f => .inl f
  | .inr (.inl f) => .inr (.inl f)
  | .inr (.inr (.inl f)) => .inr (.inr (.inl f))
  | .inr (.inr (.inr (.inl f))) => .inr (.inr (.inr (.inl f)))
  | .inr (.inr (.inr (.inr f))) => .inr (.inr (.inr (.inr (fun i => (f i).map (fun a => B + a)))))
def tE (E : Ev) (e : AE) : va_E := match e with
  | .inl (k, n, x) => .inl (E.2.2.1 k, n, tX E.1 x)
  | .inr (ci, fs) => .inr (ci, fs.map (tV E))
def HR (E : Ev) (n : Nat) (h : HP) (H : Heap) : Prop := H.size = E.1 + n ∧ ∀ (a : Nat) (e : AE), h a = some e → a < n ∧ va_at E.2.2.2.1 cls (E.1 + a, tE E e) H
def up (h : HP) (a : Nat) (e : AE) : HP := fun x => if x = a then some e else h x
theorem up_s {h : HP} {a : Nat} {e : AE} : up h a e a = some e := if_pos rfl
theorem up_n {h : HP} {a b : Nat} {e : AE} (hn : b ≠ a) : up h a e b = h b := if_neg hn
theorem tV_cat (E : Ev) (v : Value) : (tV E v).category = v.category := by cases v <;> rfl
theorem HR.set {E : Ev} {n a : Nat} {h : HP} {e0 e : AE} {H H1 : Heap} (hH : HR E n h H) (ha : h a = some e0) (he : va_at E.2.2.2.1 cls (E.1 + a, tE E e) H1) (hz : H1.size = H.size) (ho : ∀ q, q ≠ E.1 + a → H1[q]? = H[q]?) : HR E n (up h a e) H1 := by
  refine ⟨by rw [hz]; exact hH.1, fun x e' hx => ?_⟩
  by_cases hxa : x = a
  · subst hxa
    rw [up_s] at hx
    cases hx
    exact ⟨(hH.2 _ _ ha).1, he⟩
  · rw [up_n hxa] at hx
    exact ⟨(hH.2 _ _ hx).1, (hH.2 _ _ hx).2.kept (ho _ (by show E.1 + x ≠ E.1 + a; omega))⟩
theorem HR.push {E : Ev} {n : Nat} {h : HP} {e : AE} {H H1 : Heap} (hH : HR E n h H) (he : va_at E.2.2.2.1 cls (E.1 + n, tE E e) H1) (hz : H1.size = E.1 + n + 1) (ho : ∀ q, q < E.1 + n → H1[q]? = H[q]?) : HR E (n + 1) (up h n e) H1 := by
  refine ⟨by rw [hz]; omega, fun x e' hx => ?_⟩
  by_cases hxa : x = n
  · subst hxa
    rw [up_s] at hx
    cases hx
    exact ⟨by omega, he⟩
  · rw [up_n hxa] at hx
    have h1 := (hH.2 _ _ hx).1
    exact ⟨by omega, (hH.2 _ _ hx).2.kept (ho _ (by show E.1 + x < E.1 + n; omega))⟩
/-- since the method began: what is older than all that is made here is as it was -/
def Sx (E : Ev) (s : State) (H : Heap) (locs : List Loc) : Prop := E.1 ≤ s.heap.size ∧ (∀ q, q < E.1 → H[q]? = s.heap[q]?) ∧ (∀ l ∈ locs, E.1 ≤ l.base) ∧ s.heap.size ≤ H.size
abbrev EA (E : Ev) : Nat → Prop := fun q => E.1 ≤ q
def tys (E : Ev) : List (ClassId × FieldType) := [(E.2.2.1 0, .int), (E.2.2.1 1, .byte), (E.2.2.1 2, .object "FelledByNames$Tree"), (E.2.2.1 3, .object "FelledByNames$Sheet")]
/-- the texts among the constants: who names them, where, what they are -/
def txs : List (String × Nat × String) := [("FelledByNames", 20, "htd"), ("FelledByNames", 29, "xmp"), ("FelledByNames", 81, "0-t"), ("FelledByNames", 87, "x"), ("FelledByNames$Text", 95, "|"), ("FelledByNames$Text", 97, "&"), ("FelledByNames$Text", 99, "<=>"), ("FelledByNames$Text", 101, "+-"), ("FelledByNames$Text", 103, "*/%"), ("FelledByNames$Text", 133, ")")]
def txl : List Nat := [3, 3, 3, 1, 1, 1, 3, 2, 3, 1]
def txb : List (List Int32) := [[104, 116, 100], [120, 109, 112], [48, 45, 116], [120], [124], [38], [60, 61, 62], [43, 45], [42, 47, 37], [41]]
/-- pairs of KINDS that aren't so related -/
def ncs : List (String × String) := ["FelledByNames$Tree", "FelledByNames$Beech", "FelledByNames$Oak", "FelledByNames$Sapling", "FelledByNames$Wedged", "FelledByNames$Hollow", "FelledByNames$Hill"].flatMap (fun a => (["FelledByNames$Beech", "FelledByNames$Oak", "FelledByNames$Sapling", "FelledByNames$Wedged", "FelledByNames$Hollow", "FelledByNames$Hill"].filter (fun b => !(a == b) && !([("FelledByNames$Wedged", "FelledByNames$Beech"), ("FelledByNames$Hollow", "FelledByNames$Oak"), ("FelledByNames$Hill", "FelledByNames$Sapling")].contains (a, b)))).map (fun b => (a, b)))
def Gx (E : Ev) (U : State) (H : Heap) : Prop := va_K E.2.2.2.1 cls (tys E) U ∧ (∀ q ∈ ncs, va_Nc q.1 q.2 U) ∧ vk_S 10 txl txb (fun i => E.2.1 i) (fun i => E.2.1 (100 + i)) (EA E) U H ∧ (∀ (i : Nat) (q : String × Nat × String), txs[i]? = some q → vk_R q.1 q.2.1 q.2.2 (E.2.1 i) U) ∧ va_Z "java/lang/String" "COMPACT_STRINGS" "Z" (.int 1) (EA E) U H ∧ va_T .int (E.2.1 200) E.2.2.2.2.1 (fun j => .int (E.2.2.2.2.2 j)) (EA E) U H ∧ va_AO "FelledByNames$Tree" U ∧ va_AO "FelledByNames$Sheet" U
theorem Gx.go {E : Ev} {s U : State} (h : Gx E s s.heap) (hW : s.WarmedH U.vm) (hq : ∀ q, q < E.1 → U.heap[q]? = s.heap[q]?) : Gx E U U.heap := by
  have hk : ∀ a : Nat, a < s.heap.size → ¬ EA E a → U.heap[a]? = s.heap[a]? := fun a _ h2 => hq a (Nat.not_le.mp h2)
  obtain ⟨h1, h2, h3, h4, h5, h6, h7, h8⟩ := h
  exact ⟨h1.moved hW.alike, fun q hq => (h2 q hq).moved hW.alike, (h3.kept hk).moved hW.alike, fun i q hi => (h4 i q hi).warm hW, (h5.kept hk).moved hW.alike, (h6.kept hk).moved hW.alike, h7.moved hW.alike, h8.moved hW.alike⟩
theorem Gx.call {E : Ev} {U : State} {g : JFrame} {mk : MethodId} {a : Array Value} (h : Gx E U U.heap) : Gx E (U.calling g mk a) (U.calling g mk a).heap := by
  obtain ⟨h1, h2, h3, h4, h5, h6, h7, h8⟩ := h
  have hr : U.vm.Alike (U.calling g mk a).vm := Vm.Alike.refl U.vm
  exact ⟨h1.moved hr, fun q hq => (h2 q hq).moved hr, h3.moved hr, fun i q hi => vk_R.same rfl (h4 i q hi), h5.moved hr, h6.moved hr, h7.moved hr, h8.moved hr⟩
/-! ===== a method: its name, its bytes, its locals, its answer ===== -/
abbrev MD : Type := MethodName × ByteArray × Nat × Option FieldType × (Ev → Prop)
def wsM (M : MD) : List Cond := Cond.code M.1 M.2.1 M.2.2.1 M.2.2.2.1 :: tb
def rmd (d mc ms : Nat) : Room := { frames := d, cells := mc, slots := ms, locals := 64 * d }
abbrev QT : Type := Option Value → Nat → HP → Prop
def Pst (E : Ev) (Q : QT) : Array Value → State → Outcome → State → Prop := fun _ st oc t => ∃ (r : Option Value) (n : Nat) (h : HP), oc = .returned (r.map (tV E)) ∧ Q r n h ∧ HR E n h t.heap ∧ (∀ q, q < E.1 → t.heap[q]? = st.heap[q]?) ∧ st.heap.size ≤ t.heap.size
def Pre (E : Ev) (n : Nat) (h : HP) (U : State) : Prop := HR E n h U.heap ∧ Gx E U U.heap ∧ E.1 ≤ U.heap.size
/-- A CONTRACT: from the heap h of n cells, with arguments vs: the method returns, with Q; depth d, at most mc cells of ms slots are made -/
def Ct (l : Launch) (M : MD) (d mc ms : Nat) (vs : List Value) (n : Nat) (h : HP) (Q : QT) : Prop :=
  ∀ E : Ev, Met l M.1 (wsM M) (rmd d mc ms) (va_Pc (vs.map (tV E)) (Pre E n h)) (Pst E Q) mc ms (EA E)
/-- what a walk through M's body takes along -/
def Cx (M : MD) (E : Ev) (p : Program) (s : State) (m : MethodId) (args : Array Value) (meth : Method) (c : Code) : Prop :=
  p.tables.exec = Jvm.exec ∧ c.code = M.2.1 ∧ c.maxLocals = M.2.2.1 ∧ meth.sig.returnType = M.2.2.2.1 ∧ s.vm.findClass M.1.cls = some m.cls ∧ (∀ w ∈ tb, w.before args s = true) ∧ meth.locks = false ∧ meth.name = M.1.name ∧ Gx E s s.heap
def tL (E : Ev) (ls : List (Nat × Value)) : List (Nat × Value) := ls.map (fun q => (q.1, tV E q.2))
/-- THE WALK: M stands at pc, with locals ls, stack st, heap h of n cells, c cells of s slots made: it comes to its end, with Q -/
def V (l : Launch) (M : MD) (d mc ms pc : Nat) (ls : List (Nat × Value)) (st : List Value) (n : Nat) (h : HP) (c s : Nat) (Q : QT) : Prop :=
  ∀ (E : Ev) (p : Program) (e : Env) (s0 : State) (m : MethodId) (args : Array Value) (below : List Frame) (meth : Method) (cd : Code), Cx M E p s0 m args meth cd → M.2.2.2.2 E →
    ∀ (H : Heap) (locs : List Loc) (lm : Array Slot), HR E n h H → Sx E s0 H locs → lv_has lm M.2.2.1 (tL E ls) →
      W p l e (rmd d mc ms) s0 m args below meth cd H locs c s (MQ below (Pst E Q) args s0 mc ms (EA E)) (F0 m pc lm (st.map (tV E)))
theorem lv_args_map (E : Ev) : ∀ (vs : List Value) (i : Nat), lv_args i (vs.map (tV E)) = tL E (lv_args i vs) := by
  intro vs
  induction vs with
  | nil => intro i; rfl
  | cons v vs ih =>
    intro i
    show (i, tV E v) :: lv_args (if (tV E v).category = 2 then i + 2 else i + 1) (vs.map (tV E)) = (i, tV E v) :: tL E (lv_args (if v.category = 2 then i + 2 else i + 1) vs)
    rw [tV_cat, ih]
theorem lg_sl_len (E : Ev) : ∀ vs : List Value, (lg_sl (vs.map (tV E))).length = (lg_sl vs).length := by
  intro vs
  induction vs with
  | nil => rfl
  | cons v vs ih =>
    have e1 : lg_sl ((v :: vs).map (tV E)) = (if (tV E v).category = 2 then [Slot.val (tV E v), .second] else [.val (tV E v)]) ++ lg_sl (vs.map (tV E)) := by simp [lg_sl]
    have e2 : lg_sl (v :: vs) = (if v.category = 2 then [Slot.val v, .second] else [.val v]) ++ lg_sl vs := by simp [lg_sl]
    rw [e1, e2, List.length_append, List.length_append, ih, tV_cat]
    by_cases hc : v.category = 2 <;> simp [hc]
/-- a contract out of a walk from the method's first instruction -/
theorem Ct.of {l : Launch} {M : MD} {d mc ms : Nat} {vs : List Value} {n : Nat} {h : HP} {Q : QT} (hE : ∀ E, M.2.2.2.2 E) (hp : plainName M.1.cls = true) (hv : (lg_sl vs).length ≤ M.2.2.1) (k : V l M d mc ms 0 (lv_args 0 vs) [] n h 0 0 Q) : Ct l M d mc ms vs n h Q := by
  intro E
  refine Met.ofW (cc := M.2.1) (maxL := M.2.2.1) (ret := M.2.2.2.1) hp rfl ?_
  intro p e s m args below meth c s₁ B hml hpre
  obtain ⟨rfl, hH, hG, hB⟩ := hpre
  have hts : ∀ w ∈ tb, w.before (vs.map (tV E)).toArray s = true := fun w hw => atoms_spec (ws := wsM M) B.pre w (List.mem_cons_of_mem _ hw)
  have hl := lv_entry (vs.map (tV E)) (n := M.2.2.1) (by rw [lg_sl_len]; exact hv)
  rw [lg_entry_eq]
  rw [lv_args_map] at hl
  exact k E p e s m _ below meth c ⟨B.exec, B.bytes, hml, B.returns, findClass_of_methodNamed B.named, hts, B.notSynchronized, (name_of_methodNamed B.named B.method).1, hG⟩ (hE E) s.heap [] _ hH ⟨hB, fun _ _ => rfl, fun _ h => (by cases h), Nat.le_refl _⟩ hl
end
section
section VR
variable {l : Launch} {M : MD} {d mc ms pc : Nat} {ls : List (Nat × Value)} {st : List Value} {n : Nat} {h : HP} {c s : Nat} {Q : QT}
theorem V.wd {c' s' : Nat} (h1 : c ≤ c') (h2 : s ≤ s') (k : V l M d mc ms pc ls st n h c' s' Q) : V l M d mc ms pc ls st n h c s Q :=
  fun E p e s0 m args below meth cd C hE H locs lm hH hS hl => W.widen h1 h2 (k E p e s0 m args below meth cd C hE H locs lm hH hS hl)
/-- fewer locals -/
def lkp : List (Nat × Value) → Nat → Option Value
  | [], _ => none
  | (j, v) :: l, i => bif Nat.beq j i then some v else lkp l i
theorem lkp_mem : ∀ {ls : List (Nat × Value)} {i : Nat} {v : Value}, lkp ls i = some v → (i, v) ∈ ls
  | [], _, _, h => by cases h
  | (j, w) :: l, i, v, h => by
    by_cases hj : Nat.beq j i = true
    · rw [lkp, hj] at h
      cases h
      rw [Nat.eq_of_beq_eq_true hj]
      exact List.mem_cons_self
    · rw [lkp, Bool.not_eq_true _ |>.mp hj] at h
      exact List.mem_cons_of_mem _ (lkp_mem h)
theorem tL_at {E : Ev} {lm : Array Slot} {N i : Nat} {v : Value} (hl : lv_has lm N (tL E ls)) (hv : lkp ls i = some v) : lm[i]? = some (.val (tV E v)) :=
  hl.2.2 (i, tV E v) (List.mem_map.mpr ⟨(i, v), lkp_mem hv, rfl⟩)
/-- other locals, all known -/
theorem V.lc {ls' : List (Nat × Value)} (hs : ls'.map (fun q => lkp ls q.1) = ls'.map (fun q => some q.2)) (k : V l M d mc ms pc ls' st n h c s Q) : V l M d mc ms pc ls st n h c s Q := by
  intro E p e s0 m args below meth cd C hE H locs lm hH hS hl
  refine k E p e s0 m args below meth cd C hE H locs lm hH hS ⟨hl.1, hl.2.1, fun q hq => ?_⟩
  obtain ⟨⟨i, v⟩, hm, rfl⟩ := List.mem_map.mp hq
  have h2 : lkp ls i = some v := by
    have := List.map_inj_left.mp hs (i, v) hm
    exact this
  exact tL_at hl h2
/-- less known of the heap -/
theorem V.hp {h' : HP} (hs : ∀ a e, h' a = some e → h a = some e) (k : V l M d mc ms pc ls st n h' c s Q) : V l M d mc ms pc ls st n h c s Q :=
  fun E p e s0 m args below meth cd C hE H locs lm hH hS hl => k E p e s0 m args below meth cd C hE H locs lm ⟨hH.1, fun a e ha => hH.2 a e (hs a e ha)⟩ hS hl
def sto (ls : List (Nat × Value)) (i : Nat) (v : Value) : List (Nat × Value) := (i, v) :: ls.filter (fun q => !(q.1 == i) && !(q.1 + 1 == i && q.2.category == 2))
def sto2 (ls : List (Nat × Value)) (i : Nat) (v : Value) : List (Nat × Value) := (i, v) :: ls.filter (fun q => !(q.1 == i) && (!(q.1 == i + 1) && !(q.1 + 1 == i && q.2.category == 2)))
theorem sto_t (E : Ev) (ls : List (Nat × Value)) (i : Nat) (v : Value) : (i, tV E v) :: (tL E ls).filter (fun q => !(q.1 == i) && !(q.1 + 1 == i && q.2.category == 2)) = tL E (sto ls i v) := by
  simp only [tL, sto, List.map_cons, List.filter_map, Function.comp_def, tV_cat]
theorem sto2_t (E : Ev) (ls : List (Nat × Value)) (i : Nat) (v : Value) : (i, tV E v) :: (tL E ls).filter (fun q => !(q.1 == i) && (!(q.1 == i + 1) && !(q.1 + 1 == i && q.2.category == 2))) = tL E (sto2 ls i v) := by
  simp only [tL, sto2, List.map_cons, List.filter_map, Function.comp_def, tV_cat]

theorem V.iconst {i : Int} (hd : decode M.2.1 pc = .ok (.iconst i, 1)) (k : V l M d mc ms (pc + 1) ls (.int (Int32.ofInt i) :: st) n h c s Q) : V l M d mc ms pc ls (st) n h c s Q :=
  fun E p e s0 m args below meth cd C hE H locs lm hH hS hl => lv_iconst C.1 C.2.1 hd rfl (k E p e s0 m args below meth cd C hE H locs lm hH hS hl)
theorem V.bipush {i : Int} (hd : decode M.2.1 pc = .ok (.bipush i, 2)) (k : V l M d mc ms (pc + 2) ls (.int (Int8.ofInt i).toInt32 :: st) n h c s Q) : V l M d mc ms pc ls (st) n h c s Q :=
  fun E p e s0 m args below meth cd C hE H locs lm hH hS hl => lv_bipush C.1 C.2.1 hd rfl (k E p e s0 m args below meth cd C hE H locs lm hH hS hl)
theorem V.sipush {i : Int} (hd : decode M.2.1 pc = .ok (.sipush i, 3)) (k : V l M d mc ms (pc + 3) ls (.int (Int16.ofInt i).toInt32 :: st) n h c s Q) : V l M d mc ms pc ls (st) n h c s Q :=
  fun E p e s0 m args below meth cd C hE H locs lm hH hS hl => lv_sipush C.1 C.2.1 hd rfl (k E p e s0 m args below meth cd C hE H locs lm hH hS hl)
theorem V.lconst {i : Fin 2} (hd : decode M.2.1 pc = .ok (.lconst i, 1)) (k : V l M d mc ms (pc + 1) ls (.long (Int64.ofNat i) :: st) n h c s Q) : V l M d mc ms pc ls (st) n h c s Q :=
  fun E p e s0 m args below meth cd C hE H locs lm hH hS hl => lv_lconst C.1 C.2.1 hd rfl (k E p e s0 m args below meth cd C hE H locs lm hH hS hl)
theorem V.null (hd : decode M.2.1 pc = .ok (.aconst_null, 1)) (k : V l M d mc ms (pc + 1) ls (.null :: st) n h c s Q) : V l M d mc ms pc ls (st) n h c s Q :=
  fun E p e s0 m args below meth cd C hE H locs lm hH hS hl => lv_null C.1 C.2.1 hd (k E p e s0 m args below meth cd C hE H locs lm hH hS hl)
theorem V.iconst_ {i : Int} (v : Int32) (hd : decode M.2.1 pc = .ok (.iconst i, 1)) (hv : Int32.ofInt i = v) (k : V l M d mc ms (pc + 1) ls (.int v :: st) n h c s Q) : V l M d mc ms pc ls st n h c s Q :=
  fun E p e s0 m args below meth cd C hE H locs lm hH hS hl => lv_iconst C.1 C.2.1 hd hv (k E p e s0 m args below meth cd C hE H locs lm hH hS hl)
theorem V.bipush_ {i : Int} (v : Int32) (hd : decode M.2.1 pc = .ok (.bipush i, 2)) (hv : (Int8.ofInt i).toInt32 = v) (k : V l M d mc ms (pc + 2) ls (.int v :: st) n h c s Q) : V l M d mc ms pc ls st n h c s Q :=
  fun E p e s0 m args below meth cd C hE H locs lm hH hS hl => lv_bipush C.1 C.2.1 hd hv (k E p e s0 m args below meth cd C hE H locs lm hH hS hl)
theorem V.sipush_ {i : Int} (v : Int32) (hd : decode M.2.1 pc = .ok (.sipush i, 3)) (hv : (Int16.ofInt i).toInt32 = v) (k : V l M d mc ms (pc + 3) ls (.int v :: st) n h c s Q) : V l M d mc ms pc ls st n h c s Q :=
  fun E p e s0 m args below meth cd C hE H locs lm hH hS hl => lv_sipush C.1 C.2.1 hd hv (k E p e s0 m args below meth cd C hE H locs lm hH hS hl)
theorem V.lconst_ {i : Fin 2} (v : Int64) (hd : decode M.2.1 pc = .ok (.lconst i, 1)) (hv : Int64.ofNat (i : Nat) = v) (k : V l M d mc ms (pc + 1) ls (.long v :: st) n h c s Q) : V l M d mc ms pc ls st n h c s Q :=
  fun E p e s0 m args below meth cd C hE H locs lm hH hS hl => lv_lconst C.1 C.2.1 hd hv (k E p e s0 m args below meth cd C hE H locs lm hH hS hl)
theorem V.ldc {i : Nat} {v : Int32} (hd : decode M.2.1 pc = .ok (.ldc i, 2)) (hw : Cond.constant M.1.cls i v ∈ tb) (k : V l M d mc ms (pc + 2) ls (.int v :: st) n h c s Q) : V l M d mc ms pc ls st n h c s Q :=
  fun E p e s0 m args below meth cd C hE H locs lm hH hS hl => lv_ldc C.1 C.2.1 C.2.2.2.2.1 (C.2.2.2.2.2.1 _ hw) hd (k E p e s0 m args below meth cd C hE H locs lm hH hS hl)
theorem V.ldcw {i : Nat} {v : Int32} (hd : decode M.2.1 pc = .ok (.ldc_w i, 3)) (hw : Cond.constant M.1.cls i v ∈ tb) (k : V l M d mc ms (pc + 3) ls (.int v :: st) n h c s Q) : V l M d mc ms pc ls st n h c s Q :=
  fun E p e s0 m args below meth cd C hE H locs lm hH hS hl => lv_ldcw C.1 C.2.1 C.2.2.2.2.1 (C.2.2.2.2.2.1 _ hw) hd (k E p e s0 m args below meth cd C hE H locs lm hH hS hl)
theorem V.ldc2 {i : Nat} {v : Int64} (hd : decode M.2.1 pc = .ok (.ldc2_w i, 3)) (hw : Cond.constantLong M.1.cls i v ∈ tb) (k : V l M d mc ms (pc + 3) ls (.long v :: st) n h c s Q) : V l M d mc ms pc ls st n h c s Q :=
  fun E p e s0 m args below meth cd C hE H locs lm hH hS hl => lv_ldc2 C.1 C.2.1 C.2.2.2.2.1 (C.2.2.2.2.2.1 _ hw) hd (k E p e s0 m args below meth cd C hE H locs lm hH hS hl)
theorem V.iload_n {i : Fin 4} {x : Int32} (hd : decode M.2.1 pc = .ok (.iload_n i, 1)) (hv : lkp ls i = some (.int x)) (k : V l M d mc ms (pc + 1) ls (.int x :: st) n h c s Q) : V l M d mc ms pc ls st n h c s Q :=
  fun E p e s0 m args below meth cd C hE H locs lm hH hS hl => lv_iload_n C.1 C.2.1 hd rfl (tL_at hl hv) (k E p e s0 m args below meth cd C hE H locs lm hH hS hl)
theorem V.iload {i : Nat} {x : Int32} (hd : decode M.2.1 pc = .ok (.iload i, 2)) (hv : lkp ls i = some (.int x)) (k : V l M d mc ms (pc + 2) ls (.int x :: st) n h c s Q) : V l M d mc ms pc ls st n h c s Q :=
  fun E p e s0 m args below meth cd C hE H locs lm hH hS hl => lv_iload C.1 C.2.1 hd (tL_at hl hv) (k E p e s0 m args below meth cd C hE H locs lm hH hS hl)
theorem V.lload_n {i : Fin 4} {x : Int64} (hd : decode M.2.1 pc = .ok (.lload_n i, 1)) (hv : lkp ls i = some (.long x)) (k : V l M d mc ms (pc + 1) ls (.long x :: st) n h c s Q) : V l M d mc ms pc ls st n h c s Q :=
  fun E p e s0 m args below meth cd C hE H locs lm hH hS hl => lv_lload_n C.1 C.2.1 hd rfl (tL_at hl hv) (k E p e s0 m args below meth cd C hE H locs lm hH hS hl)
theorem V.lload {i : Nat} {x : Int64} (hd : decode M.2.1 pc = .ok (.lload i, 2)) (hv : lkp ls i = some (.long x)) (k : V l M d mc ms (pc + 2) ls (.long x :: st) n h c s Q) : V l M d mc ms pc ls st n h c s Q :=
  fun E p e s0 m args below meth cd C hE H locs lm hH hS hl => lv_lload C.1 C.2.1 hd (tL_at hl hv) (k E p e s0 m args below meth cd C hE H locs lm hH hS hl)
theorem V.aload_n {i : Fin 4} {x : Nat} (hd : decode M.2.1 pc = .ok (.aload_n i, 1)) (hv : lkp ls i = some (.ref x)) (k : V l M d mc ms (pc + 1) ls (.ref x :: st) n h c s Q) : V l M d mc ms pc ls st n h c s Q :=
  fun E p e s0 m args below meth cd C hE H locs lm hH hS hl => lv_aload_n C.1 C.2.1 hd rfl (tL_at hl hv) (k E p e s0 m args below meth cd C hE H locs lm hH hS hl)
theorem V.aload {i : Nat} {x : Nat} (hd : decode M.2.1 pc = .ok (.aload i, 2)) (hv : lkp ls i = some (.ref x)) (k : V l M d mc ms (pc + 2) ls (.ref x :: st) n h c s Q) : V l M d mc ms pc ls st n h c s Q :=
  fun E p e s0 m args below meth cd C hE H locs lm hH hS hl => lv_aload C.1 C.2.1 hd (tL_at hl hv) (k E p e s0 m args below meth cd C hE H locs lm hH hS hl)
theorem V.aloadK_n {i : Fin 4} {x : UInt32} (hd : decode M.2.1 pc = .ok (.aload_n i, 1)) (hv : lkp ls i = some (.float x)) (k : V l M d mc ms (pc + 1) ls (.float x :: st) n h c s Q) : V l M d mc ms pc ls st n h c s Q :=
  fun E p e s0 m args below meth cd C hE H locs lm hH hS hl => lv_aload_n C.1 C.2.1 hd rfl (tL_at hl hv) (k E p e s0 m args below meth cd C hE H locs lm hH hS hl)
theorem V.aloadK {i : Nat} {x : UInt32} (hd : decode M.2.1 pc = .ok (.aload i, 2)) (hv : lkp ls i = some (.float x)) (k : V l M d mc ms (pc + 2) ls (.float x :: st) n h c s Q) : V l M d mc ms pc ls st n h c s Q :=
  fun E p e s0 m args below meth cd C hE H locs lm hH hS hl => lv_aload C.1 C.2.1 hd (tL_at hl hv) (k E p e s0 m args below meth cd C hE H locs lm hH hS hl)
theorem V.istore_n {i : Fin 4} {x : Int32} (hd : decode M.2.1 pc = .ok (.istore_n i, 1)) (hn : (i : Nat) < M.2.2.1) (k : V l M d mc ms (pc + 1) (sto ls i (.int x)) st n h c s Q) : V l M d mc ms pc ls (.int x :: st) n h c s Q :=
  fun E p e s0 m args below meth cd C hE H locs lm hH hS hl => lv_istore_n C.1 C.2.1 hd rfl hl hn rfl (fun lm hl => k E p e s0 m args below meth cd C hE H locs lm hH hS (by rw [← sto_t]; exact hl))
theorem V.istore {i : Nat} {x : Int32} (hd : decode M.2.1 pc = .ok (.istore i, 2)) (hn : (i : Nat) < M.2.2.1) (k : V l M d mc ms (pc + 2) (sto ls i (.int x)) st n h c s Q) : V l M d mc ms pc ls (.int x :: st) n h c s Q :=
  fun E p e s0 m args below meth cd C hE H locs lm hH hS hl => lv_istore C.1 C.2.1 hd hl hn rfl (fun lm hl => k E p e s0 m args below meth cd C hE H locs lm hH hS (by rw [← sto_t]; exact hl))
theorem V.lstore_n {i : Fin 4} {x : Int64} (hd : decode M.2.1 pc = .ok (.lstore_n i, 1)) (hn : (i : Nat) + 1 < M.2.2.1) (k : V l M d mc ms (pc + 1) (sto2 ls i (.long x)) st n h c s Q) : V l M d mc ms pc ls (.long x :: st) n h c s Q :=
  fun E p e s0 m args below meth cd C hE H locs lm hH hS hl => lv_lstore_n C.1 C.2.1 hd rfl hl hn rfl (fun lm hl => k E p e s0 m args below meth cd C hE H locs lm hH hS (by rw [← sto2_t]; exact hl))
theorem V.astore_n {i : Fin 4} {x : Nat} (hd : decode M.2.1 pc = .ok (.astore_n i, 1)) (hn : (i : Nat) < M.2.2.1) (k : V l M d mc ms (pc + 1) (sto ls i (.ref x)) st n h c s Q) : V l M d mc ms pc ls (.ref x :: st) n h c s Q :=
  fun E p e s0 m args below meth cd C hE H locs lm hH hS hl => lv_astore_n C.1 C.2.1 hd rfl hl hn rfl (fun lm hl => k E p e s0 m args below meth cd C hE H locs lm hH hS (by rw [← sto_t]; exact hl))
theorem V.astore {i : Nat} {x : Nat} (hd : decode M.2.1 pc = .ok (.astore i, 2)) (hn : (i : Nat) < M.2.2.1) (k : V l M d mc ms (pc + 2) (sto ls i (.ref x)) st n h c s Q) : V l M d mc ms pc ls (.ref x :: st) n h c s Q :=
  fun E p e s0 m args below meth cd C hE H locs lm hH hS hl => lv_astore C.1 C.2.1 hd hl hn rfl (fun lm hl => k E p e s0 m args below meth cd C hE H locs lm hH hS (by rw [← sto_t]; exact hl))
theorem V.iinc {i : Nat} {j : Int} {x v : Int32} (hd : decode M.2.1 pc = .ok (.iinc i j, 3)) (hv : lkp ls i = some (.int x)) (he : x + Int32.ofInt j = v) (hn : i < M.2.2.1) (k : V l M d mc ms (pc + 3) (sto ls i (.int v)) st n h c s Q) : V l M d mc ms pc ls st n h c s Q := by
  intro E p e s0 m args below meth cd C hE H locs lm hH hS hl
  obtain ⟨kk, hk⟩ := List.getElem?_of_mem (show (i, Value.int x) ∈ tL E ls from List.mem_map.mpr ⟨(i, .int x), lkp_mem hv, rfl⟩)
  exact lv_iinc C.1 C.2.1 hd hl hk he hn rfl (fun lm hl => k E p e s0 m args below meth cd C hE H locs lm hH hS (by rw [← sto_t]; exact hl))
theorem V.iadd {x y : Int32} (hd : decode M.2.1 pc = .ok (.iadd, 1)) (k : V l M d mc ms (pc + 1) ls (.int (x + y) :: st) n h c s Q) : V l M d mc ms pc ls (.int y :: .int x :: st) n h c s Q :=
  fun E p e s0 m args below meth cd C hE H locs lm hH hS hl => lv_iadd C.1 C.2.1 hd (k E p e s0 m args below meth cd C hE H locs lm hH hS hl)
theorem V.isub {x y : Int32} (hd : decode M.2.1 pc = .ok (.isub, 1)) (k : V l M d mc ms (pc + 1) ls (.int (x - y) :: st) n h c s Q) : V l M d mc ms pc ls (.int y :: .int x :: st) n h c s Q :=
  fun E p e s0 m args below meth cd C hE H locs lm hH hS hl => lv_isub C.1 C.2.1 hd (k E p e s0 m args below meth cd C hE H locs lm hH hS hl)
theorem V.imul {x y : Int32} (hd : decode M.2.1 pc = .ok (.imul, 1)) (k : V l M d mc ms (pc + 1) ls (.int (x * y) :: st) n h c s Q) : V l M d mc ms pc ls (.int y :: .int x :: st) n h c s Q :=
  fun E p e s0 m args below meth cd C hE H locs lm hH hS hl => lv_imul C.1 C.2.1 hd (k E p e s0 m args below meth cd C hE H locs lm hH hS hl)
theorem V.iand {x y : Int32} (hd : decode M.2.1 pc = .ok (.iand, 1)) (k : V l M d mc ms (pc + 1) ls (.int (x &&& y) :: st) n h c s Q) : V l M d mc ms pc ls (.int y :: .int x :: st) n h c s Q :=
  fun E p e s0 m args below meth cd C hE H locs lm hH hS hl => lv_iand C.1 C.2.1 hd (k E p e s0 m args below meth cd C hE H locs lm hH hS hl)
theorem V.ior {x y : Int32} (hd : decode M.2.1 pc = .ok (.ior, 1)) (k : V l M d mc ms (pc + 1) ls (.int (x ||| y) :: st) n h c s Q) : V l M d mc ms pc ls (.int y :: .int x :: st) n h c s Q :=
  fun E p e s0 m args below meth cd C hE H locs lm hH hS hl => lv_ior C.1 C.2.1 hd (k E p e s0 m args below meth cd C hE H locs lm hH hS hl)
theorem V.ixor {x y : Int32} (hd : decode M.2.1 pc = .ok (.ixor, 1)) (k : V l M d mc ms (pc + 1) ls (.int (x ^^^ y) :: st) n h c s Q) : V l M d mc ms pc ls (.int y :: .int x :: st) n h c s Q :=
  fun E p e s0 m args below meth cd C hE H locs lm hH hS hl => lv_ixor C.1 C.2.1 hd (k E p e s0 m args below meth cd C hE H locs lm hH hS hl)
theorem V.ishl {x y : Int32} (hd : decode M.2.1 pc = .ok (.ishl, 1)) (k : V l M d mc ms (pc + 1) ls (.int (x <<< (y &&& 31)) :: st) n h c s Q) : V l M d mc ms pc ls (.int y :: .int x :: st) n h c s Q :=
  fun E p e s0 m args below meth cd C hE H locs lm hH hS hl => lv_ishl C.1 C.2.1 hd (k E p e s0 m args below meth cd C hE H locs lm hH hS hl)
theorem V.ishr {x y : Int32} (hd : decode M.2.1 pc = .ok (.ishr, 1)) (k : V l M d mc ms (pc + 1) ls (.int (x >>> (y &&& 31)) :: st) n h c s Q) : V l M d mc ms pc ls (.int y :: .int x :: st) n h c s Q :=
  fun E p e s0 m args below meth cd C hE H locs lm hH hS hl => lv_ishr C.1 C.2.1 hd (k E p e s0 m args below meth cd C hE H locs lm hH hS hl)
theorem V.iushr {x y : Int32} (hd : decode M.2.1 pc = .ok (.iushr, 1)) (k : V l M d mc ms (pc + 1) ls (.int (x.toUInt32 >>> (y.toUInt32 &&& Int32.toUInt32 31)).toInt32 :: st) n h c s Q) : V l M d mc ms pc ls (.int y :: .int x :: st) n h c s Q :=
  fun E p e s0 m args below meth cd C hE H locs lm hH hS hl => lv_iushr C.1 C.2.1 hd rfl (k E p e s0 m args below meth cd C hE H locs lm hH hS hl)
theorem V.land {x y : Int64} (hd : decode M.2.1 pc = .ok (.land, 1)) (k : V l M d mc ms (pc + 1) ls (.long (x &&& y) :: st) n h c s Q) : V l M d mc ms pc ls (.long y :: .long x :: st) n h c s Q :=
  fun E p e s0 m args below meth cd C hE H locs lm hH hS hl => lv_land C.1 C.2.1 hd (k E p e s0 m args below meth cd C hE H locs lm hH hS hl)
theorem V.lor {x y : Int64} (hd : decode M.2.1 pc = .ok (.lor, 1)) (k : V l M d mc ms (pc + 1) ls (.long (x ||| y) :: st) n h c s Q) : V l M d mc ms pc ls (.long y :: .long x :: st) n h c s Q :=
  fun E p e s0 m args below meth cd C hE H locs lm hH hS hl => lv_lor C.1 C.2.1 hd (k E p e s0 m args below meth cd C hE H locs lm hH hS hl)
theorem V.ladd {x y : Int64} (hd : decode M.2.1 pc = .ok (.ladd, 1)) (k : V l M d mc ms (pc + 1) ls (.long (x + y) :: st) n h c s Q) : V l M d mc ms pc ls (.long y :: .long x :: st) n h c s Q :=
  fun E p e s0 m args below meth cd C hE H locs lm hH hS hl => lv_ladd C.1 C.2.1 hd (k E p e s0 m args below meth cd C hE H locs lm hH hS hl)
theorem V.lushr {x : Int64} {y : Int32} (hd : decode M.2.1 pc = .ok (.lushr, 1)) (k : V l M d mc ms (pc + 1) ls (.long (x.toUInt64 >>> (y.toInt64.toUInt64 &&& Int64.toUInt64 63)).toInt64 :: st) n h c s Q) : V l M d mc ms pc ls (.int y :: .long x :: st) n h c s Q :=
  fun E p e s0 m args below meth cd C hE H locs lm hH hS hl => lv_lushr C.1 C.2.1 hd rfl (k E p e s0 m args below meth cd C hE H locs lm hH hS hl)
theorem V.lshr {x : Int64} {y : Int32} (hd : decode M.2.1 pc = .ok (.lshr, 1)) (k : V l M d mc ms (pc + 1) ls (.long (x >>> (y.toInt64 &&& 63)) :: st) n h c s Q) : V l M d mc ms pc ls (.int y :: .long x :: st) n h c s Q :=
  fun E p e s0 m args below meth cd C hE H locs lm hH hS hl => lv_lshr C.1 C.2.1 hd rfl (k E p e s0 m args below meth cd C hE H locs lm hH hS hl)
theorem V.lshl {x : Int64} {y : Int32} (hd : decode M.2.1 pc = .ok (.lshl, 1)) (k : V l M d mc ms (pc + 1) ls (.long (x <<< (y.toInt64 &&& 63)) :: st) n h c s Q) : V l M d mc ms pc ls (.int y :: .long x :: st) n h c s Q :=
  fun E p e s0 m args below meth cd C hE H locs lm hH hS hl => lv_lshl C.1 C.2.1 hd rfl (k E p e s0 m args below meth cd C hE H locs lm hH hS hl)
theorem V.idiv {x y : Int32} (hd : decode M.2.1 pc = .ok (.idiv, 1)) (hne : ¬ y = 0) (k : V l M d mc ms (pc + 1) ls (.int (x / y) :: st) n h c s Q) : V l M d mc ms pc ls (.int y :: .int x :: st) n h c s Q :=
  fun E p e s0 m args below meth cd C hE H locs lm hH hS hl => lv_idiv C.1 C.2.1 hd hne (k E p e s0 m args below meth cd C hE H locs lm hH hS hl)
theorem V.irem {x y : Int32} (hd : decode M.2.1 pc = .ok (.irem, 1)) (hne : ¬ y = 0) (k : V l M d mc ms (pc + 1) ls (.int (x - x / y * y) :: st) n h c s Q) : V l M d mc ms pc ls (.int y :: .int x :: st) n h c s Q :=
  fun E p e s0 m args below meth cd C hE H locs lm hH hS hl => lv_irem C.1 C.2.1 hd hne (k E p e s0 m args below meth cd C hE H locs lm hH hS hl)
theorem V.ineg {x : Int32} (hd : decode M.2.1 pc = .ok (.ineg, 1)) (k : V l M d mc ms (pc + 1) ls (.int (-x) :: st) n h c s Q) : V l M d mc ms pc ls (.int x :: st) n h c s Q :=
  fun E p e s0 m args below meth cd C hE H locs lm hH hS hl => lv_ineg C.1 C.2.1 hd (k E p e s0 m args below meth cd C hE H locs lm hH hS hl)
theorem V.i2l {x : Int32} (hd : decode M.2.1 pc = .ok (.i2l, 1)) (k : V l M d mc ms (pc + 1) ls (.long x.toInt64 :: st) n h c s Q) : V l M d mc ms pc ls (.int x :: st) n h c s Q :=
  fun E p e s0 m args below meth cd C hE H locs lm hH hS hl => lv_i2l C.1 C.2.1 hd rfl (k E p e s0 m args below meth cd C hE H locs lm hH hS hl)
theorem V.l2i {x : Int64} (hd : decode M.2.1 pc = .ok (.l2i, 1)) (k : V l M d mc ms (pc + 1) ls (.int x.toInt32 :: st) n h c s Q) : V l M d mc ms pc ls (.long x :: st) n h c s Q :=
  fun E p e s0 m args below meth cd C hE H locs lm hH hS hl => lv_l2i C.1 C.2.1 hd rfl (k E p e s0 m args below meth cd C hE H locs lm hH hS hl)
theorem V.i2b {x : Int32} (hd : decode M.2.1 pc = .ok (.i2b, 1)) (k : V l M d mc ms (pc + 1) ls (.int x.toInt8.toInt32 :: st) n h c s Q) : V l M d mc ms pc ls (.int x :: st) n h c s Q :=
  fun E p e s0 m args below meth cd C hE H locs lm hH hS hl => lv_i2b C.1 C.2.1 hd rfl (k E p e s0 m args below meth cd C hE H locs lm hH hS hl)
theorem V.i2s {x : Int32} (hd : decode M.2.1 pc = .ok (.i2s, 1)) (k : V l M d mc ms (pc + 1) ls (.int x.toInt16.toInt32 :: st) n h c s Q) : V l M d mc ms pc ls (.int x :: st) n h c s Q :=
  fun E p e s0 m args below meth cd C hE H locs lm hH hS hl => lv_i2s C.1 C.2.1 hd rfl (k E p e s0 m args below meth cd C hE H locs lm hH hS hl)
theorem V.i2c {x : Int32} (hd : decode M.2.1 pc = .ok (.i2c, 1)) (k : V l M d mc ms (pc + 1) ls (.int (x.toUInt32 % 65536).toInt32 :: st) n h c s Q) : V l M d mc ms pc ls (.int x :: st) n h c s Q :=
  fun E p e s0 m args below meth cd C hE H locs lm hH hS hl => lv_i2c C.1 C.2.1 hd rfl (k E p e s0 m args below meth cd C hE H locs lm hH hS hl)
theorem V.dup {v : Value} (hv : v.category = 1) (hd : decode M.2.1 pc = .ok (.dup, 1)) (k : V l M d mc ms (pc + 1) ls (v :: v :: st) n h c s Q) : V l M d mc ms pc ls (v :: st) n h c s Q :=
  fun E p e s0 m args below meth cd C hE H locs lm hH hS hl => lv_dup C.1 C.2.1 hd (by rw [tV_cat]; exact hv) (k E p e s0 m args below meth cd C hE H locs lm hH hS hl)
theorem V.pop {v : Value} (hv : v.category = 1) (hd : decode M.2.1 pc = .ok (.pop, 1)) (k : V l M d mc ms (pc + 1) ls (st) n h c s Q) : V l M d mc ms pc ls (v :: st) n h c s Q :=
  fun E p e s0 m args below meth cd C hE H locs lm hH hS hl => lv_pop C.1 C.2.1 hd (by rw [tV_cat]; exact hv) (k E p e s0 m args below meth cd C hE H locs lm hH hS hl)
theorem V.dup_x1 {v w : Value} (hv : v.category = 1) (hw : w.category = 1) (hd : decode M.2.1 pc = .ok (.dup_x1, 1)) (k : V l M d mc ms (pc + 1) ls (v :: w :: v :: st) n h c s Q) : V l M d mc ms pc ls (v :: w :: st) n h c s Q :=
  fun E p e s0 m args below meth cd C hE H locs lm hH hS hl => lv_dup_x1 C.1 C.2.1 hd (by rw [tV_cat]; exact hv) (by rw [tV_cat]; exact hw) (k E p e s0 m args below meth cd C hE H locs lm hH hS hl)
theorem V.dup2 {v w : Value} (hv : v.category = 1) (hw : w.category = 1) (hd : decode M.2.1 pc = .ok (.dup2, 1)) (k : V l M d mc ms (pc + 1) ls (v :: w :: v :: w :: st) n h c s Q) : V l M d mc ms pc ls (v :: w :: st) n h c s Q :=
  fun E p e s0 m args below meth cd C hE H locs lm hH hS hl => lv_dup2_11 C.1 C.2.1 hd (by rw [tV_cat]; exact hv) (by rw [tV_cat]; exact hw) (k E p e s0 m args below meth cd C hE H locs lm hH hS hl)
theorem V.if_eq {x : Int32} {off : Int} {tgt : Nat} (hd : decode M.2.1 pc = .ok (.ifCond .eq off, 3)) (ht : (pc : Int) + off = (tgt : Int)) (kt : x = 0 → V l M d mc ms tgt ls st n h c s Q) (kf : ¬ x = 0 → V l M d mc ms (pc + 3) ls st n h c s Q) : V l M d mc ms pc ls (.int x :: st) n h c s Q :=
  fun E p e s0 m args below meth cd C hE H locs lm hH hS hl => lv_if_eq C.1 C.2.1 hd ht (fun q => (kt q E p e s0 m args below meth cd C hE H locs lm hH hS hl)) (fun q => (kf q E p e s0 m args below meth cd C hE H locs lm hH hS hl))
theorem V.icmp_eq {x y : Int32} {off : Int} {tgt : Nat} (hd : decode M.2.1 pc = .ok (.if_icmp .eq off, 3)) (ht : (pc : Int) + off = (tgt : Int)) (kt : x = y → V l M d mc ms tgt ls st n h c s Q) (kf : ¬ x = y → V l M d mc ms (pc + 3) ls st n h c s Q) : V l M d mc ms pc ls (.int y :: .int x :: st) n h c s Q :=
  fun E p e s0 m args below meth cd C hE H locs lm hH hS hl => lv_icmp_eq C.1 C.2.1 hd ht (fun q => (kt q E p e s0 m args below meth cd C hE H locs lm hH hS hl)) (fun q => (kf q E p e s0 m args below meth cd C hE H locs lm hH hS hl))
theorem V.if_ne {x : Int32} {off : Int} {tgt : Nat} (hd : decode M.2.1 pc = .ok (.ifCond .ne off, 3)) (ht : (pc : Int) + off = (tgt : Int)) (kt : ¬ x = 0 → V l M d mc ms tgt ls st n h c s Q) (kf : x = 0 → V l M d mc ms (pc + 3) ls st n h c s Q) : V l M d mc ms pc ls (.int x :: st) n h c s Q :=
  fun E p e s0 m args below meth cd C hE H locs lm hH hS hl => lv_if_ne C.1 C.2.1 hd ht (fun q => (kt q E p e s0 m args below meth cd C hE H locs lm hH hS hl)) (fun q => (kf q E p e s0 m args below meth cd C hE H locs lm hH hS hl))
theorem V.icmp_ne {x y : Int32} {off : Int} {tgt : Nat} (hd : decode M.2.1 pc = .ok (.if_icmp .ne off, 3)) (ht : (pc : Int) + off = (tgt : Int)) (kt : ¬ x = y → V l M d mc ms tgt ls st n h c s Q) (kf : x = y → V l M d mc ms (pc + 3) ls st n h c s Q) : V l M d mc ms pc ls (.int y :: .int x :: st) n h c s Q :=
  fun E p e s0 m args below meth cd C hE H locs lm hH hS hl => lv_icmp_ne C.1 C.2.1 hd ht (fun q => (kt q E p e s0 m args below meth cd C hE H locs lm hH hS hl)) (fun q => (kf q E p e s0 m args below meth cd C hE H locs lm hH hS hl))
theorem V.if_lt {x : Int32} {off : Int} {tgt : Nat} (hd : decode M.2.1 pc = .ok (.ifCond .lt off, 3)) (ht : (pc : Int) + off = (tgt : Int)) (kt : x < 0 → V l M d mc ms tgt ls st n h c s Q) (kf : ¬ x < 0 → V l M d mc ms (pc + 3) ls st n h c s Q) : V l M d mc ms pc ls (.int x :: st) n h c s Q :=
  fun E p e s0 m args below meth cd C hE H locs lm hH hS hl => lv_if_lt C.1 C.2.1 hd ht (fun q => (kt q E p e s0 m args below meth cd C hE H locs lm hH hS hl)) (fun q => (kf q E p e s0 m args below meth cd C hE H locs lm hH hS hl))
theorem V.icmp_lt {x y : Int32} {off : Int} {tgt : Nat} (hd : decode M.2.1 pc = .ok (.if_icmp .lt off, 3)) (ht : (pc : Int) + off = (tgt : Int)) (kt : x < y → V l M d mc ms tgt ls st n h c s Q) (kf : ¬ x < y → V l M d mc ms (pc + 3) ls st n h c s Q) : V l M d mc ms pc ls (.int y :: .int x :: st) n h c s Q :=
  fun E p e s0 m args below meth cd C hE H locs lm hH hS hl => lv_icmp_lt C.1 C.2.1 hd ht (fun q => (kt q E p e s0 m args below meth cd C hE H locs lm hH hS hl)) (fun q => (kf q E p e s0 m args below meth cd C hE H locs lm hH hS hl))
theorem V.if_ge {x : Int32} {off : Int} {tgt : Nat} (hd : decode M.2.1 pc = .ok (.ifCond .ge off, 3)) (ht : (pc : Int) + off = (tgt : Int)) (kt : 0 ≤ x → V l M d mc ms tgt ls st n h c s Q) (kf : ¬ 0 ≤ x → V l M d mc ms (pc + 3) ls st n h c s Q) : V l M d mc ms pc ls (.int x :: st) n h c s Q :=
  fun E p e s0 m args below meth cd C hE H locs lm hH hS hl => lv_if_ge C.1 C.2.1 hd ht (fun q => (kt q E p e s0 m args below meth cd C hE H locs lm hH hS hl)) (fun q => (kf q E p e s0 m args below meth cd C hE H locs lm hH hS hl))
theorem V.icmp_ge {x y : Int32} {off : Int} {tgt : Nat} (hd : decode M.2.1 pc = .ok (.if_icmp .ge off, 3)) (ht : (pc : Int) + off = (tgt : Int)) (kt : y ≤ x → V l M d mc ms tgt ls st n h c s Q) (kf : ¬ y ≤ x → V l M d mc ms (pc + 3) ls st n h c s Q) : V l M d mc ms pc ls (.int y :: .int x :: st) n h c s Q :=
  fun E p e s0 m args below meth cd C hE H locs lm hH hS hl => lv_icmp_ge C.1 C.2.1 hd ht (fun q => (kt q E p e s0 m args below meth cd C hE H locs lm hH hS hl)) (fun q => (kf q E p e s0 m args below meth cd C hE H locs lm hH hS hl))
theorem V.if_gt {x : Int32} {off : Int} {tgt : Nat} (hd : decode M.2.1 pc = .ok (.ifCond .gt off, 3)) (ht : (pc : Int) + off = (tgt : Int)) (kt : 0 < x → V l M d mc ms tgt ls st n h c s Q) (kf : ¬ 0 < x → V l M d mc ms (pc + 3) ls st n h c s Q) : V l M d mc ms pc ls (.int x :: st) n h c s Q :=
  fun E p e s0 m args below meth cd C hE H locs lm hH hS hl => lv_if_gt C.1 C.2.1 hd ht (fun q => (kt q E p e s0 m args below meth cd C hE H locs lm hH hS hl)) (fun q => (kf q E p e s0 m args below meth cd C hE H locs lm hH hS hl))
theorem V.icmp_gt {x y : Int32} {off : Int} {tgt : Nat} (hd : decode M.2.1 pc = .ok (.if_icmp .gt off, 3)) (ht : (pc : Int) + off = (tgt : Int)) (kt : y < x → V l M d mc ms tgt ls st n h c s Q) (kf : ¬ y < x → V l M d mc ms (pc + 3) ls st n h c s Q) : V l M d mc ms pc ls (.int y :: .int x :: st) n h c s Q :=
  fun E p e s0 m args below meth cd C hE H locs lm hH hS hl => lv_icmp_gt C.1 C.2.1 hd ht (fun q => (kt q E p e s0 m args below meth cd C hE H locs lm hH hS hl)) (fun q => (kf q E p e s0 m args below meth cd C hE H locs lm hH hS hl))
theorem V.if_le {x : Int32} {off : Int} {tgt : Nat} (hd : decode M.2.1 pc = .ok (.ifCond .le off, 3)) (ht : (pc : Int) + off = (tgt : Int)) (kt : x ≤ 0 → V l M d mc ms tgt ls st n h c s Q) (kf : ¬ x ≤ 0 → V l M d mc ms (pc + 3) ls st n h c s Q) : V l M d mc ms pc ls (.int x :: st) n h c s Q :=
  fun E p e s0 m args below meth cd C hE H locs lm hH hS hl => lv_if_le C.1 C.2.1 hd ht (fun q => (kt q E p e s0 m args below meth cd C hE H locs lm hH hS hl)) (fun q => (kf q E p e s0 m args below meth cd C hE H locs lm hH hS hl))
theorem V.icmp_le {x y : Int32} {off : Int} {tgt : Nat} (hd : decode M.2.1 pc = .ok (.if_icmp .le off, 3)) (ht : (pc : Int) + off = (tgt : Int)) (kt : x ≤ y → V l M d mc ms tgt ls st n h c s Q) (kf : ¬ x ≤ y → V l M d mc ms (pc + 3) ls st n h c s Q) : V l M d mc ms pc ls (.int y :: .int x :: st) n h c s Q :=
  fun E p e s0 m args below meth cd C hE H locs lm hH hS hl => lv_icmp_le C.1 C.2.1 hd ht (fun q => (kt q E p e s0 m args below meth cd C hE H locs lm hH hS hl)) (fun q => (kf q E p e s0 m args below meth cd C hE H locs lm hH hS hl))
theorem V.goto {off : Int} {tgt : Nat} (hd : decode M.2.1 pc = .ok (.goto off, 3)) (ht : (pc : Int) + off = (tgt : Int)) (k : V l M d mc ms tgt ls st n h c s Q) : V l M d mc ms pc ls st n h c s Q :=
  fun E p e s0 m args below meth cd C hE H locs lm hH hS hl => lv_goto C.1 C.2.1 hd ht (k E p e s0 m args below meth cd C hE H locs lm hH hS hl)
theorem V.ifnull {x : Nat} {off : Int} (hd : decode M.2.1 pc = .ok (.ifnull off, 3)) (k : V l M d mc ms (pc + 3) ls st n h c s Q) : V l M d mc ms pc ls (.ref x :: st) n h c s Q :=
  fun E p e s0 m args below meth cd C hE H locs lm hH hS hl => lv_ifnull C.1 C.2.1 hd (k E p e s0 m args below meth cd C hE H locs lm hH hS hl)
theorem V.ifnonnull {x : Nat} {off : Int} {tgt : Nat} (hd : decode M.2.1 pc = .ok (.ifnonnull off, 3)) (ht : (pc : Int) + off = (tgt : Int)) (k : V l M d mc ms tgt ls st n h c s Q) : V l M d mc ms pc ls (.ref x :: st) n h c s Q :=
  fun E p e s0 m args below meth cd C hE H locs lm hH hS hl => lv_ifnonnull C.1 C.2.1 hd ht (k E p e s0 m args below meth cd C hE H locs lm hH hS hl)
theorem V.ifnullN {off : Int} {tgt : Nat} (hd : decode M.2.1 pc = .ok (.ifnull off, 3)) (ht : (pc : Int) + off = (tgt : Int)) (k : V l M d mc ms tgt ls st n h c s Q) : V l M d mc ms pc ls (.null :: st) n h c s Q :=
  fun E p e s0 m args below meth cd C hE H locs lm hH hS hl => lv_ifnullN C.1 C.2.1 hd ht (k E p e s0 m args below meth cd C hE H locs lm hH hS hl)
theorem V.ifnonnullN {off : Int} (hd : decode M.2.1 pc = .ok (.ifnonnull off, 3)) (k : V l M d mc ms (pc + 3) ls st n h c s Q) : V l M d mc ms pc ls (.null :: st) n h c s Q :=
  fun E p e s0 m args below meth cd C hE H locs lm hH hS hl => lv_ifnonnullN C.1 C.2.1 hd (k E p e s0 m args below meth cd C hE H locs lm hH hS hl)
theorem V.lookup {dflt : Int} {ps : Array (Int × Int)} {len : Nat} {x : Int32} {off : Int} {tgt : Nat} (hd : decode M.2.1 pc = .ok (.lookupswitch dflt ps, len)) (hp : (ps.toList.zip (ps.toList.drop 1)).all (fun (a, next) => a.1 < next.1) = true) (ho : Op.lookupswitch.offset ps.toList dflt x.toInt = off) (ht : (pc : Int) + off = (tgt : Int)) (k : V l M d mc ms tgt ls st n h c s Q) : V l M d mc ms pc ls (.int x :: st) n h c s Q :=
  fun E p e s0 m args below meth cd C hE H locs lm hH hS hl => lv_lookup C.1 C.2.1 hd hp ho ht (k E p e s0 m args below meth cd C hE H locs lm hH hS hl)
theorem V.tabOut {dflt lo hi : Int} {offs : Array Int} {len : Nat} {x : Int32} {tgt : Nat} (hd : decode M.2.1 pc = .ok (.tableswitch dflt lo hi offs, len)) (hx : x.toInt < lo ∨ hi < x.toInt) (ht : (pc : Int) + dflt = (tgt : Int)) (k : V l M d mc ms tgt ls st n h c s Q) : V l M d mc ms pc ls (.int x :: st) n h c s Q :=
  fun E p e s0 m args below meth cd C hE H locs lm hH hS hl => lv_tableOut C.1 C.2.1 hd hx ht (k E p e s0 m args below meth cd C hE H locs lm hH hS hl)
theorem V.tabIn {dflt lo hi : Int} {offs : Array Int} {len : Nat} {x : Int32} {off : Int} {tgt : Nat} (hd : decode M.2.1 pc = .ok (.tableswitch dflt lo hi offs, len)) (h1 : ¬ x.toInt < lo) (h2 : ¬ hi < x.toInt) (ho : offs[(x.toInt - lo).toNat]? = some off) (ht : (pc : Int) + off = (tgt : Int)) (k : V l M d mc ms tgt ls st n h c s Q) : V l M d mc ms pc ls (.int x :: st) n h c s Q :=
  fun E p e s0 m args below meth cd C hE H locs lm hH hS hl => lv_tableIn C.1 C.2.1 hd h1 h2 ho ht (k E p e s0 m args below meth cd C hE H locs lm hH hS hl)
theorem V.iret {x : Int32} (hd : decode M.2.1 pc = .ok (.ireturn, 1)) (hr : M.2.2.2.1 = some .int) (hc : c ≤ mc) (hs : s ≤ ms) (q : Q (some (.int x)) n h) : V l M d mc ms pc ls [.int x] n h c s Q :=
  fun E p e s0 m args below meth cd C hE H locs lm hH hS hl => W.widen hc hs (W.iret (Qc := Pst E Q) C.1 C.2.1 (C.2.2.2.1.trans hr) (fun t ht _ => ⟨some (.int x), n, h, rfl, q, by rw [ht]; exact hH, fun a ha => by rw [ht]; exact hS.2.1 a ha, by rw [ht]; exact hS.2.2.2⟩) hS.2.2.1 hd C.2.2.2.2.2.2.1)
theorem V.zret {x : Int32} {ty : FieldType} (hd : decode M.2.1 pc = .ok (.ireturn, 1)) (hr : M.2.2.2.1 = some ty) (hx : narrow ty (.int x) = .int x) (hc : c ≤ mc) (hs : s ≤ ms) (q : Q (some (.int x)) n h) : V l M d mc ms pc ls [.int x] n h c s Q :=
  fun E p e s0 m args below meth cd C hE H locs lm hH hS hl => W.widen hc hs (W.zret (Qc := Pst E Q) C.1 C.2.1 (C.2.2.2.1.trans hr) hx (fun t ht _ => ⟨some (.int x), n, h, rfl, q, by rw [ht]; exact hH, fun a ha => by rw [ht]; exact hS.2.1 a ha, by rw [ht]; exact hS.2.2.2⟩) hS.2.2.1 hd C.2.2.2.2.2.2.1)
theorem V.vret (hd : decode M.2.1 pc = .ok (.return_, 1)) (hr : M.2.2.2.1 = none) (hc : c ≤ mc) (hs : s ≤ ms) (q : Q none n h) : V l M d mc ms pc ls [] n h c s Q :=
  fun E p e s0 m args below meth cd C hE H locs lm hH hS hl => W.widen hc hs (W.vret (Qc := Pst E Q) C.1 C.2.1 (C.2.2.2.1.trans hr) (fun t ht _ => ⟨none, n, h, rfl, q, by rw [ht]; exact hH, fun a ha => by rw [ht]; exact hS.2.1 a ha, by rw [ht]; exact hS.2.2.2⟩) hS.2.2.1 hd C.2.2.2.2.2.2.1)
theorem V.aret {v : Value} {rt : FieldType} (hd : decode M.2.1 pc = .ok (.areturn, 1)) (hr : M.2.2.2.1 = some rt) (hrt : (∃ n, rt = .object n) ∨ ∃ t, rt = .array t) (hv : v = .null ∨ (∃ a, v = .ref a) ∨ ∃ a, v = .float a) (hc : c ≤ mc) (hs : s ≤ ms) (q : Q (some v) n h) : V l M d mc ms pc ls [v] n h c s Q :=
  fun E p e s0 m args below meth cd C hE H locs lm hH hS hl => W.widen hc hs (W.aret (Qc := Pst E Q) C.1 C.2.1 (C.2.2.2.1.trans hr) hrt (by rcases hv with rfl | ⟨a, rfl⟩ | ⟨a, rfl⟩; exact Or.inl rfl; exact Or.inr ⟨_, rfl⟩; exact Or.inr ⟨_, rfl⟩) (fun t ht _ => ⟨some v, n, h, rfl, q, by rw [ht]; exact hH, fun a ha => by rw [ht]; exact hS.2.1 a ha, by rw [ht]; exact hS.2.2.2⟩) hS.2.2.1 hd C.2.2.2.2.2.2.1)
end VR
end
section
theorem hP1 {D : va_G} {cl : List vw_C} {q : Nat × va_E} {H : Heap} (hq : va_at D cl q H) : va_P D cl [q] H := by
  intro k x hx
  have hk : k < 1 := (List.getElem?_eq_some_iff.mp hx).1
  rw [show k = 0 by omega] at hx
  cases hx
  exact hq
theorem Sx.put {E : Ev} {s : State} {H H1 : Heap} {locs : List Loc} {a k : Nat} (hS : Sx E s H locs) (hz : H1.size = H.size) (ho : ∀ q, q ≠ E.1 + a → H1[q]? = H[q]?) : Sx E s H1 (locs ++ [⟨E.1 + a, k⟩]) :=
  ⟨hS.1, fun q hq => (ho q (by omega)).trans (hS.2.1 q hq), fun x hx => by
    rcases List.mem_append.mp hx with hx | hx
    · exact hS.2.2.1 x hx
    · rw [List.mem_singleton.mp hx]
      exact Nat.le_add_right _ _, by rw [hz]; exact hS.2.2.2⟩
theorem Sx.push {E : Ev} {s : State} {H H1 : Heap} {locs : List Loc} {n : Nat} (hS : Sx E s H locs) (hz : H.size ≤ H1.size) (ho : ∀ q, q < E.1 + n → H1[q]? = H[q]?) : Sx E s H1 locs :=
  ⟨hS.1, fun q hq => (ho q (by omega)).trans (hS.2.1 q hq), hS.2.2.1, Nat.le_trans hS.2.2.2 hz⟩
/-- the kit's frame, out of ours -/
theorem Sx.va {E : Ev} {s : State} {H : Heap} {locs : List Loc} (hS : Sx E s H locs) : va_S (EA E) s.heap H locs := ⟨hS.2.2.2, fun q _ h2 => hS.2.1 q (Nat.not_le.mp h2), hS.2.2.1⟩
/-- a field: the class of the object, its place, the word that links it here -/
def fok (own : String) (idx ci k : Nat) : Prop := ∃ (C : String) (T : u_T) (N : Nat) (ref : String), cls[ci]? = some (C, T, N) ∧ (∀ w ∈ u_ws C T N, w ∈ tb) ∧ k < N ∧ Cond.fieldLink own idx ref (T k).2.1 (T k).2.2.1 ∈ tb ∧ (ref = (T k).1 ∨ Cond.sameField ref (T k).1 (T k).2.1 (T k).2.2.1 ∈ tb) ∧ ∃ ty : Nat → FieldType, (∀ k, k < N → parseFieldDescriptor (T k).2.2.1 = some (ty k)) ∧ ∀ a, a < N → ∀ b, b < N → a ≠ b → (T a).2.1 ≠ (T b).2.1
theorem fok_same {args : Array Value} {s : State} {ref o nm ds : String} (hts : ∀ w ∈ tb, w.before args s = true) (hr : ref = o ∨ Cond.sameField ref o nm ds ∈ tb) (x : ClassId × Class × Nat × Field) (hx : s.fieldFound? o nm ds = some x) : s.fieldFound? ref nm ds = some x := by
  rcases hr with rfl | hr
  · exact hx
  · exact u_same (hts _ hr) x hx
/-- a field that may be written: its type -/
def fpk (ci k : Nat) (ty : FieldType) : Prop := ∃ (C : String) (T : u_T) (N : Nat), cls[ci]? = some (C, T, N) ∧ (T k).2.2.2 = false ∧ parseFieldDescriptor (T k).2.2.1 = some ty
def fpF (own : String) (ci k : Nat) (ty : FieldType) : Prop := ∃ (C : String) (T : u_T) (N : Nat), cls[ci]? = some (C, T, N) ∧ (T k).2.2.2 = true ∧ (T k).1 = own ∧ parseFieldDescriptor (T k).2.2.1 = some ty
section VH
variable {l : Launch} {M : MD} {d mc ms pc : Nat} {ls : List (Nat × Value)} {st : List Value} {n : Nat} {h : HP} {c s : Nat} {Q : QT}
theorem V.get {a ci k idx : Nat} {fs : List Value} {v : Value} (hd : decode M.2.1 pc = .ok (.getfield idx, 3)) (hf : fok M.1.cls idx ci k) (ha : h a = some (.inr (ci, fs))) (hv : fs[k]? = some v) (kk : V l M d mc ms (pc + 3) ls (v :: st) n h c s Q) : V l M d mc ms pc ls (.ref a :: st) n h c s Q := by
  intro E p e s0 m args below meth cd C hE H locs lm hH hS hl
  obtain ⟨Cn, T, N, ref, hc, hin, hk, hw, hsame, -⟩ := hf
  exact va_get (D := E.2.2.2.1) (cl := cls) (tys := tys E) (ws := [(E.1 + a, tE E (.inr (ci, fs)))]) (ref := ref) C.1 C.2.1 C.2.2.2.2.2.1 hin C.2.2.2.2.1 C.2.2.2.2.2.2.2.2.1 (hP1 (hH.2 _ _ ha).2) 0 rfl hc k hk (C.2.2.2.2.2.1 _ hw) (fok_same C.2.2.2.2.2.1 hsame) (v := tV E v) (by rw [List.getElem?_map, hv]; rfl) hd (kk E p e s0 m args below meth cd C hE H locs lm hH hS hl)
theorem V.put {a ci k idx : Nat} {fs : List Value} {v : Value} {ty : FieldType} (hd : decode M.2.1 pc = .ok (.putfield idx, 3)) (hf : fok M.1.cls idx ci k) (hp : fpk ci k ty) (hn : ∀ E, narrow ty (tV E v) = tV E v) (hfit : ∀ E, fits ty (tV E v) = true) (ha : h a = some (.inr (ci, fs))) (hl0 : k < fs.length) (kk : V l M d mc ms (pc + 3) ls st n (up h a (.inr (ci, fs.set k v))) c s Q) : V l M d mc ms pc ls (v :: .ref a :: st) n h c s Q := by
  intro E p e s0 m args below meth cd C hE H locs lm hH hS hl
  obtain ⟨Cn, T, N, ref, hc, hin, hk, hw, hsame, ty0, hty, hnm⟩ := hf
  obtain ⟨Cn', T', N', hc', hfin, hdesc⟩ := hp
  cases hc.symm.trans hc'
  have hK := C.2.2.2.2.2.2.2.2.1
  have hts := C.2.2.2.2.2.1
  have hap := va_apart (own := M.1.cls) hts hin ty0 hty hnm hK hc
  obtain ⟨hlt, r, h1, cell, q1, q2, q3, q4⟩ := hH.2 _ _ ha
  cases h1.symm.trans hc
  obtain ⟨hSl, hfc, kC, hkC, hkind⟩ := hK.1 ci _ hc
  obtain ⟨cf, kf, fi, f, hi, hsl⟩ := hSl k hk
  have hlay := hts _ (hin _ (u_in_lay hk))
  unfold u_lay at hlay
  rw [if_neg (by rw [hfin]; decide)] at hlay
  have hst := (u_facts hfc hkC (u_lays hts hin hk) hi).1
  have h6 := u_store hfc hkC hkind hlay hi hdesc (hn E) (hfit E)
  refine W.putK C.1 C.2.1 (f := f) ⟨C.2.2.2.2.1, hts _ hw, ⟨_, _, _, fok_same hts hsame _ hi⟩, hst⟩ (by rw [q2]; exact h6) q1 q3 (by rw [hsl]; exact k2_hasslot (q4 k hk)) rfl rfl hd fun H' e1 e2 e3 => ?_
  rw [hsl] at e1
  refine kk E p e s0 m args below meth cd C hE H' _ lm (hH.set ha ?_ e2 e3) (hS.put e2 e3) hl
  refine ⟨_, hc, t_OB.to (V := updV (vp_V (fs.map (tV E))) k (tV E v)) ⟨_, e1, q2, q3, t_set q4 hap hk _⟩ (fun j _ => ?_)⟩
  rw [vp_updV_set (by rw [List.length_map]; exact hl0)]
  show vp_V ((fs.map (tV E)).set k (tV E v)) j = vp_V ((fs.set k v).map (tV E)) j
  rw [List.map_set]
theorem V.putF {a ci k idx : Nat} {fs : List Value} {v : Value} {ty : FieldType} (hd : decode M.2.1 pc = .ok (.putfield idx, 3)) (hf : fok M.1.cls idx ci k) (hp : fpF M.1.cls ci k ty) (hM : M.1.name = "<init>") (hn : ∀ E, narrow ty (tV E v) = tV E v) (hfit : ∀ E, fits ty (tV E v) = true) (ha : h a = some (.inr (ci, fs))) (hl0 : k < fs.length) (kk : V l M d mc ms (pc + 3) ls st n (up h a (.inr (ci, fs.set k v))) c s Q) : V l M d mc ms pc ls (v :: .ref a :: st) n h c s Q := by
  intro E p e s0 m args below meth cd C hE H locs lm hH hS hl
  obtain ⟨Cn, T, N, ref, hc, hin, hk, hw, hsame, ty0, hty, hnm⟩ := hf
  obtain ⟨Cn', T', N', hc', hfin, hdecl, hdesc⟩ := hp
  cases hc.symm.trans hc'
  have hK := C.2.2.2.2.2.2.2.2.1
  have hts := C.2.2.2.2.2.1
  have hown := C.2.2.2.2.1
  have hap := va_apart (own := M.1.cls) hts hin ty0 hty hnm hK hc
  obtain ⟨hlt, r, h1, cell, q1, q2, q3, q4⟩ := hH.2 _ _ ha
  cases h1.symm.trans hc
  obtain ⟨hSl, hfc, kC, hkC, hkind⟩ := hK.1 ci _ hc
  obtain ⟨cf, kf, fi, f, hi, hsl⟩ := hSl k hk
  have hlay := hts _ (hin _ (u_in_lay hk))
  unfold u_lay at hlay
  rw [if_pos hfin] at hlay
  have hst := (u_facts hfc hkC (u_lays hts hin hk) hi).1
  have hcf : m.cls = cf := by
    obtain ⟨_, _, c', _, _, _, -, -, hf', -, -, -, hown2, -⟩ := Cond.laysFinal_spec hlay
    have e1 : c' = cf := by have := hi.symm.trans hf'; simp at this; exact this.1.symm
    rw [hdecl] at hown2
    rw [← e1]; exact Option.some.inj (hown.symm.trans hown2)
  have h6 := u_fits hfc hkC hkind (Or.inr hlay) hi hdesc (hn E) (hfit E)
  refine W.putFinK C.1 C.2.1 hown (hts _ hw) (fok_same hts hsame _ hi) hst hcf (C.2.2.2.2.2.2.2.1.trans hM) (by rw [q2]; exact h6) q1 q3 (by rw [hsl]; exact k2_hasslot (q4 k hk)) rfl rfl hd fun H' e1 e2 e3 => ?_
  rw [hsl] at e1
  refine kk E p e s0 m args below meth cd C hE H' _ lm (hH.set ha ?_ e2 e3) (hS.put e2 e3) hl
  refine ⟨_, hc, t_OB.to (V := updV (vp_V (fs.map (tV E))) k (tV E v)) ⟨_, e1, q2, q3, t_set q4 hap hk _⟩ (fun j _ => ?_)⟩
  rw [vp_updV_set (by rw [List.length_map]; exact hl0)]
  show vp_V ((fs.map (tV E)).set k (tV E v)) j = vp_V ((fs.set k v).map (tV E)) j
  rw [List.map_set]
theorem V.iald {a N : Nat} {f : Nat → Int32} {i : Int32} (hd : decode M.2.1 pc = .ok (.iaload, 1)) (ha : h a = some (.inl (0, N, .inl f))) (hin : vp_in i N) (kk : V l M d mc ms (pc + 1) ls (.int (f i.toNatClampNeg) :: st) n h c s Q) : V l M d mc ms pc ls (.int i :: .ref a :: st) n h c s Q :=
  fun E p e s0 m args below meth cd C hE H locs lm hH hS hl => va_iald (D := E.2.2.2.1) (cl := cls) (tys := tys E) C.1 C.2.1 C.2.2.2.2.2.2.2.2.1 (hP1 (hH.2 _ _ ha).2) 0 0 rfl rfl hin hd (kk E p e s0 m args below meth cd C hE H locs lm hH hS hl)
theorem V.bald {a N : Nat} {f : Nat → Int32} {i : Int32} (hd : decode M.2.1 pc = .ok (.baload, 1)) (ha : h a = some (.inl (1, N, .inl f))) (hin : vp_in i N) (kk : V l M d mc ms (pc + 1) ls (.int (f i.toNatClampNeg) :: st) n h c s Q) : V l M d mc ms pc ls (.int i :: .ref a :: st) n h c s Q :=
  fun E p e s0 m args below meth cd C hE H locs lm hH hS hl => va_bald (D := E.2.2.2.1) (cl := cls) (tys := tys E) C.1 C.2.1 C.2.2.2.2.2.2.2.2.1 (hP1 (hH.2 _ _ ha).2) 0 1 rfl rfl hin hd (kk E p e s0 m args below meth cd C hE H locs lm hH hS hl)
/-- a row of trees (k 2) or of sheets (k 3) -/
theorem V.aald {a N k b : Nat} {f : Nat → Option Nat} {i : Int32} (hd : decode M.2.1 pc = .ok (.aaload, 1)) (hk : k = 2 ∨ k = 3) (ha : h a = some (.inl (k, N, .inr (.inr (.inr (.inr f)))))) (hin : vp_in i N) (hb : f i.toNatClampNeg = some b) (kk : V l M d mc ms (pc + 1) ls (.ref b :: st) n h c s Q) : V l M d mc ms pc ls (.int i :: .ref a :: st) n h c s Q := by
  intro E p e s0 m args below meth cd C hE H locs lm hH hS hl
  have kk' := kk E p e s0 m args below meth cd C hE H locs lm hH hS hl
  have e1 : va_rf ((f i.toNatClampNeg).map (fun a => E.1 + a)) = tV E (.ref b) := by rw [hb]; rfl
  rcases hk with rfl | rfl
  · refine va_aldq (D := E.2.2.2.1) (cl := cls) (tys := tys E) C.1 C.2.1 C.2.2.2.2.2.2.2.2.1 (hP1 (hH.2 _ _ ha).2) 0 2 rfl rfl hin hd ?_
    show W p l e (rmd d mc ms) s0 m args below meth cd H locs c s _ (F0 m (pc + 1) lm (va_rf ((f i.toNatClampNeg).map (fun a => E.1 + a)) :: st.map (tV E)))
    rw [e1]
    exact kk'
  · refine va_aldq (D := E.2.2.2.1) (cl := cls) (tys := tys E) C.1 C.2.1 C.2.2.2.2.2.2.2.2.1 (hP1 (hH.2 _ _ ha).2) 0 3 rfl rfl hin hd ?_
    show W p l e (rmd d mc ms) s0 m args below meth cd H locs c s _ (F0 m (pc + 1) lm (va_rf ((f i.toNatClampNeg).map (fun a => E.1 + a)) :: st.map (tV E)))
    rw [e1]
    exact kk'
theorem V.alen {a k N : Nat} {x : AX} (hd : decode M.2.1 pc = .ok (.arraylength, 1)) (ha : h a = some (.inl (k, N, x))) (hk : k < 4) (kk : V l M d mc ms (pc + 1) ls (.int (nI N) :: st) n h c s Q) : V l M d mc ms pc ls (.ref a :: st) n h c s Q := by
  intro E p e s0 m args below meth cd C hE H locs lm hH hS hl
  have kk' := kk E p e s0 m args below meth cd C hE H locs lm hH hS hl
  obtain ⟨ty, ht⟩ : ∃ ty, (tys E)[k]? = some (E.2.2.1 k, ty) := by
    rcases (show k = 0 ∨ k = 1 ∨ k = 2 ∨ k = 3 by omega) with rfl | rfl | rfl | rfl <;> exact ⟨_, rfl⟩
  exact va_alen (D := E.2.2.2.1) (cl := cls) (tys := tys E) C.1 C.2.1 C.2.2.2.2.2.2.2.2.1 (hP1 (hH.2 _ _ ha).2) 0 k rfl ht (v := nI N) rfl hd kk'
theorem upd_cell (cA : ClassId) (N k : Nat) (f : Nat → Int32) (x : Int32) : (vp_cell cA (N, .inl f)).setSlot k (.int x) = vp_cell cA (N, .inl (upd f k x)) := by
  rw [vp_cell_i, vp_cell_i, arrV_store]
  congr 1
  funext q
  by_cases hq : q = k
  · subst hq; simp [updV, upd]
  · simp [updV, upd, hq]
theorem V.iast {a N : Nat} {f : Nat → Int32} {i x : Int32} (hd : decode M.2.1 pc = .ok (.iastore, 1)) (ha : h a = some (.inl (0, N, .inl f))) (hin : vp_in i N) (kk : V l M d mc ms (pc + 1) ls st n (up h a (.inl (0, N, .inl (upd f i.toNatClampNeg x)))) c s Q) : V l M d mc ms pc ls (.int x :: .int i :: .ref a :: st) n h c s Q := by
  intro E p e s0 m args below meth cd C hE H locs lm hH hS hl
  have hc : H[E.1 + a]? = some (vp_cell (E.2.2.1 0) (N, .inl f)) := (hH.2 _ _ ha).2
  refine W.iast C.1 C.2.1 hc ((C.2.2.2.2.2.2.2.2.1.2 0 _ rfl).1 N (fun j => .int (f j))) (fun q => by cases q) (by show ¬ (i < 0 ∨ (arrV _ _ _).slots.size ≤ _); rw [arrV_size]; exact hin) rfl rfl hd fun H1 e1 z oq => ?_
  rw [upd_cell] at e1
  exact kk E p e s0 m args below meth cd C hE H1 _ lm (hH.set ha e1 z oq) (hS.put z oq) hl
theorem V.bast {a N : Nat} {f : Nat → Int32} {i x : Int32} (hd : decode M.2.1 pc = .ok (.bastore, 1)) (ha : h a = some (.inl (1, N, .inl f))) (hin : vp_in i N) (kk : V l M d mc ms (pc + 1) ls st n (up h a (.inl (1, N, .inl (upd f i.toNatClampNeg x.toInt8.toInt32)))) c s Q) : V l M d mc ms pc ls (.int x :: .int i :: .ref a :: st) n h c s Q := by
  intro E p e s0 m args below meth cd C hE H locs lm hH hS hl
  have hc : H[E.1 + a]? = some (vp_cell (E.2.2.1 1) (N, .inl f)) := (hH.2 _ _ ha).2
  refine W.bast C.1 C.2.1 hc ((C.2.2.2.2.2.2.2.2.1.2 1 _ rfl).1 N (fun j => .int (f j))) (fun q => by cases q) (by show ¬ (i < 0 ∨ (arrV _ _ _).slots.size ≤ _); rw [arrV_size]; exact hin) rfl rfl hd fun H1 e1 z oq => ?_
  have e2 : narrow .byte (.int x) = .int x.toInt8.toInt32 := by simp only [narrow]
  rw [e2, upd_cell] at e1
  exact kk E p e s0 m args below meth cd C hE H1 _ lm (hH.set ha e1 z oq) (hS.put z oq) hl
/-- an object into a row of trees or of sheets: cn, the class of the row's, that of the object is it, or under it -/
theorem V.aast {a N k b ci : Nat} {f : Nat → Option Nat} {fs : List Value} {i : Int32} {cn : String} {r : vw_C} (hd : decode M.2.1 pc = .ok (.aastore, 1)) (hk : (k = 2 ∧ cn = "FelledByNames$Tree") ∨ (k = 3 ∧ cn = "FelledByNames$Sheet")) (ha : h a = some (.inl (k, N, .inr (.inr (.inr (.inr f)))))) (hb : h b = some (.inr (ci, fs))) (hr : cls[ci]? = some r) (hca : r.1 = cn ∨ Cond.castable r.1 cn ∈ tb) (hin : vp_in i N) (kk : V l M d mc ms (pc + 1) ls st n (up h a (.inl (k, N, .inr (.inr (.inr (.inr (va_up f i.toNatClampNeg (some b)))))))) c s Q) : V l M d mc ms pc ls (.ref b :: .int i :: .ref a :: st) n h c s Q := by
  intro E p e s0 m args below meth cd C hE H locs lm hH hS hl
  have hK := C.2.2.2.2.2.2.2.2.1
  have hc : H[E.1 + a]? = some (vp_cell (E.2.2.1 k) (N, tX E.1 (.inr (.inr (.inr (.inr f)))))) := (hH.2 _ _ ha).2
  have ht : (tys E)[k]? = some (E.2.2.1 k, .object cn) := by rcases hk with ⟨rfl, rfl⟩ | ⟨rfl, rfl⟩ <;> rfl
  have hlt : i.toNatClampNeg < N := Nat.not_le.mp fun q => hin (Or.inr q)
  have h0 : ¬ i < 0 := fun q => hin (Or.inl q)
  obtain ⟨kA, comp, k1, k2, k3, -⟩ := (hK.2 k _ ht).2
  obtain ⟨kE, hkE, -⟩ := Vm.findClass_spec k3
  obtain ⟨-, r', hr', cell, q1, q2, q3, -⟩ := hH.2 _ _ hb
  cases hr'.symm.trans hr
  obtain ⟨hSl, hfc, kC, hkC, hkind⟩ := hK.1 ci _ hr
  have hasg : s0.vm.assignable cell.cls comp = true := by
    rw [q2]
    rcases hca with hca | hca
    · rw [hca] at hfc
      cases hfc.symm.trans k3
      exact va_assign ⟨hfc, kC, hkC, hkind⟩
    · obtain ⟨c0, t0, f1, f2, f3⟩ := Cond.castable_spec (C.2.2.2.2.2.1 _ hca)
      cases f1.symm.trans hfc
      cases f2.symm.trans k3
      exact f3
  refine W.aast C.1 C.2.1 hc (fun q h => by cases h) (fun h => by cases h) k1 k2 rfl hkE ⟨h0, by show _ < (arrV _ _ _).slots.size; rw [arrV_size]; exact hlt⟩ q1 (fun q h => by rw [q3] at h; cases h) (by rw [q2]; exact hkC) hasg rfl rfl hd fun H1 e1 z oq => ?_
  refine kk E p e s0 m args below meth cd C hE H1 _ lm (hH.set ha ?_ z oq) (hS.put z oq) hl
  show H1[E.1 + a]? = some (vp_cell _ (N, .inr (.inr (.inr (.inr (fun j => (va_up f i.toNatClampNeg (some b) j).map (fun a => E.1 + a)))))))
  rw [e1]
  show some ((vp_cell (E.2.2.1 k) (N, .inr (.inr (.inr (.inr (fun j => (f j).map (fun a => E.1 + a))))))).setSlot i.toNatClampNeg (.ref (E.1 + b))) = some (vp_cell (E.2.2.1 k) (N, .inr (.inr (.inr (.inr (fun j => (va_up f i.toNatClampNeg (some b) j).map (fun a => E.1 + a)))))))
  rw [vp_cell_q, vp_cell_q, arrV_store]
  congr 2
  funext q
  by_cases hq : q = i.toNatClampNeg
  · subst hq; simp [updV, va_up, va_rf]
  · simp [updV, va_up, hq]
end VH
end
section
def pu : Option Value → List Value → List Value
  | none, st => st
  | some v, st => v :: st
theorem gin {ws : List Cond} (hw : ∀ w ∈ ws, w ∈ tb) : GoodIn tb ws := fun w h => ⟨hw w h, good_of_word (tb_good w (hw w h))⟩
theorem gin_M {M : MD} (hw : Cond.code M.1 M.2.1 M.2.2.1 M.2.2.2.1 ∈ tb) : GoodIn tb (wsM M) := gin fun w h => by
  rcases List.mem_cons.mp h with rfl | h
  · exact hw
  · exact h
theorem Pre.blind {E : Ev} {n : Nat} {h : HP} {vs : List Value} : FrameBlind (va_Pc (vs.map (tV E)) (Pre E n h)) := fun a U g mk q => ⟨q.1, q.2.1, q.2.2.1.call, q.2.2.2⟩
theorem Pre.at {E : Ev} {n : Nat} {h : HP} {s0 U : State} {H : Heap} {locs : List Loc} (hG : Gx E s0 s0.heap) (hS : Sx E s0 H locs) (hH : HR E n h H) (hU : U.heap = H) (hW : s0.WarmedH U.vm) : Pre E n h U :=
  ⟨by rw [hU]; exact hH, hG.go hW (fun q hq => by rw [hU]; exact hS.2.1 q hq), by rw [hU, hH.1]; exact Nat.le_add_right _ _⟩
/-- what a call asks of the callee's words, arguments and room -/
def kB (M' : MD) (na : Nat) : Prop := Cond.initialized M'.1.cls ∈ tb ∧ Cond.code M'.1 M'.2.1 M'.2.2.1 M'.2.2.2.1 ∈ tb ∧ (M'.1.cls ≠ "java/lang/invoke/MethodHandle" ∧ M'.1.cls ≠ "java/lang/invoke/VarHandle" ∧ (parseMethodDescriptor M'.1.desc).map (fun d => d.parameters.length) = some na) ∧ M'.2.2.1 ≤ 45
def kS (own : String) (idx : Nat) (M' : MD) (na : Nat) : Prop := kB M' na ∧ Cond.methodLink own idx M'.1 ∈ tb ∧ Cond.static M'.1 ∈ tb
def kV (own : String) (idx ci : Nat) (M' : MD) (na : Nat) : Prop := kB M' na ∧ Cond.methodLink own idx M'.1 ∈ tb ∧ Cond.instanceMethod M'.1 ∈ tb ∧ Cond.selects M'.1.cls M'.1 M'.1 ∈ tb ∧ ∃ r : vw_C, cls[ci]? = some r ∧ r.1 = M'.1.cls
def kI (own : String) (idx : Nat) (M' : MD) (na : Nat) : Prop := kB M' na ∧ Cond.methodLink own idx M'.1 ∈ tb ∧ Cond.instanceMethod M'.1 ∈ tb ∧ M'.1.name = "<init>" ∧ M'.2.2.2.1 = none
def kSN (own : String) (idx : Nat) (M' : MD) (na : Nat) : Prop := kB M' na ∧ (∃ host, Cond.methodLinkNest own idx M'.1 host ∈ tb) ∧ Cond.static M'.1 ∈ tb
def kVN (own : String) (idx ci : Nat) (M' : MD) (na : Nat) : Prop := kB M' na ∧ (∃ host, Cond.methodLinkNest own idx M'.1 host ∈ tb) ∧ Cond.instanceMethod M'.1 ∈ tb ∧ Cond.selects M'.1.cls M'.1 M'.1 ∈ tb ∧ ∃ r : vw_C, cls[ci]? = some r ∧ r.1 = M'.1.cls
/-- super.m(..): the object's own class is ci's -/
def kSU (own : String) (idx : Nat) (M' : MD) (na : Nat) : Prop := kB M' na ∧ Cond.methodLink own idx M'.1 ∈ tb ∧ Cond.sameMethod M'.1.cls M'.1.cls M'.1.name M'.1.desc ∈ tb ∧ Cond.superclass own M'.1.cls ∈ tb ∧ Cond.instanceMethod M'.1 ∈ tb ∧ M'.1.name ≠ "<init>"
/-- a call by the name x, declared by owner; an object of the class ci runs M' -/
def kU (own : String) (idx ci : Nat) (owner : String) (x : MethodName) (M' : MD) (na : Nat) : Prop := kB M' na ∧ Cond.methodLink own idx x ∈ tb ∧ Cond.sameMethod x.cls owner x.name x.desc ∈ tb ∧ (owner ≠ "java/lang/invoke/MethodHandle" ∧ owner ≠ "java/lang/invoke/VarHandle") ∧ Cond.instanceMethod ⟨owner, x.name, x.desc⟩ ∈ tb ∧ (∃ b m r, Cond.code ⟨owner, x.name, x.desc⟩ b m r ∈ tb) ∧ (parseMethodDescriptor x.desc).map (fun d => d.parameters.length) = some na ∧ Cond.instanceMethod M'.1 ∈ tb ∧ ∃ r : vw_C, cls[ci]? = some r ∧ Cond.selects r.1 x M'.1 ∈ tb
section VC
variable {p : Program} {l : Launch} {e : Env} {s0 : State} {m : MethodId} {args : Array Value} {below : List Frame} {meth : Method} {cd : Code} {H : Heap} {locs : List Loc} {lm : Array Slot}
variable {M M' : MD} {d mc ms mc' ms' pc na idx : Nat} {ls : List (Nat × Value)} {st st0 vs : List Value} {n : Nat} {h : HP} {c s : Nat} {Q : QT} {E : Ev}
/-- behind a call -/
theorem run_on {R : Room} {Z : State → Prop} {stk : List Value} {a : Array Value} {Q' : QT} (hr : va_Run p l e R s0 m args below meth cd H locs c s mc' ms' (F0 m pc lm stk) (st.map (tV E)) (Pst E Q' a) (EA E)) (hS : Sx E s0 H locs)
    (kk : ∀ (r : Option Value) (n' : Nat) (h' : HP), Q' r n' h' → ∀ (H1 : Heap) (locs1 : List Loc), HR E n' h' H1 → Sx E s0 H1 locs1 → W p l e R s0 m args below meth cd H1 locs1 (c + mc') (s + ms') Z (F0 m (pc + 3) lm ((pu r st).map (tV E)))) : W p l e R s0 m args below meth cd H locs c s Z (F0 m pc lm stk) := by
  intro T hT X
  obtain ⟨v, st₀, t, T', L, h0, X', hL, e1, e2, ⟨r, n', h', hv, hq, hH, ho, hz⟩, go⟩ := hr T hT X
  cases hv
  obtain ⟨t2, a1, b1⟩ := kk r n' h' hq T'.heap (locs ++ L) (by rw [e1]; exact hH) ⟨hS.1, fun q hq => by rw [e1, ho q hq, h0]; exact hS.2.1 q hq, fun x hx => by
    rcases List.mem_append.mp hx with hx | hx
    · exact hS.2.2.1 x hx
    · exact hL x hx, by rw [e1]; rw [h0] at hz; exact Nat.le_trans hS.2.2.2 hz⟩ T' rfl X'
  refine ⟨t2, go t2 ?_, b1⟩
  cases r <;> exact a1
theorem room_ok (hl : M'.2.2.1 ≤ 45) : (rmd d mc' ms').frames + 1 ≤ (rmd (d + 1) mc ms).frames ∧ 8 + (M'.2.2.1 + 11) + (rmd d mc' ms').locals ≤ (rmd (d + 1) mc ms).locals := by
  refine ⟨Nat.le_refl _, ?_⟩
  show 8 + (M'.2.2.1 + 11) + 64 * d ≤ 64 * (d + 1)
  omega
theorem cat_sum (E : Ev) : ∀ st : List Value, ((st.map (tV E)).map fun v => v.category).sum = (st.map fun v => v.category).sum := by
  intro st
  rw [List.map_map]
  congr 1
  apply List.map_congr_left
  intro v _
  exact tV_cat E v
theorem lm_room (hw : (st.map fun v => v.category).sum ≤ 8) {stk : List Value} : 2 * (F0 m pc lm stk).monitorRoom + ((st.map (tV E)).map fun v => v.category).sum ≤ 8 := lv_room (by rw [cat_sum]; exact hw)
theorem st_eq {vs st : List Value} : (vs.reverse ++ st).map (tV E) = (vs.map (tV E)).reverse ++ st.map (tV E) := by rw [List.map_append, List.map_reverse]
theorem st_eqR {vs st : List Value} {b : Nat} : (vs.reverse ++ .ref b :: st).map (tV E) = (vs.map (tV E)).reverse ++ .ref (E.1 + b) :: st.map (tV E) := by rw [List.map_append, List.map_reverse]; rfl
theorem V.callS (hd : decode M.2.1 pc = .ok (.invokestatic idx, 3)) (K : kS M.1.cls idx M' na) (hst : st0 = vs.reverse ++ st) (hn : vs.length = na) (hw : (st.map fun v => v.category).sum ≤ 8) (hc : c + mc' ≤ mc) (hs : s + ms' ≤ ms)
    (hM : Ct l M' d mc' ms' vs n h (fun r n' h' => V l M (d + 1) mc ms (pc + 3) ls (pu r st) n' h' (c + mc') (s + ms') Q)) : V l M (d + 1) mc ms pc ls st0 n h c s Q := by
  subst hst
  intro E p e s0 m args below meth cd C hE H locs lm hH hS hl
  obtain ⟨⟨k1, k2, k3, k4⟩, k5, k6⟩ := K
  have hts := C.2.2.2.2.2.1
  refine run_on (va_runS (cc := M.2.1) (nL := M.2.2.1) (Ts := tb) (own := M.1.cls) (n := na) (As := vs.map (tV E)) ⟨C.1, C.2.1, C.2.2.1, C.2.2.2.2.1, hts⟩ (hM E) ⟨callB_of na hts (gin_M k2) rfl rfl rfl (hts _ k1) (hts _ k5) k3 (room_ok k4), hts _ k6⟩ ⟨Pre.blind, fun U hU hW => ⟨rfl, Pre.at C.2.2.2.2.2.2.2.2 hS hH hU hW⟩⟩ rfl (by rw [List.length_map]; exact hn) hl.1 st_eq (lm_room hw) hd ⟨hc, hs⟩) hS (fun r n' h' hq H1 locs1 hH1 hS1 => ?_)
  exact hq E p e s0 m args below meth cd C hE H1 locs1 lm hH1 hS1 hl
theorem V.callSN (hd : decode M.2.1 pc = .ok (.invokestatic idx, 3)) (K : kSN M.1.cls idx M' na) (hst : st0 = vs.reverse ++ st) (hn : vs.length = na) (hw : (st.map fun v => v.category).sum ≤ 8) (hc : c + mc' ≤ mc) (hs : s + ms' ≤ ms)
    (hM : Ct l M' d mc' ms' vs n h (fun r n' h' => V l M (d + 1) mc ms (pc + 3) ls (pu r st) n' h' (c + mc') (s + ms') Q)) : V l M (d + 1) mc ms pc ls st0 n h c s Q := by
  subst hst
  intro E p e s0 m args below meth cd C hE H locs lm hH hS hl
  obtain ⟨⟨k1, k2, k3, k4⟩, ⟨host, k5⟩, k6⟩ := K
  have hts := C.2.2.2.2.2.1
  refine run_on (va_runSN (cc := M.2.1) (nL := M.2.2.1) (Ts := tb) (own := M.1.cls) (n := na) (As := vs.map (tV E)) ⟨C.1, C.2.1, C.2.2.1, C.2.2.2.2.1, hts⟩ (hM E) ⟨va_cnB (host := host) na hts (gin_M k2) rfl rfl rfl (by have := hts _ k5; exact va_tabs rfl rfl this) (hts _ k1) k3 (room_ok k4), hts _ k6, trivial⟩ ⟨Pre.blind, fun U hU hW => ⟨rfl, Pre.at C.2.2.2.2.2.2.2.2 hS hH hU hW⟩⟩ rfl (by rw [List.length_map]; exact hn) hl.1 st_eq (lm_room hw) hd ⟨hc, hs⟩) hS (fun r n' h' hq H1 locs1 hH1 hS1 => ?_)
  exact hq E p e s0 m args below meth cd C hE H1 locs1 lm hH1 hS1 hl
theorem recv_at {a ci : Nat} {fs : List Value} {r : vw_C} (C : Cx M E p s0 m args meth cd) (hH : HR E n h H) (ha : h a = some (.inr (ci, fs))) (hr : cls[ci]? = some r) : ∃ cell : Cell, H[E.1 + a]? = some cell ∧ cell.vm.isStatics = false ∧ s0.vm.findClass r.1 = some cell.cls :=
  va_recv (D := E.2.2.2.1) (cl := cls) (tys := tys E) (q0 := 0) C.2.2.2.2.2.2.2.2.1 (hP1 (hH.2 _ _ ha).2) hr rfl
theorem V.callV {b ci : Nat} {fs : List Value} (hd : decode M.2.1 pc = .ok (.invokevirtual idx, 3)) (K : kV M.1.cls idx ci M' na) (hb : h b = some (.inr (ci, fs))) (hst : st0 = vs.reverse ++ .ref b :: st) (hn : vs.length = na) (hw : (st.map fun v => v.category).sum ≤ 8) (hc : c + mc' ≤ mc) (hs : s + ms' ≤ ms)
    (hM : Ct l M' d mc' ms' (.ref b :: vs) n h (fun r n' h' => V l M (d + 1) mc ms (pc + 3) ls (pu r st) n' h' (c + mc') (s + ms') Q)) : V l M (d + 1) mc ms pc ls st0 n h c s Q := by
  subst hst
  intro E p e s0 m args below meth cd C hE H locs lm hH hS hl
  obtain ⟨⟨k1, k2, k3, k4⟩, k5, k6, k7, r, k8, k9⟩ := K
  have hts := C.2.2.2.2.2.1
  refine run_on (va_runV (cc := M.2.1) (nL := M.2.2.1) (Ts := tb) (own := M.1.cls) (C := M'.1.cls) (n := na) (b := E.1 + b) (As := vs.map (tV E)) ⟨C.1, C.2.1, C.2.2.1, C.2.2.2.2.1, hts⟩ (hM E) ⟨callB_of na hts (gin_M k2) rfl rfl rfl (hts _ k1) (hts _ k5) k3 (room_ok k4), hts _ k6, hts _ k7⟩ ⟨Pre.blind, by rw [← k9]; exact recv_at C hH hb k8, fun U hU hW => ⟨rfl, Pre.at C.2.2.2.2.2.2.2.2 hS hH hU hW⟩⟩ rfl (by rw [List.length_map]; exact hn) hl.1 st_eqR (lm_room hw) hd ⟨hc, hs⟩) hS (fun r n' h' hq H1 locs1 hH1 hS1 => ?_)
  exact hq E p e s0 m args below meth cd C hE H1 locs1 lm hH1 hS1 hl
theorem V.callVN {b ci : Nat} {fs : List Value} (hd : decode M.2.1 pc = .ok (.invokevirtual idx, 3)) (K : kVN M.1.cls idx ci M' na) (hb : h b = some (.inr (ci, fs))) (hst : st0 = vs.reverse ++ .ref b :: st) (hn : vs.length = na) (hw : (st.map fun v => v.category).sum ≤ 8) (hc : c + mc' ≤ mc) (hs : s + ms' ≤ ms)
    (hM : Ct l M' d mc' ms' (.ref b :: vs) n h (fun r n' h' => V l M (d + 1) mc ms (pc + 3) ls (pu r st) n' h' (c + mc') (s + ms') Q)) : V l M (d + 1) mc ms pc ls st0 n h c s Q := by
  subst hst
  intro E p e s0 m args below meth cd C hE H locs lm hH hS hl
  obtain ⟨⟨k1, k2, k3, k4⟩, ⟨host, k5⟩, k6, k7, r, k8, k9⟩ := K
  have hts := C.2.2.2.2.2.1
  refine run_on (va_runVN (cc := M.2.1) (nL := M.2.2.1) (Ts := tb) (own := M.1.cls) (C := M'.1.cls) (n := na) (b := E.1 + b) (As := vs.map (tV E)) ⟨C.1, C.2.1, C.2.2.1, C.2.2.2.2.1, hts⟩ (hM E) ⟨va_cnB (host := host) na hts (gin_M k2) rfl rfl rfl (by have := hts _ k5; exact va_tabs rfl rfl this) (hts _ k1) k3 (room_ok k4), hts _ k6, hts _ k7⟩ ⟨Pre.blind, by rw [← k9]; exact recv_at C hH hb k8, fun U hU hW => ⟨rfl, Pre.at C.2.2.2.2.2.2.2.2 hS hH hU hW⟩⟩ rfl (by rw [List.length_map]; exact hn) hl.1 st_eqR (lm_room hw) hd ⟨hc, hs⟩) hS (fun r n' h' hq H1 locs1 hH1 hS1 => ?_)
  exact hq E p e s0 m args below meth cd C hE H1 locs1 lm hH1 hS1 hl
theorem V.callU {b ci : Nat} {fs : List Value} {owner : String} {x : MethodName} (hd : decode M.2.1 pc = .ok (.invokevirtual idx, 3)) (K : kU M.1.cls idx ci owner x M' na) (hb : h b = some (.inr (ci, fs))) (hst : st0 = vs.reverse ++ .ref b :: st) (hn : vs.length = na) (hw : (st.map fun v => v.category).sum ≤ 8) (hc : c + mc' ≤ mc) (hs : s + ms' ≤ ms)
    (hM : Ct l M' d mc' ms' (.ref b :: vs) n h (fun r n' h' => V l M (d + 1) mc ms (pc + 3) ls (pu r st) n' h' (c + mc') (s + ms') Q)) : V l M (d + 1) mc ms pc ls st0 n h c s Q := by
  subst hst
  intro E p e s0 m args below meth cd C hE H locs lm hH hS hl
  obtain ⟨⟨k1, k2, k3, k4⟩, k5, k6, k7, k8, ⟨b0, m0, r0, k9⟩, k10, k11, r, k12, k13⟩ := K
  have hts := C.2.2.2.2.2.1
  have hro := room_ok (d := d) (mc := mc) (ms := ms) (mc' := mc') (ms' := ms') k4
  refine run_on (va_runU (cc := M.2.1) (nL := M.2.2.1) (Ts := tb) (own := M.1.cls) (C := r.1) (owner := owner) (x := x) (n := na) (b := E.1 + b) (As := vs.map (tV E)) ⟨C.1, C.2.1, C.2.2.1, C.2.2.2.2.1, hts⟩ (hM E) ⟨⟨rfl, rfl, hro.1, hro.2, pay_in hts (gin_M k2), List.mem_cons_self⟩, hts _ k2, hts _ k1, k7, fun sig hsig => by rw [hsig] at k10; exact (Option.some.inj k10).symm, hts _ k5, hts _ k6, va_Decl.of (hts _ k8) (hts _ k9), hts _ k13, hts _ k11⟩ ⟨Pre.blind, recv_at C hH hb k12, fun U hU hW => ⟨rfl, Pre.at C.2.2.2.2.2.2.2.2 hS hH hU hW⟩⟩ rfl (by rw [List.length_map]; exact hn) hl.1 st_eqR (lm_room hw) hd ⟨hc, hs⟩) hS (fun r n' h' hq H1 locs1 hH1 hS1 => ?_)
  exact hq E p e s0 m args below meth cd C hE H1 locs1 lm hH1 hS1 hl
theorem V.callI {b : Nat} (hd : decode M.2.1 pc = .ok (.invokespecial idx, 3)) (K : kI M.1.cls idx M' na) (hst : st0 = vs.reverse ++ .ref b :: st) (hn : vs.length = na) (hw : (st.map fun v => v.category).sum ≤ 8) (hc : c + mc' ≤ mc) (hs : s + ms' ≤ ms)
    (hM : Ct l M' d mc' ms' (.ref b :: vs) n h (fun r n' h' => V l M (d + 1) mc ms (pc + 3) ls (pu r st) n' h' (c + mc') (s + ms') Q)) : V l M (d + 1) mc ms pc ls st0 n h c s Q := by
  subst hst
  intro E p e s0 m args below meth cd C hE H locs lm hH hS hl
  obtain ⟨⟨k1, k2, k3, k4⟩, k5, k6, k7, k8⟩ := K
  have hts := C.2.2.2.2.2.1
  obtain ⟨y, by', mx, rt, pE⟩ := M'
  dsimp only at k8
  subst k8
  refine run_on (va_runI (cc := M.2.1) (nL := M.2.2.1) (Ts := tb) (own := M.1.cls) (n := na) (b := E.1 + b) (As := vs.map (tV E)) ⟨C.1, C.2.1, C.2.2.1, C.2.2.2.2.1, hts⟩ (hM E) ⟨callB_of na hts (gin_M k2) rfl rfl rfl (hts _ k1) (hts _ k5) k3 (room_ok k4), k7, hts _ k6⟩ ⟨Pre.blind, fun U hU hW => ⟨rfl, Pre.at C.2.2.2.2.2.2.2.2 hS hH hU hW⟩⟩ rfl (by rw [List.length_map]; exact hn) hl.1 st_eqR (lm_room hw) hd ⟨hc, hs⟩) hS (fun r n' h' hq H1 locs1 hH1 hS1 => ?_)
  exact hq E p e s0 m args below meth cd C hE H1 locs1 lm hH1 hS1 hl
theorem V.callSU {b ci : Nat} {fs : List Value} {r : vw_C} (hd : decode M.2.1 pc = .ok (.invokespecial idx, 3)) (K : kSU M.1.cls idx M' na) (hb : h b = some (.inr (ci, fs))) (hr : cls[ci]? = some r) (hst : st0 = vs.reverse ++ .ref b :: st) (hn : vs.length = na) (hw : (st.map fun v => v.category).sum ≤ 8) (hc : c + mc' ≤ mc) (hs : s + ms' ≤ ms)
    (hM : Ct l M' d mc' ms' (.ref b :: vs) n h (fun r n' h' => V l M (d + 1) mc ms (pc + 3) ls (pu r st) n' h' (c + mc') (s + ms') Q)) : V l M (d + 1) mc ms pc ls st0 n h c s Q := by
  subst hst
  intro E p e s0 m args below meth cd C hE H locs lm hH hS hl
  obtain ⟨⟨k1, k2, k3, k4⟩, k5, k6, k7, k8, k9⟩ := K
  have hts := C.2.2.2.2.2.1
  have hro := room_ok (d := d) (mc := mc) (ms := ms) (mc' := mc') (ms' := ms') k4
  refine run_on (va_runSU (cc := M.2.1) (nL := M.2.2.1) (Ts := tb) (own := M.1.cls) (C := r.1) (n := na) (b := E.1 + b) (As := vs.map (tV E)) (C.2.2.2.2.2.2.2.2.1.1 ci r hr).2 ⟨C.1, C.2.1, C.2.2.1, C.2.2.2.2.1, hts⟩ (hM E) ⟨⟨rfl, rfl, hro.1, hro.2, pay_in hts (gin_M k2), List.mem_cons_self⟩, hts _ k5, hts _ k6, hts _ k7, hts _ k8, hts _ k1, hts _ k2, k9, fun sig hsig => by rw [hsig] at k3; exact (Option.some.inj k3.2.2).symm⟩ ⟨Pre.blind, recv_at C hH hb hr, fun U hU hW => ⟨rfl, Pre.at C.2.2.2.2.2.2.2.2 hS hH hU hW⟩⟩ rfl (by rw [List.length_map]; exact hn) hl.1 st_eqR (lm_room hw) hd ⟨hc, hs⟩) hS (fun r n' h' hq H1 locs1 hH1 hS1 => ?_)
  exact hq E p e s0 m args below meth cd C hE H1 locs1 lm hH1 hS1 hl
theorem V.objInit {b : Nat} (hd : decode M.2.1 pc = .ok (.invokespecial idx, 3)) (hk : Cond.methodLink M.1.cls idx Lib.objectInit ∈ tb ∧ Cond.instanceMethod Lib.objectInit ∈ tb ∧ Cond.code Lib.objectInit ⟨#[0xb1]⟩ 1 none ∈ tb) (hw : (st.map fun v => v.category).sum ≤ 8) (kk : V l M (d + 1) mc ms (pc + 3) ls st n h c s Q) : V l M (d + 1) mc ms pc ls (.ref b :: st) n h c s Q := by
  intro E p e s0 m args below meth cd C hE H locs lm hH hS hl
  have hts := C.2.2.2.2.2.1
  refine W.objInit C.1 C.2.1 C.2.2.2.2.1 (hts _ hk.1) (hts _ hk.2.1) (hts _ hk.2.2) rfl (by rw [C.2.2.1]; exact hl.1) rfl hd (Nat.succ_le_succ (Nat.zero_le _)) ?_ (kk E p e s0 m args below meth cd C hE H locs lm hH hS hl)
  have := lm_room (m := m) (pc := pc) (lm := lm) (E := E) hw (stk := (.ref b :: st).map (tV E))
  show _ ≤ 64 * (d + 1)
  omega
end VC
end
section
/-- an object that may be made here: class, slots, what its fields are at first -/
def nok (own : String) (idx ci N : Nat) (fs : List Value) : Prop := ∃ (C : String) (T : u_T) (ty : Nat → FieldType), cls[ci]? = some (C, T, N) ∧ (∀ w ∈ u_ws C T N, w ∈ tb) ∧ (∀ k, k < N → parseFieldDescriptor (T k).2.2.1 = some (ty k)) ∧ Cond.classLink own idx C ∈ tb ∧ Cond.instantiable C N ∈ tb ∧ Cond.initialized C ∈ tb ∧ ∀ (E : Ev) (j : Nat), j < N → defaultValue (ty j) = vp_V (fs.map (tV E)) j
section VN
variable {l : Launch} {M : MD} {d mc ms pc idx : Nat} {ls : List (Nat × Value)} {st : List Value} {n : Nat} {h : HP} {c s : Nat} {Q : QT}
theorem V.new {ci N : Nat} {fs : List Value} (hd : decode M.2.1 pc = .ok (.new idx, 3)) (hk : nok M.1.cls idx ci N fs) (hc : c + 1 ≤ mc) (hs : s + N ≤ ms) (kk : V l M d mc ms (pc + 3) ls (.ref n :: st) (n + 1) (up h n (.inr (ci, fs))) (c + 1) (s + N) Q) : V l M d mc ms pc ls st n h c s Q := by
  intro E p e s0 m args below meth cd C hE H locs lm hH hS hl
  obtain ⟨Cn, T, ty, k1, k2, k3, k4, k5, k6, k7⟩ := hk
  have hts := C.2.2.2.2.2.1
  have hKn := C.2.2.2.2.2.2.2.2.1.1 ci _ k1
  refine W.newcK C.1 C.2.1 C.2.2.2.2.1 (hts _ k4) (hts _ k5) (hts _ k6) rfl hd hc hs hKn.2.1 hH.1 fun H1 kC hkC e1 z1 o1 => ?_
  refine kk E p e s0 m args below meth cd C hE H1 locs lm (hH.push ?_ z1 o1) (hS.push (by rw [z1, hH.1]; omega) o1) hl
  exact ⟨_, k1, (u_born ty hts k2 hKn hkC e1 k3).to (k7 E)⟩
theorem V.newarr {k N : Nat} {at' : ArrayType} {ty : FieldType} {x : Int32} (hd : decode M.2.1 pc = .ok (.newarray at', 2)) (hk : (k = 0 ∧ at' = .int ∧ ty = .int) ∨ (k = 1 ∧ at' = .byte ∧ ty = .byte)) (hx : x = nI N) (hN : N < 100000) (hw : Cond.arrayClass ty ∈ tb) (hc : c + 1 ≤ mc) (hs : s + N ≤ ms) (kk : V l M d mc ms (pc + 2) ls (.ref n :: st) (n + 1) (up h n (.inl (k, N, .inl (fun _ => 0)))) (c + 1) (s + N) Q) : V l M d mc ms pc ls (.int x :: st) n h c s Q := by
  intro E p e s0 m args below meth cd C hE H locs lm hH hS hl
  have hts := C.2.2.2.2.2.1
  have hK := C.2.2.2.2.2.2.2.2.1
  have e0 : newarray.typeOf at' = ty := by rcases hk with ⟨-, rfl, rfl⟩ | ⟨-, rfl, rfl⟩ <;> rfl
  have e0b : componentBytes ty ≤ 4 := by rcases hk with ⟨-, rfl, rfl⟩ | ⟨-, rfl, rfl⟩ <;> decide
  have e0d : defaultValue ty = .int 0 := by rcases hk with ⟨-, rfl, rfl⟩ | ⟨-, rfl, rfl⟩ <;> rfl
  have ht : (tys E)[k]? = some (E.2.2.1 k, ty) := by rcases hk with ⟨rfl, -, rfl⟩ | ⟨rfl, -, rfl⟩ <;> rfl
  have hxN : x.toNatClampNeg = N := by rw [hx]; exact nI_clamp (by omega)
  refine va_newaK C.1 C.2.1 (by rw [e0]; exact hts _ hw) rfl hd rfl (by rw [hx]; exact nI_pos (by omega)) hxN (by rw [e0]; exact Nat.le_trans (Nat.mul_le_mul_left N e0b) (by omega)) hc hs hH.1 fun H1 cA e1 z1 o1 hAr hNm => ?_
  refine kk E p e s0 m args below meth cd C hE H1 locs lm (hH.push ?_ z1 o1) (hS.push (by rw [z1, hH.1]; omega) o1) hl
  have hcA : cA = E.2.2.1 k := by
    have h2 := (hK.2 k _ ht).2
    rw [e0] at hNm
    rcases hk with ⟨rfl, -, rfl⟩ | ⟨rfl, -, rfl⟩ <;> exact Option.some.inj (hNm.symm.trans h2)
  show H1[E.1 + n]? = some (vp_cell (E.2.2.1 k) (N, .inl (fun _ => 0)))
  rw [e1, hcA, e0, e0d]
  rfl
theorem V.anew {k N : Nat} {cn : String} {x : Int32} (hd : decode M.2.1 pc = .ok (.anewarray idx, 3)) (hk : (k = 2 ∧ cn = "FelledByNames$Tree") ∨ (k = 3 ∧ cn = "FelledByNames$Sheet")) (hx : x = nI N) (hN : N < 100000) (hw : Cond.classLink M.1.cls idx cn ∈ tb) (hc : c + 1 ≤ mc) (hs : s + N ≤ ms) (kk : V l M d mc ms (pc + 3) ls (.ref n :: st) (n + 1) (up h n (.inl (k, N, .inr (.inr (.inr (.inr (fun _ => none))))))) (c + 1) (s + N) Q) : V l M d mc ms pc ls (.int x :: st) n h c s Q := by
  intro E p e s0 m args below meth cd C hE H locs lm hH hS hl
  have hts := C.2.2.2.2.2.1
  have hK := C.2.2.2.2.2.2.2.2.1
  have ht : (tys E)[k]? = some (E.2.2.1 k, .object cn) := by rcases hk with ⟨rfl, rfl⟩ | ⟨rfl, rfl⟩ <;> rfl
  have hAO : va_AO cn s0 := by
    rcases hk with ⟨-, rfl⟩ | ⟨-, rfl⟩
    · exact C.2.2.2.2.2.2.2.2.2.2.2.2.2.2.1
    · exact C.2.2.2.2.2.2.2.2.2.2.2.2.2.2.2
  have hxN : x.toNatClampNeg = N := by rw [hx]; exact nI_clamp (by omega)
  subst hxN
  refine W.anew C.1 C.2.1 C.2.2.2.2.1 (hts _ hw) (va_AO.use hAO) rfl hd rfl (by rw [hx]; exact nI_pos (by omega)) (by omega) hc hs fun cA kA comp f1 f2 f3 f4 => ?_
  have hcA : cA = E.2.2.1 k := by
    obtain ⟨kA', comp', k1, k2, k3, k4⟩ := (hK.2 k _ ht).2
    exact Option.some.inj (f1.symm.trans k4)
  have hz : H.size = E.1 + n := hH.1
  rw [hz]
  refine kk E p e s0 m args below meth cd C hE _ locs lm (hH.push ?_ (by rw [Array.size_push, hz]) (fun q hq => by rw [Array.getElem?_push, if_neg (by omega)])) (hS.push (n := n) (by rw [Array.size_push]; omega) (fun q hq => by rw [Array.getElem?_push, if_neg (by omega)])) hl
  show _ = some (vp_cell (E.2.2.1 k) (x.toNatClampNeg, .inr (.inr (.inr (.inr (fun _ => none))))))
  rw [← hz, Array.getElem?_push_size, ← hcA, vp_cell_q]
  congr 1
  exact arrV_new cA x.toNatClampNeg .null
/-- instanceof, by what the tables say -/
theorem V.instY {a ci : Nat} {fs : List Value} {r : vw_C} {nm : String} (hd : decode M.2.1 pc = .ok (.instanceof idx, 3)) (hw : Cond.classLink M.1.cls idx nm ∈ tb) (ha : h a = some (.inr (ci, fs))) (hr : cls[ci]? = some r) (hc : Cond.castable r.1 nm ∈ tb) (kk : V l M d mc ms (pc + 3) ls (.int 1 :: st) n h c s Q) : V l M d mc ms pc ls (.ref a :: st) n h c s Q :=
  fun E p e s0 m args below meth cd C hE H locs lm hH hS hl => va_instY C.1 C.2.1 C.2.2.2.2.1 (C.2.2.2.2.2.1 _ hw) (by have := C.2.2.2.2.2.1 _ hc; exact va_tabs rfl rfl this) (recv_at C hH ha hr) hd (kk E p e s0 m args below meth cd C hE H locs lm hH hS hl)
theorem V.instE {a ci : Nat} {fs : List Value} {r : vw_C} (hd : decode M.2.1 pc = .ok (.instanceof idx, 3)) (ha : h a = some (.inr (ci, fs))) (hr : cls[ci]? = some r) (hw : Cond.classLink M.1.cls idx r.1 ∈ tb) (kk : V l M d mc ms (pc + 3) ls (.int 1 :: st) n h c s Q) : V l M d mc ms pc ls (.ref a :: st) n h c s Q :=
  fun E p e s0 m args below meth cd C hE H locs lm hH hS hl => va_instE C.1 C.2.1 C.2.2.2.2.1 (C.2.2.2.2.2.1 _ hw) (recv_at C hH ha hr) hd (kk E p e s0 m args below meth cd C hE H locs lm hH hS hl)
theorem V.instN {a ci : Nat} {fs : List Value} {r : vw_C} {nm : String} (hd : decode M.2.1 pc = .ok (.instanceof idx, 3)) (hw : Cond.classLink M.1.cls idx nm ∈ tb) (ha : h a = some (.inr (ci, fs))) (hr : cls[ci]? = some r) (hc : (r.1, nm) ∈ ncs) (kk : V l M d mc ms (pc + 3) ls (.int 0 :: st) n h c s Q) : V l M d mc ms pc ls (.ref a :: st) n h c s Q :=
  fun E p e s0 m args below meth cd C hE H locs lm hH hS hl => va_instNo C.1 C.2.1 C.2.2.2.2.1 (C.2.2.2.2.2.1 _ hw) (C.2.2.2.2.2.2.2.2.2.1 _ hc) (recv_at C hH ha hr) hd (kk E p e s0 m args below meth cd C hE H locs lm hH hS hl)
/-! constants: the texts, their bytes, the script -/
theorem V.ldcS {i : Nat} {q : String × Nat × String} (hd : decode M.2.1 pc = .ok (.ldc idx, 2)) (hq : txs[i]? = some q) (h1 : q.1 = M.1.cls) (h2 : q.2.1 = idx) (hi : i < 100) (kk : V l M d mc ms (pc + 2) ls (.float (UInt32.ofNat i) :: st) n h c s Q) : V l M d mc ms pc ls st n h c s Q := by
  intro E p e s0 m args below meth cd C hE H locs lm hH hS hl
  have kk' := kk E p e s0 m args below meth cd C hE H locs lm hH hS hl
  have hR := C.2.2.2.2.2.2.2.2.2.2.2.1 i q hq
  rw [h1, h2] at hR
  have e1 : (UInt32.ofNat i).toNat = i := by rw [UInt32.toNat_ofNat']; exact Nat.mod_eq_of_lt (by omega)
  have kk2 : W p l e (rmd d mc ms) s0 m args below meth cd H locs c s (MQ below (Pst E Q) args s0 mc ms (EA E)) (F0 m (pc + 2) lm (.ref (E.2.1 (UInt32.ofNat i).toNat) :: st.map (tV E))) := kk'
  rw [e1] at kk2
  exact va_ldcS C.1 C.2.1 C.2.2.2.2.1 hR hd kk2
theorem V.getV {i idx : Nat} (hd : decode M.2.1 pc = .ok (.getfield idx, 3)) (hw : Cond.fieldLink M.1.cls idx "java/lang/String" "value" "[B" ∈ tb) (hi : i < 10) (kk : V l M d mc ms (pc + 3) ls (.float (UInt32.ofNat (100 + i)) :: st) n h c s Q) : V l M d mc ms pc ls (.float (UInt32.ofNat i) :: st) n h c s Q := by
  intro E p e s0 m args below meth cd C hE H locs lm hH hS hl
  have kk' := kk E p e s0 m args below meth cd C hE H locs lm hH hS hl
  have e1 : (UInt32.ofNat i).toNat = i := by rw [UInt32.toNat_ofNat']; exact Nat.mod_eq_of_lt (by omega)
  have e2 : (UInt32.ofNat (100 + i)).toNat = 100 + i := by rw [UInt32.toNat_ofNat']; exact Nat.mod_eq_of_lt (by omega)
  obtain ⟨cf, k, fi, f, cell, g1, g2, g3, g4, g5, g6⟩ := (C.2.2.2.2.2.2.2.2.2.2.1.1 i hi).2.2.1
  have hlt : E.2.1 i < E.1 := Nat.not_le.mp g6
  have g3' : H[E.2.1 (UInt32.ofNat i).toNat]? = some cell := by rw [e1, hS.2.1 _ hlt]; exact g3
  exact W.getf C.1 C.2.1 C.2.2.2.2.1 (C.2.2.2.2.2.1 _ hw) g1 g2 g3' g4 (v := tV E (.float (UInt32.ofNat (100 + i)))) (by rw [g5]; show _ = some (Value.ref (E.2.1 (UInt32.ofNat (100 + i)).toNat)); rw [e2]) rfl rfl hd kk'
theorem V.getC {i idx : Nat} (hd : decode M.2.1 pc = .ok (.getfield idx, 3)) (hw : Cond.fieldLink M.1.cls idx "java/lang/String" "coder" "B" ∈ tb) (hi : i < 10) (kk : V l M d mc ms (pc + 3) ls (.int 0 :: st) n h c s Q) : V l M d mc ms pc ls (.float (UInt32.ofNat i) :: st) n h c s Q := by
  intro E p e s0 m args below meth cd C hE H locs lm hH hS hl
  have kk' := kk E p e s0 m args below meth cd C hE H locs lm hH hS hl
  have e1 : (UInt32.ofNat i).toNat = i := by rw [UInt32.toNat_ofNat']; exact Nat.mod_eq_of_lt (by omega)
  obtain ⟨cf, k, fi, f, cell, g1, g2, g3, g4, g5, g6⟩ := (C.2.2.2.2.2.2.2.2.2.2.1.1 i hi).2.1
  have hlt : E.2.1 i < E.1 := Nat.not_le.mp g6
  have g3' : H[E.2.1 (UInt32.ofNat i).toNat]? = some cell := by rw [e1, hS.2.1 _ hlt]; exact g3
  exact W.getf C.1 C.2.1 C.2.2.2.2.1 (C.2.2.2.2.2.1 _ hw) g1 g2 g3' g4 (v := .int 0) g5 rfl rfl hd kk'
theorem V.lenK {i : Nat} {v : Int32} (hd : decode M.2.1 pc = .ok (.arraylength, 1)) (hi : i < 10) (hv : nI (txl.getD i 0) = v) (kk : V l M d mc ms (pc + 1) ls (.int v :: st) n h c s Q) : V l M d mc ms pc ls (.float (UInt32.ofNat (100 + i)) :: st) n h c s Q := by
  intro E p e s0 m args below meth cd C hE H locs lm hH hS hl
  have kk' := kk E p e s0 m args below meth cd C hE H locs lm hH hS hl
  have e2 : (UInt32.ofNat (100 + i)).toNat = 100 + i := by rw [UInt32.toNat_ofNat']; exact Nat.mod_eq_of_lt (by omega)
  obtain ⟨cell, g1, g2, g3, g4, g5, g6, g7⟩ := (C.2.2.2.2.2.2.2.2.2.2.1.1 i hi).2.2.2
  have hlt : E.2.1 (100 + i) < E.1 := Nat.not_le.mp g7
  exact W.alen (n := v) C.1 C.2.1 (a := E.2.1 (UInt32.ofNat (100 + i)).toNat) (by rw [e2, hS.2.1 _ hlt]; exact g1) g2 (by rw [g5]; exact hv) rfl rfl hd kk'
theorem V.baldK {i : Nat} {j : Int32} {v : Int32} (hd : decode M.2.1 pc = .ok (.baload, 1)) (hi : i < 10) (hin : vp_in j (txl.getD i 0)) (hv : (txb.getD i []).getD j.toNatClampNeg 0 = v) (kk : V l M d mc ms (pc + 1) ls (.int v :: st) n h c s Q) : V l M d mc ms pc ls (.int j :: .float (UInt32.ofNat (100 + i)) :: st) n h c s Q := by
  intro E p e s0 m args below meth cd C hE H locs lm hH hS hl
  have kk' := kk E p e s0 m args below meth cd C hE H locs lm hH hS hl
  have e2 : (UInt32.ofNat (100 + i)).toNat = 100 + i := by rw [UInt32.toNat_ofNat']; exact Nat.mod_eq_of_lt (by omega)
  obtain ⟨cell, g1, g2, g3, g4, g5, g6, g7⟩ := (C.2.2.2.2.2.2.2.2.2.2.1.1 i hi).2.2.2
  have hlt : E.2.1 (100 + i) < E.1 := Nat.not_le.mp g7
  have hj : j.toNatClampNeg < txl.getD i 0 := Nat.not_le.mp fun q => hin (Or.inr q)
  exact W.bald (v := .int v) C.1 C.2.1 (a := E.2.1 (UInt32.ofNat (100 + i)).toNat) (by rw [e2, hS.2.1 _ hlt]; exact g1) g2 g3 (fun q => hin (q.imp id (fun z => Nat.le_trans g4 z))) (by rw [g6 _ hj, ← hv]) rfl rfl hd kk'
theorem V.getsC {idx : Nat} (hd : decode M.2.1 pc = .ok (.getstatic idx, 3)) (hw : Cond.fieldLink M.1.cls idx "java/lang/String" "COMPACT_STRINGS" "Z" ∈ tb) (kk : V l M d mc ms (pc + 3) ls (.int 1 :: st) n h c s Q) : V l M d mc ms pc ls st n h c s Q :=
  fun E p e s0 m args below meth cd C hE H locs lm hH hS hl => va_gets (A := EA E) C.1 C.2.1 (v := .int 1) C.2.2.2.2.2.2.2.2.2.2.2.2.1 hS.va C.2.2.2.2.1 (C.2.2.2.2.2.1 _ hw) (fun _ hx => hx) hd (kk E p e s0 m args below meth cd C hE H locs lm hH hS hl)
/-- the script's length, and its ints -/
theorem V.lenX {L : Nat} {xs : Nat → Int32} (hM : M.2.2.2.2 = fun E => E.2.2.2.2 = (L, xs)) (hd : decode M.2.1 pc = .ok (.arraylength, 1)) (kk : V l M d mc ms (pc + 1) ls (.int (nI L) :: st) n h c s Q) : V l M d mc ms pc ls (.float 200 :: st) n h c s Q := by
  intro E p e s0 m args below meth cd C hE H locs lm hH hS hl
  have kk' := kk E p e s0 m args below meth cd C hE H locs lm hH hS hl
  have hE2 : E.2.2.2.2 = (L, xs) := by rw [hM] at hE; exact hE
  have hT := C.2.2.2.2.2.2.2.2.2.2.2.2.2.1
  rw [hE2] at hT
  exact va_tlen C.1 C.2.1 hT hS.va (v := nI L) rfl hd kk'
theorem V.ialdX {L : Nat} {xs : Nat → Int32} {i : Int32} (hM : M.2.2.2.2 = fun E => E.2.2.2.2 = (L, xs)) (hd : decode M.2.1 pc = .ok (.iaload, 1)) (hin : vp_in i L) (kk : V l M d mc ms (pc + 1) ls (.int (xs i.toNatClampNeg) :: st) n h c s Q) : V l M d mc ms pc ls (.int i :: .float 200 :: st) n h c s Q := by
  intro E p e s0 m args below meth cd C hE H locs lm hH hS hl
  have kk' := kk E p e s0 m args below meth cd C hE H locs lm hH hS hl
  have hE2 : E.2.2.2.2 = (L, xs) := by rw [hM] at hE; exact hE
  have hT := C.2.2.2.2.2.2.2.2.2.2.2.2.2.1
  rw [hE2] at hT
  exact va_ti C.1 C.2.1 hT hS.va hin (v := .int (xs i.toNatClampNeg)) rfl hd kk'
end VN
end
section
theorem nn_clamp (z : Int32) (hz : ¬ z < 0) : z.toInt = (z.toNatClampNeg : Int) := by
  have hz0 : (0 : Int) ≤ z.toInt := by
    have := Int32.not_lt.mp hz
    simpa using Int32.le_iff_toInt_le.mp this
  show z.toInt = ((z.toInt.toNat : Nat) : Int)
  omega
/-- System.arraycopy over rows of ints -/
theorem V.copy {l : Launch} {M : MD} {d mc ms pc idx : Nat} {ls : List (Nat × Value)} {st : List Value} {n : Nat} {h : HP} {c s : Nat} {Q : QT} {a0 a1 n0 n1 : Nat} {f g : Nat → Int32} {sp dp k : Int32} (hd : decode M.2.1 pc = .ok (.invokestatic idx, 3)) (hw : Cond.methodLink M.1.cls idx arraycopyName ∈ tb) (ha0 : h a0 = some (.inl (0, n0, .inl f))) (ha1 : h a1 = some (.inl (0, n1, .inl g)))
    (h1 : ¬ sp < 0) (h2 : ¬ dp < 0) (h3 : ¬ k < 0) (h4 : sp.toNatClampNeg + k.toNatClampNeg ≤ n0) (h5 : dp.toNatClampNeg + k.toNatClampNeg ≤ n1) (hs : (st.map fun v => v.category).sum ≤ 8)
    (kk : V l M (d + 1) mc ms (pc + 3) ls st n (up h a1 (.inl (0, n1, .inl (va_cpy f g sp.toNatClampNeg dp.toNatClampNeg k.toNatClampNeg)))) c s Q) : V l M (d + 1) mc ms pc ls (.int k :: .int dp :: .ref a1 :: .int sp :: .ref a0 :: st) n h c s Q := by
  intro E p e s0 m args below meth cd C hE H locs lm hH hS hl
  have hts := C.2.2.2.2.2.1
  have hK := C.2.2.2.2.2.2.2.2.1
  have hc0 : H[E.1 + a0]? = some (vp_cell (E.2.2.1 0) (n0, .inl f)) := (hH.2 _ _ ha0).2
  have hc1 : H[E.1 + a1]? = some (vp_cell (E.2.2.1 0) (n1, .inl g)) := (hH.2 _ _ ha1).2
  intro T hT X
  obtain ⟨-, k0, hk0, cm0, hkk0⟩ := (hK.2 0 _ rfl).1 n0 (fun j => .int (f j))
  obtain ⟨-, k1, hk1, cm1, hkk1⟩ := (hK.2 0 _ rfl).1 n1 (fun j => .int (g j))
  obtain ⟨vm', X', step⟩ := X.arraycopy C.1 C.2.2.2.2.1 (hts _ hw) (hts _ (tm 409 (by decide +kernel) rfl)) (hts _ (tm 408 (by decide +kernel) rfl)) (hts _ (tm 12 (by decide +kernel) rfl)) (src := E.1 + a0) (dst := E.1 + a1) (cs := vp_cell (E.2.2.1 0) (n0, .inl f)) (cd := vp_cell (E.2.2.1 0) (n1, .inl g)) (srcPos := sp) (destPos := dp) (n := k) (by rw [hT]; exact hc0) (by rw [hT]; exact hc1)
    (fun _ h => by cases h) (fun _ h => by cases h) (fun h => by cases h) (fun h => by cases h) hk0 hk1 hkk0 hkk1 (by simp [refKind]) h1 h2 h3
    (by rw [nn_clamp sp h1, nn_clamp k h3]; show ¬ _ > ((arrV (E.2.2.1 0) n0 (fun j => .int (f j))).slots.size : Int); rw [arrV_size]; omega)
    (by rw [nn_clamp dp h2, nn_clamp k h3]; show ¬ _ > ((arrV (E.2.2.1 0) n1 (fun j => .int (g j))).slots.size : Int); rw [arrV_size]; omega)
    (fun vm₁ _ i hi => by
      have e : (vp_cell (E.2.2.1 0) (n0, .inl f)).slots.getD (sp.toNatClampNeg + i) .null = .int (f (sp.toNatClampNeg + i)) := by
        show (arrV (E.2.2.1 0) n0 (fun j => .int (f j))).slots.getD _ _ = _
        rw [Array.getD_eq_getD_getElem?, arrV_read _ _ (by omega)]
        rfl
      rw [e]
      exact ⟨rfl, trivial⟩)
    (g := F0 m pc lm (.int k :: .int dp :: .ref (E.1 + a1) :: .int sp :: .ref (E.1 + a0) :: st.map (tV E))) rfl (by rw [C.2.2.1]; exact hl.1) (rest := st.map (tV E)) rfl (by rw [C.2.1]; exact hd) (Nat.succ_le_succ (Nat.zero_le _)) (by
      have hx := cat_sum E st
      show 2 * 0 + ((st.map (tV E)).map fun v => v.category).sum + (nativeFrameWords "java/lang/System" "arraycopy" 5 + 11) ≤ 64 * (d + 1)
      have hy : nativeFrameWords "java/lang/System" "arraycopy" 5 ≤ 30 := by decide +kernel
      omega)
  have e1 : copied (vp_cell (E.2.2.1 0) (n0, .inl f)) (vp_cell (E.2.2.1 0) (n1, .inl g)) sp dp k = vp_cell (E.2.2.1 0) (n1, .inl (va_cpy f g sp.toNatClampNeg dp.toNatClampNeg k.toNatClampNeg)) := va_copied (fun z => .int z) _ _ f g h4
  rw [e1] at X' step
  generalize hC1 : vp_cell (E.2.2.1 0) (n1, .inl (va_cpy f g sp.toNatClampNeg dp.toNatClampNeg k.toNatClampNeg)) = C1 at X' step
  have hlt : E.1 + a1 < H.size := (Array.getElem?_eq_some_iff.mp hc1).1
  have hheap : ((T.setVm vm').setCell (E.1 + a1) C1).heap = H.setIfInBounds (E.1 + a1) C1 := by rw [← hT]; rfl
  have oq : ∀ q : Nat, q ≠ E.1 + a1 → (H.setIfInBounds (E.1 + a1) C1)[q]? = H[q]? := fun q hq => by simp [Array.getElem?_setIfInBounds, Ne.symm hq]
  have hz : (H.setIfInBounds (E.1 + a1) C1).size = H.size := by simp
  obtain ⟨t, b1, b2⟩ := kk E p e s0 m args below meth cd C hE (H.setIfInBounds (E.1 + a1) C1) _ lm (hH.set ha1 (by
      show (H.setIfInBounds (E.1 + a1) C1)[E.1 + a1]? = some (vp_cell (E.2.2.1 0) (n1, .inl (va_cpy f g sp.toNatClampNeg dp.toNatClampNeg k.toNatClampNeg)))
      rw [hC1]
      simp [Array.getElem?_setIfInBounds, hlt]) hz oq) ⟨hS.1, fun q hq => (oq q (by omega)).trans (hS.2.1 q hq), fun x hx => by
      rcases List.mem_append.mp hx with hx | hx
      · exact hS.2.2.1 x hx
      · obtain ⟨z, -, hz⟩ := List.mem_map.mp hx
        rw [← hz]
        exact Nat.le_add_right _ _, by rw [hz]; exact hS.2.2.2⟩ hl _ hheap X'
  exact ⟨t, step t b1, b2⟩
end
section
/-! ===== numbers that are small and not below 0; truth as 0 and 1 ===== -/
def bi (b : Bool) : Int32 := if b then 1 else 0
theorem bi_0 {b : Bool} (h : bi b = 0) : b = false := by cases b <;> first | rfl | exact absurd h (by decide)
theorem bi_n {b : Bool} (h : ¬ bi b = 0) : b = true := by cases b <;> first | rfl | exact absurd rfl h
theorem bi_nar (b : Bool) : narrow .boolean (.int (bi b)) = .int (bi b) := by cases b <;> rfl
def wi (x lo hi : Int32) : Bool := decide (lo ≤ x) && decide (x ≤ hi)
theorem wi_t {x lo hi : Int32} (h : wi x lo hi = true) : lo ≤ x ∧ x ≤ hi := by
  simp only [wi, Bool.and_eq_true, decide_eq_true_eq] at h
  exact h
theorem wi_nat {x : Int32} {k : Nat} (hk : k < 2 ^ 31) (h : wi x 0 (nI k) = true) : ∃ i, i ≤ k ∧ x = nI i := by
  obtain ⟨h1, h2⟩ := wi_t h
  exact nI_of2 (nI_toInt hk) (Int32.not_lt.mpr h1) h2
theorem i64_le (x y : Int32) : x.toInt64 ≤ y.toInt64 ↔ x ≤ y := by
  rw [Int64.le_iff_toInt_le, Int32.le_iff_toInt_le, Int32.toInt_toInt64, Int32.toInt_toInt64]
theorem wi_ofN {i lo hi : Nat} (hl : lo < 2 ^ 31) (hi' : i < 2 ^ 31) (hh : hi < 2 ^ 31) : wi (nI i) (nI lo) (nI hi) = (decide (lo ≤ i) && decide (i ≤ hi)) := by
  simp only [wi, nI_leI hl hi', nI_leI hi' hh]
section VB
variable {l : Launch} {M : MD} {d mc ms pc : Nat} {ls : List (Nat × Value)} {st : List Value} {n : Nat} {h : HP} {c s : Nat} {Q : QT}
theorem V.eqS {st' : List Value} (hs : st = st') (k : V l M d mc ms pc ls st' n h c s Q) : V l M d mc ms pc ls st n h c s Q := hs ▸ k
theorem V.eqH {h' : HP} (hs : h = h') (k : V l M d mc ms pc ls st n h' c s Q) : V l M d mc ms pc ls st n h c s Q := hs ▸ k
/-- the top of the stack by another name -/
theorem V.top {x y : Int32} (hs : x = y) (k : V l M d mc ms pc ls (.int y :: st) n h c s Q) : V l M d mc ms pc ls (.int x :: st) n h c s Q := by rw [hs]; exact k
theorem V.topg {x : Int32} (k : ∀ y, y = x → V l M d mc ms pc ls (.int y :: st) n h c s Q) : V l M d mc ms pc ls (.int x :: st) n h c s Q := k x rfl
theorem V.addN {a b : Nat} (hd : decode M.2.1 pc = .ok (.iadd, 1)) (k : V l M d mc ms (pc + 1) ls (.int (nI (a + b)) :: st) n h c s Q) : V l M d mc ms pc ls (.int (nI b) :: .int (nI a) :: st) n h c s Q := V.iadd hd (V.top (nI_add a b) k)
theorem V.mulN {a b : Nat} (hd : decode M.2.1 pc = .ok (.imul, 1)) (k : V l M d mc ms (pc + 1) ls (.int (nI (a * b)) :: st) n h c s Q) : V l M d mc ms pc ls (.int (nI b) :: .int (nI a) :: st) n h c s Q := V.imul hd (V.top (pk_mul a b) k)
theorem V.subN {a b : Nat} (hd : decode M.2.1 pc = .ok (.isub, 1)) (hab : b ≤ a) (k : V l M d mc ms (pc + 1) ls (.int (nI (a - b)) :: st) n h c s Q) : V l M d mc ms pc ls (.int (nI b) :: .int (nI a) :: st) n h c s Q := V.isub hd (V.top (pk_sub hab) k)
theorem V.divN {a b : Nat} (hd : decode M.2.1 pc = .ok (.idiv, 1)) (ha : a < 2 ^ 31) (h0 : 0 < b) (hb : b < 2 ^ 31) (k : V l M d mc ms (pc + 1) ls (.int (nI (a / b)) :: st) n h c s Q) : V l M d mc ms pc ls (.int (nI b) :: .int (nI a) :: st) n h c s Q := V.idiv hd (nI_ne0 h0 hb) (V.top (pk_div ha h0 hb) k)
theorem V.remN {a b : Nat} (hd : decode M.2.1 pc = .ok (.irem, 1)) (ha : a < 2 ^ 31) (h0 : 0 < b) (hb : b < 2 ^ 31) (k : V l M d mc ms (pc + 1) ls (.int (nI (a % b)) :: st) n h c s Q) : V l M d mc ms pc ls (.int (nI b) :: .int (nI a) :: st) n h c s Q := V.irem hd (nI_ne0 h0 hb) (V.top (pk_rem ha h0 hb) k)
theorem V.incN {i a : Nat} (hd : decode M.2.1 pc = .ok (.iinc i 1, 3)) (hv : lkp ls i = some (.int (nI a))) (hn : i < M.2.2.1) (k : V l M d mc ms (pc + 3) (sto ls i (.int (nI (a + 1)))) st n h c s Q) : V l M d mc ms pc ls st n h c s Q := V.iinc hd hv (nI_1 a) hn k
theorem V.decN {i a : Nat} (hd : decode M.2.1 pc = .ok (.iinc i (-1), 3)) (hv : lkp ls i = some (.int (nI a))) (ha : 0 < a) (hn : i < M.2.2.1) (k : V l M d mc ms (pc + 3) (sto ls i (.int (nI (a - 1)))) st n h c s Q) : V l M d mc ms pc ls st n h c s Q := V.iinc hd hv (sb_m1 ha) hn k
/-- a loop that counts up: G k the walk at its head with k done -/
theorem up_to {G : Nat → Prop} (N : Nat) (he : G N) (hs : ∀ k, k < N → G (k + 1) → G k) : ∀ k, k ≤ N → G k := by
  intro k hk
  induction hm : N - k generalizing k with
  | zero => rw [show k = N by omega]; exact he
  | succ m ih => exact hs k (by omega) (ih (k + 1) (by omega) (by omega))
theorem icl {i : Nat} (hi : i < 2 ^ 31) : (nI i).toNatClampNeg = i := nI_clamp hi
theorem V.ialdN {a N i : Nat} {f : Nat → Int32} (hd : decode M.2.1 pc = .ok (.iaload, 1)) (ha : h a = some (.inl (0, N, .inl f))) (hi : i < N) (hN : N < 2 ^ 31) (kk : V l M d mc ms (pc + 1) ls (.int (f i) :: st) n h c s Q) : V l M d mc ms pc ls (.int (nI i) :: .ref a :: st) n h c s Q := by
  refine V.iald hd ha (vp_in_nI hi hN) ?_
  rw [icl (Nat.lt_trans hi hN)]
  exact kk
theorem V.iastN {a N i : Nat} {f : Nat → Int32} {x : Int32} (hd : decode M.2.1 pc = .ok (.iastore, 1)) (ha : h a = some (.inl (0, N, .inl f))) (hi : i < N) (hN : N < 2 ^ 31) (kk : V l M d mc ms (pc + 1) ls st n (up h a (.inl (0, N, .inl (upd f i x)))) c s Q) : V l M d mc ms pc ls (.int x :: .int (nI i) :: .ref a :: st) n h c s Q := by
  refine V.iast hd ha (vp_in_nI hi hN) ?_
  rw [icl (Nat.lt_trans hi hN)]
  exact kk
theorem V.geN {a b : Nat} {off : Int} {tgt : Nat} (hd : decode M.2.1 pc = .ok (.if_icmp .ge off, 3)) (ht : (pc : Int) + off = (tgt : Int)) (ha : a < 2 ^ 31) (hb : b < 2 ^ 31) (kt : b ≤ a → V l M d mc ms tgt ls st n h c s Q) (kf : a < b → V l M d mc ms (pc + 3) ls st n h c s Q) : V l M d mc ms pc ls (.int (nI b) :: .int (nI a) :: st) n h c s Q :=
  V.icmp_ge hd ht (fun q => kt ((nI_leI hb ha).mp q)) (fun q => kf (Nat.not_le.mp fun z => q ((nI_leI hb ha).mpr z)))
theorem V.neN {a b : Nat} {off : Int} {tgt : Nat} (hd : decode M.2.1 pc = .ok (.if_icmp .ne off, 3)) (ht : (pc : Int) + off = (tgt : Int)) (ha : a < 2 ^ 31) (hb : b < 2 ^ 31) (kt : a ≠ b → V l M d mc ms tgt ls st n h c s Q) (kf : a = b → V l M d mc ms (pc + 3) ls st n h c s Q) : V l M d mc ms pc ls (.int (nI b) :: .int (nI a) :: st) n h c s Q :=
  V.icmp_ne hd ht (fun q => kt (fun z => q (by rw [z]))) (fun q => kf ((nI_eq ha hb).mp q))
theorem V.eqN {a b : Nat} {off : Int} {tgt : Nat} (hd : decode M.2.1 pc = .ok (.if_icmp .eq off, 3)) (ht : (pc : Int) + off = (tgt : Int)) (ha : a < 2 ^ 31) (hb : b < 2 ^ 31) (kt : a = b → V l M d mc ms tgt ls st n h c s Q) (kf : a ≠ b → V l M d mc ms (pc + 3) ls st n h c s Q) : V l M d mc ms pc ls (.int (nI b) :: .int (nI a) :: st) n h c s Q :=
  V.icmp_eq hd ht (fun q => kt ((nI_eq ha hb).mp q)) (fun q => kf (fun z => q (by rw [z])))
theorem V.leN {a b : Nat} {off : Int} {tgt : Nat} (hd : decode M.2.1 pc = .ok (.if_icmp .le off, 3)) (ht : (pc : Int) + off = (tgt : Int)) (ha : a < 2 ^ 31) (hb : b < 2 ^ 31) (kt : a ≤ b → V l M d mc ms tgt ls st n h c s Q) (kf : b < a → V l M d mc ms (pc + 3) ls st n h c s Q) : V l M d mc ms pc ls (.int (nI b) :: .int (nI a) :: st) n h c s Q :=
  V.icmp_le hd ht (fun q => kt ((nI_leI ha hb).mp q)) (fun q => kf (Nat.not_le.mp fun z => q ((nI_leI ha hb).mpr z)))
theorem V.ltN {a b : Nat} {off : Int} {tgt : Nat} (hd : decode M.2.1 pc = .ok (.if_icmp .lt off, 3)) (ht : (pc : Int) + off = (tgt : Int)) (ha : a < 2 ^ 31) (hb : b < 2 ^ 31) (kt : a < b → V l M d mc ms tgt ls st n h c s Q) (kf : b ≤ a → V l M d mc ms (pc + 3) ls st n h c s Q) : V l M d mc ms pc ls (.int (nI b) :: .int (nI a) :: st) n h c s Q :=
  V.icmp_lt hd ht (fun q => kt ((nI_ltI ha hb).mp q)) (fun q => kf (Nat.not_lt.mp fun z => q ((nI_ltI ha hb).mpr z)))
theorem V.gtN {a b : Nat} {off : Int} {tgt : Nat} (hd : decode M.2.1 pc = .ok (.if_icmp .gt off, 3)) (ht : (pc : Int) + off = (tgt : Int)) (ha : a < 2 ^ 31) (hb : b < 2 ^ 31) (kt : b < a → V l M d mc ms tgt ls st n h c s Q) (kf : a ≤ b → V l M d mc ms (pc + 3) ls st n h c s Q) : V l M d mc ms pc ls (.int (nI b) :: .int (nI a) :: st) n h c s Q :=
  V.icmp_gt hd ht (fun q => kt ((nI_ltI hb ha).mp q)) (fun q => kf (Nat.not_lt.mp fun z => q ((nI_ltI hb ha).mpr z)))
theorem V.lcmp {x y : Int64} (hd : decode M.2.1 pc = .ok (.lcmp, 1)) (k : V l M d mc ms (pc + 1) ls (.int (lg_cmp x y) :: st) n h c s Q) : V l M d mc ms pc ls (.long y :: .long x :: st) n h c s Q :=
  fun E p e s0 m args below meth cd C hE H locs lm hH hS hl => W.lcmp C.1 C.2.1 hd (k E p e s0 m args below meth cd C hE H locs lm hH hS hl)
theorem V.ifeqB {b : Bool} {off : Int} {tgt : Nat} (hd : decode M.2.1 pc = .ok (.ifCond .eq off, 3)) (ht : (pc : Int) + off = (tgt : Int)) (kt : b = false → V l M d mc ms tgt ls st n h c s Q) (kf : b = true → V l M d mc ms (pc + 3) ls st n h c s Q) : V l M d mc ms pc ls (.int (bi b) :: st) n h c s Q :=
  V.if_eq hd ht (fun q => kt (bi_0 q)) (fun q => kf (bi_n q))
theorem V.ifneB {b : Bool} {off : Int} {tgt : Nat} (hd : decode M.2.1 pc = .ok (.ifCond .ne off, 3)) (ht : (pc : Int) + off = (tgt : Int)) (kt : b = true → V l M d mc ms tgt ls st n h c s Q) (kf : b = false → V l M d mc ms (pc + 3) ls st n h c s Q) : V l M d mc ms pc ls (.int (bi b) :: st) n h c s Q :=
  V.if_ne hd ht (fun q => kt (bi_n q)) (fun q => kf (bi_0 q))
theorem V.bret {b : Bool} (hd : decode M.2.1 pc = .ok (.ireturn, 1)) (hr : M.2.2.2.1 = some .boolean) (hc : c ≤ mc) (hs : s ≤ ms) (q : Q (some (.int (bi b))) n h) : V l M d mc ms pc ls [.int (bi b)] n h c s Q := V.zret hd hr (bi_nar b) hc hs q
end VB
/-! calls with so many arguments -/
section VK
variable {l : Launch} {M M' : MD} {d mc ms mc' ms' pc idx : Nat} {ls : List (Nat × Value)} {st : List Value} {n : Nat} {h : HP} {c s : Nat} {Q : QT}
theorem V.callS0 (hd : decode M.2.1 pc = .ok (.invokestatic idx, 3)) (K : kS M.1.cls idx M' 0) (hw : (st.map fun v => v.category).sum ≤ 8) (hc : c + mc' ≤ mc) (hs : s + ms' ≤ ms) (hM : Ct l M' d mc' ms' [] n h (fun r n' h' => V l M (d + 1) mc ms (pc + 3) ls (pu r st) n' h' (c + mc') (s + ms') Q)) : V l M (d + 1) mc ms pc ls (st) n h c s Q :=
  V.callS (vs := []) hd K rfl rfl hw hc hs hM
theorem V.callS1 {a : Value} (hd : decode M.2.1 pc = .ok (.invokestatic idx, 3)) (K : kS M.1.cls idx M' 1) (hw : (st.map fun v => v.category).sum ≤ 8) (hc : c + mc' ≤ mc) (hs : s + ms' ≤ ms) (hM : Ct l M' d mc' ms' [a] n h (fun r n' h' => V l M (d + 1) mc ms (pc + 3) ls (pu r st) n' h' (c + mc') (s + ms') Q)) : V l M (d + 1) mc ms pc ls (a :: st) n h c s Q :=
  V.callS (vs := [a]) hd K rfl rfl hw hc hs hM
theorem V.callS2 {a b : Value} (hd : decode M.2.1 pc = .ok (.invokestatic idx, 3)) (K : kS M.1.cls idx M' 2) (hw : (st.map fun v => v.category).sum ≤ 8) (hc : c + mc' ≤ mc) (hs : s + ms' ≤ ms) (hM : Ct l M' d mc' ms' [a, b] n h (fun r n' h' => V l M (d + 1) mc ms (pc + 3) ls (pu r st) n' h' (c + mc') (s + ms') Q)) : V l M (d + 1) mc ms pc ls (b :: a :: st) n h c s Q :=
  V.callS (vs := [a, b]) hd K rfl rfl hw hc hs hM
theorem V.callS3 {a b c1 : Value} (hd : decode M.2.1 pc = .ok (.invokestatic idx, 3)) (K : kS M.1.cls idx M' 3) (hw : (st.map fun v => v.category).sum ≤ 8) (hc : c + mc' ≤ mc) (hs : s + ms' ≤ ms) (hM : Ct l M' d mc' ms' [a, b, c1] n h (fun r n' h' => V l M (d + 1) mc ms (pc + 3) ls (pu r st) n' h' (c + mc') (s + ms') Q)) : V l M (d + 1) mc ms pc ls (c1 :: b :: a :: st) n h c s Q :=
  V.callS (vs := [a, b, c1]) hd K rfl rfl hw hc hs hM
theorem V.callS4 {a b c1 d1 : Value} (hd : decode M.2.1 pc = .ok (.invokestatic idx, 3)) (K : kS M.1.cls idx M' 4) (hw : (st.map fun v => v.category).sum ≤ 8) (hc : c + mc' ≤ mc) (hs : s + ms' ≤ ms) (hM : Ct l M' d mc' ms' [a, b, c1, d1] n h (fun r n' h' => V l M (d + 1) mc ms (pc + 3) ls (pu r st) n' h' (c + mc') (s + ms') Q)) : V l M (d + 1) mc ms pc ls (d1 :: c1 :: b :: a :: st) n h c s Q :=
  V.callS (vs := [a, b, c1, d1]) hd K rfl rfl hw hc hs hM
theorem V.callS5 {a b c1 d1 e1 : Value} (hd : decode M.2.1 pc = .ok (.invokestatic idx, 3)) (K : kS M.1.cls idx M' 5) (hw : (st.map fun v => v.category).sum ≤ 8) (hc : c + mc' ≤ mc) (hs : s + ms' ≤ ms) (hM : Ct l M' d mc' ms' [a, b, c1, d1, e1] n h (fun r n' h' => V l M (d + 1) mc ms (pc + 3) ls (pu r st) n' h' (c + mc') (s + ms') Q)) : V l M (d + 1) mc ms pc ls (e1 :: d1 :: c1 :: b :: a :: st) n h c s Q :=
  V.callS (vs := [a, b, c1, d1, e1]) hd K rfl rfl hw hc hs hM
theorem V.callSN0 (hd : decode M.2.1 pc = .ok (.invokestatic idx, 3)) (K : kSN M.1.cls idx M' 0) (hw : (st.map fun v => v.category).sum ≤ 8) (hc : c + mc' ≤ mc) (hs : s + ms' ≤ ms) (hM : Ct l M' d mc' ms' [] n h (fun r n' h' => V l M (d + 1) mc ms (pc + 3) ls (pu r st) n' h' (c + mc') (s + ms') Q)) : V l M (d + 1) mc ms pc ls (st) n h c s Q :=
  V.callSN (vs := []) hd K rfl rfl hw hc hs hM
theorem V.callSN1 {a : Value} (hd : decode M.2.1 pc = .ok (.invokestatic idx, 3)) (K : kSN M.1.cls idx M' 1) (hw : (st.map fun v => v.category).sum ≤ 8) (hc : c + mc' ≤ mc) (hs : s + ms' ≤ ms) (hM : Ct l M' d mc' ms' [a] n h (fun r n' h' => V l M (d + 1) mc ms (pc + 3) ls (pu r st) n' h' (c + mc') (s + ms') Q)) : V l M (d + 1) mc ms pc ls (a :: st) n h c s Q :=
  V.callSN (vs := [a]) hd K rfl rfl hw hc hs hM
theorem V.callSN2 {a b : Value} (hd : decode M.2.1 pc = .ok (.invokestatic idx, 3)) (K : kSN M.1.cls idx M' 2) (hw : (st.map fun v => v.category).sum ≤ 8) (hc : c + mc' ≤ mc) (hs : s + ms' ≤ ms) (hM : Ct l M' d mc' ms' [a, b] n h (fun r n' h' => V l M (d + 1) mc ms (pc + 3) ls (pu r st) n' h' (c + mc') (s + ms') Q)) : V l M (d + 1) mc ms pc ls (b :: a :: st) n h c s Q :=
  V.callSN (vs := [a, b]) hd K rfl rfl hw hc hs hM
theorem V.callSN3 {a b c1 : Value} (hd : decode M.2.1 pc = .ok (.invokestatic idx, 3)) (K : kSN M.1.cls idx M' 3) (hw : (st.map fun v => v.category).sum ≤ 8) (hc : c + mc' ≤ mc) (hs : s + ms' ≤ ms) (hM : Ct l M' d mc' ms' [a, b, c1] n h (fun r n' h' => V l M (d + 1) mc ms (pc + 3) ls (pu r st) n' h' (c + mc') (s + ms') Q)) : V l M (d + 1) mc ms pc ls (c1 :: b :: a :: st) n h c s Q :=
  V.callSN (vs := [a, b, c1]) hd K rfl rfl hw hc hs hM
theorem V.callSN4 {a b c1 d1 : Value} (hd : decode M.2.1 pc = .ok (.invokestatic idx, 3)) (K : kSN M.1.cls idx M' 4) (hw : (st.map fun v => v.category).sum ≤ 8) (hc : c + mc' ≤ mc) (hs : s + ms' ≤ ms) (hM : Ct l M' d mc' ms' [a, b, c1, d1] n h (fun r n' h' => V l M (d + 1) mc ms (pc + 3) ls (pu r st) n' h' (c + mc') (s + ms') Q)) : V l M (d + 1) mc ms pc ls (d1 :: c1 :: b :: a :: st) n h c s Q :=
  V.callSN (vs := [a, b, c1, d1]) hd K rfl rfl hw hc hs hM
theorem V.callSN5 {a b c1 d1 e1 : Value} (hd : decode M.2.1 pc = .ok (.invokestatic idx, 3)) (K : kSN M.1.cls idx M' 5) (hw : (st.map fun v => v.category).sum ≤ 8) (hc : c + mc' ≤ mc) (hs : s + ms' ≤ ms) (hM : Ct l M' d mc' ms' [a, b, c1, d1, e1] n h (fun r n' h' => V l M (d + 1) mc ms (pc + 3) ls (pu r st) n' h' (c + mc') (s + ms') Q)) : V l M (d + 1) mc ms pc ls (e1 :: d1 :: c1 :: b :: a :: st) n h c s Q :=
  V.callSN (vs := [a, b, c1, d1, e1]) hd K rfl rfl hw hc hs hM
theorem V.callV0 {x0 ci : Nat} {fs : List Value} (hd : decode M.2.1 pc = .ok (.invokevirtual idx, 3)) (K : kV M.1.cls idx ci M' 0) (hb : h x0 = some (.inr (ci, fs))) (hw : (st.map fun v => v.category).sum ≤ 8) (hc : c + mc' ≤ mc) (hs : s + ms' ≤ ms) (hM : Ct l M' d mc' ms' [.ref x0] n h (fun r n' h' => V l M (d + 1) mc ms (pc + 3) ls (pu r st) n' h' (c + mc') (s + ms') Q)) : V l M (d + 1) mc ms pc ls (.ref x0 :: st) n h c s Q :=
  V.callV (vs := []) hd K hb rfl rfl hw hc hs hM
theorem V.callV1 {x0 ci : Nat} {fs : List Value} {a : Value} (hd : decode M.2.1 pc = .ok (.invokevirtual idx, 3)) (K : kV M.1.cls idx ci M' 1) (hb : h x0 = some (.inr (ci, fs))) (hw : (st.map fun v => v.category).sum ≤ 8) (hc : c + mc' ≤ mc) (hs : s + ms' ≤ ms) (hM : Ct l M' d mc' ms' [.ref x0, a] n h (fun r n' h' => V l M (d + 1) mc ms (pc + 3) ls (pu r st) n' h' (c + mc') (s + ms') Q)) : V l M (d + 1) mc ms pc ls (a :: .ref x0 :: st) n h c s Q :=
  V.callV (vs := [a]) hd K hb rfl rfl hw hc hs hM
theorem V.callV2 {x0 ci : Nat} {fs : List Value} {a b : Value} (hd : decode M.2.1 pc = .ok (.invokevirtual idx, 3)) (K : kV M.1.cls idx ci M' 2) (hb : h x0 = some (.inr (ci, fs))) (hw : (st.map fun v => v.category).sum ≤ 8) (hc : c + mc' ≤ mc) (hs : s + ms' ≤ ms) (hM : Ct l M' d mc' ms' [.ref x0, a, b] n h (fun r n' h' => V l M (d + 1) mc ms (pc + 3) ls (pu r st) n' h' (c + mc') (s + ms') Q)) : V l M (d + 1) mc ms pc ls (b :: a :: .ref x0 :: st) n h c s Q :=
  V.callV (vs := [a, b]) hd K hb rfl rfl hw hc hs hM
theorem V.callV3 {x0 ci : Nat} {fs : List Value} {a b c1 : Value} (hd : decode M.2.1 pc = .ok (.invokevirtual idx, 3)) (K : kV M.1.cls idx ci M' 3) (hb : h x0 = some (.inr (ci, fs))) (hw : (st.map fun v => v.category).sum ≤ 8) (hc : c + mc' ≤ mc) (hs : s + ms' ≤ ms) (hM : Ct l M' d mc' ms' [.ref x0, a, b, c1] n h (fun r n' h' => V l M (d + 1) mc ms (pc + 3) ls (pu r st) n' h' (c + mc') (s + ms') Q)) : V l M (d + 1) mc ms pc ls (c1 :: b :: a :: .ref x0 :: st) n h c s Q :=
  V.callV (vs := [a, b, c1]) hd K hb rfl rfl hw hc hs hM
theorem V.callV4 {x0 ci : Nat} {fs : List Value} {a b c1 d1 : Value} (hd : decode M.2.1 pc = .ok (.invokevirtual idx, 3)) (K : kV M.1.cls idx ci M' 4) (hb : h x0 = some (.inr (ci, fs))) (hw : (st.map fun v => v.category).sum ≤ 8) (hc : c + mc' ≤ mc) (hs : s + ms' ≤ ms) (hM : Ct l M' d mc' ms' [.ref x0, a, b, c1, d1] n h (fun r n' h' => V l M (d + 1) mc ms (pc + 3) ls (pu r st) n' h' (c + mc') (s + ms') Q)) : V l M (d + 1) mc ms pc ls (d1 :: c1 :: b :: a :: .ref x0 :: st) n h c s Q :=
  V.callV (vs := [a, b, c1, d1]) hd K hb rfl rfl hw hc hs hM
theorem V.callV5 {x0 ci : Nat} {fs : List Value} {a b c1 d1 e1 : Value} (hd : decode M.2.1 pc = .ok (.invokevirtual idx, 3)) (K : kV M.1.cls idx ci M' 5) (hb : h x0 = some (.inr (ci, fs))) (hw : (st.map fun v => v.category).sum ≤ 8) (hc : c + mc' ≤ mc) (hs : s + ms' ≤ ms) (hM : Ct l M' d mc' ms' [.ref x0, a, b, c1, d1, e1] n h (fun r n' h' => V l M (d + 1) mc ms (pc + 3) ls (pu r st) n' h' (c + mc') (s + ms') Q)) : V l M (d + 1) mc ms pc ls (e1 :: d1 :: c1 :: b :: a :: .ref x0 :: st) n h c s Q :=
  V.callV (vs := [a, b, c1, d1, e1]) hd K hb rfl rfl hw hc hs hM
theorem V.callVN0 {x0 ci : Nat} {fs : List Value} (hd : decode M.2.1 pc = .ok (.invokevirtual idx, 3)) (K : kVN M.1.cls idx ci M' 0) (hb : h x0 = some (.inr (ci, fs))) (hw : (st.map fun v => v.category).sum ≤ 8) (hc : c + mc' ≤ mc) (hs : s + ms' ≤ ms) (hM : Ct l M' d mc' ms' [.ref x0] n h (fun r n' h' => V l M (d + 1) mc ms (pc + 3) ls (pu r st) n' h' (c + mc') (s + ms') Q)) : V l M (d + 1) mc ms pc ls (.ref x0 :: st) n h c s Q :=
  V.callVN (vs := []) hd K hb rfl rfl hw hc hs hM
theorem V.callVN1 {x0 ci : Nat} {fs : List Value} {a : Value} (hd : decode M.2.1 pc = .ok (.invokevirtual idx, 3)) (K : kVN M.1.cls idx ci M' 1) (hb : h x0 = some (.inr (ci, fs))) (hw : (st.map fun v => v.category).sum ≤ 8) (hc : c + mc' ≤ mc) (hs : s + ms' ≤ ms) (hM : Ct l M' d mc' ms' [.ref x0, a] n h (fun r n' h' => V l M (d + 1) mc ms (pc + 3) ls (pu r st) n' h' (c + mc') (s + ms') Q)) : V l M (d + 1) mc ms pc ls (a :: .ref x0 :: st) n h c s Q :=
  V.callVN (vs := [a]) hd K hb rfl rfl hw hc hs hM
theorem V.callVN2 {x0 ci : Nat} {fs : List Value} {a b : Value} (hd : decode M.2.1 pc = .ok (.invokevirtual idx, 3)) (K : kVN M.1.cls idx ci M' 2) (hb : h x0 = some (.inr (ci, fs))) (hw : (st.map fun v => v.category).sum ≤ 8) (hc : c + mc' ≤ mc) (hs : s + ms' ≤ ms) (hM : Ct l M' d mc' ms' [.ref x0, a, b] n h (fun r n' h' => V l M (d + 1) mc ms (pc + 3) ls (pu r st) n' h' (c + mc') (s + ms') Q)) : V l M (d + 1) mc ms pc ls (b :: a :: .ref x0 :: st) n h c s Q :=
  V.callVN (vs := [a, b]) hd K hb rfl rfl hw hc hs hM
theorem V.callVN3 {x0 ci : Nat} {fs : List Value} {a b c1 : Value} (hd : decode M.2.1 pc = .ok (.invokevirtual idx, 3)) (K : kVN M.1.cls idx ci M' 3) (hb : h x0 = some (.inr (ci, fs))) (hw : (st.map fun v => v.category).sum ≤ 8) (hc : c + mc' ≤ mc) (hs : s + ms' ≤ ms) (hM : Ct l M' d mc' ms' [.ref x0, a, b, c1] n h (fun r n' h' => V l M (d + 1) mc ms (pc + 3) ls (pu r st) n' h' (c + mc') (s + ms') Q)) : V l M (d + 1) mc ms pc ls (c1 :: b :: a :: .ref x0 :: st) n h c s Q :=
  V.callVN (vs := [a, b, c1]) hd K hb rfl rfl hw hc hs hM
theorem V.callVN4 {x0 ci : Nat} {fs : List Value} {a b c1 d1 : Value} (hd : decode M.2.1 pc = .ok (.invokevirtual idx, 3)) (K : kVN M.1.cls idx ci M' 4) (hb : h x0 = some (.inr (ci, fs))) (hw : (st.map fun v => v.category).sum ≤ 8) (hc : c + mc' ≤ mc) (hs : s + ms' ≤ ms) (hM : Ct l M' d mc' ms' [.ref x0, a, b, c1, d1] n h (fun r n' h' => V l M (d + 1) mc ms (pc + 3) ls (pu r st) n' h' (c + mc') (s + ms') Q)) : V l M (d + 1) mc ms pc ls (d1 :: c1 :: b :: a :: .ref x0 :: st) n h c s Q :=
  V.callVN (vs := [a, b, c1, d1]) hd K hb rfl rfl hw hc hs hM
theorem V.callVN5 {x0 ci : Nat} {fs : List Value} {a b c1 d1 e1 : Value} (hd : decode M.2.1 pc = .ok (.invokevirtual idx, 3)) (K : kVN M.1.cls idx ci M' 5) (hb : h x0 = some (.inr (ci, fs))) (hw : (st.map fun v => v.category).sum ≤ 8) (hc : c + mc' ≤ mc) (hs : s + ms' ≤ ms) (hM : Ct l M' d mc' ms' [.ref x0, a, b, c1, d1, e1] n h (fun r n' h' => V l M (d + 1) mc ms (pc + 3) ls (pu r st) n' h' (c + mc') (s + ms') Q)) : V l M (d + 1) mc ms pc ls (e1 :: d1 :: c1 :: b :: a :: .ref x0 :: st) n h c s Q :=
  V.callVN (vs := [a, b, c1, d1, e1]) hd K hb rfl rfl hw hc hs hM
theorem V.callI0 {x0 : Nat} (hd : decode M.2.1 pc = .ok (.invokespecial idx, 3)) (K : kI M.1.cls idx M' 0) (hw : (st.map fun v => v.category).sum ≤ 8) (hc : c + mc' ≤ mc) (hs : s + ms' ≤ ms) (hM : Ct l M' d mc' ms' [.ref x0] n h (fun r n' h' => V l M (d + 1) mc ms (pc + 3) ls (pu r st) n' h' (c + mc') (s + ms') Q)) : V l M (d + 1) mc ms pc ls (.ref x0 :: st) n h c s Q :=
  V.callI (vs := []) hd K rfl rfl hw hc hs hM
theorem V.callI1 {x0 : Nat} {a : Value} (hd : decode M.2.1 pc = .ok (.invokespecial idx, 3)) (K : kI M.1.cls idx M' 1) (hw : (st.map fun v => v.category).sum ≤ 8) (hc : c + mc' ≤ mc) (hs : s + ms' ≤ ms) (hM : Ct l M' d mc' ms' [.ref x0, a] n h (fun r n' h' => V l M (d + 1) mc ms (pc + 3) ls (pu r st) n' h' (c + mc') (s + ms') Q)) : V l M (d + 1) mc ms pc ls (a :: .ref x0 :: st) n h c s Q :=
  V.callI (vs := [a]) hd K rfl rfl hw hc hs hM
theorem V.callI2 {x0 : Nat} {a b : Value} (hd : decode M.2.1 pc = .ok (.invokespecial idx, 3)) (K : kI M.1.cls idx M' 2) (hw : (st.map fun v => v.category).sum ≤ 8) (hc : c + mc' ≤ mc) (hs : s + ms' ≤ ms) (hM : Ct l M' d mc' ms' [.ref x0, a, b] n h (fun r n' h' => V l M (d + 1) mc ms (pc + 3) ls (pu r st) n' h' (c + mc') (s + ms') Q)) : V l M (d + 1) mc ms pc ls (b :: a :: .ref x0 :: st) n h c s Q :=
  V.callI (vs := [a, b]) hd K rfl rfl hw hc hs hM
theorem V.callI3 {x0 : Nat} {a b c1 : Value} (hd : decode M.2.1 pc = .ok (.invokespecial idx, 3)) (K : kI M.1.cls idx M' 3) (hw : (st.map fun v => v.category).sum ≤ 8) (hc : c + mc' ≤ mc) (hs : s + ms' ≤ ms) (hM : Ct l M' d mc' ms' [.ref x0, a, b, c1] n h (fun r n' h' => V l M (d + 1) mc ms (pc + 3) ls (pu r st) n' h' (c + mc') (s + ms') Q)) : V l M (d + 1) mc ms pc ls (c1 :: b :: a :: .ref x0 :: st) n h c s Q :=
  V.callI (vs := [a, b, c1]) hd K rfl rfl hw hc hs hM
theorem V.callI4 {x0 : Nat} {a b c1 d1 : Value} (hd : decode M.2.1 pc = .ok (.invokespecial idx, 3)) (K : kI M.1.cls idx M' 4) (hw : (st.map fun v => v.category).sum ≤ 8) (hc : c + mc' ≤ mc) (hs : s + ms' ≤ ms) (hM : Ct l M' d mc' ms' [.ref x0, a, b, c1, d1] n h (fun r n' h' => V l M (d + 1) mc ms (pc + 3) ls (pu r st) n' h' (c + mc') (s + ms') Q)) : V l M (d + 1) mc ms pc ls (d1 :: c1 :: b :: a :: .ref x0 :: st) n h c s Q :=
  V.callI (vs := [a, b, c1, d1]) hd K rfl rfl hw hc hs hM
theorem V.callI5 {x0 : Nat} {a b c1 d1 e1 : Value} (hd : decode M.2.1 pc = .ok (.invokespecial idx, 3)) (K : kI M.1.cls idx M' 5) (hw : (st.map fun v => v.category).sum ≤ 8) (hc : c + mc' ≤ mc) (hs : s + ms' ≤ ms) (hM : Ct l M' d mc' ms' [.ref x0, a, b, c1, d1, e1] n h (fun r n' h' => V l M (d + 1) mc ms (pc + 3) ls (pu r st) n' h' (c + mc') (s + ms') Q)) : V l M (d + 1) mc ms pc ls (e1 :: d1 :: c1 :: b :: a :: .ref x0 :: st) n h c s Q :=
  V.callI (vs := [a, b, c1, d1, e1]) hd K rfl rfl hw hc hs hM
theorem V.callSU0 {x0 ci : Nat} {fs : List Value} {r : vw_C} (hd : decode M.2.1 pc = .ok (.invokespecial idx, 3)) (K : kSU M.1.cls idx M' 0) (hb : h x0 = some (.inr (ci, fs))) (hr : cls[ci]? = some r) (hw : (st.map fun v => v.category).sum ≤ 8) (hc : c + mc' ≤ mc) (hs : s + ms' ≤ ms) (hM : Ct l M' d mc' ms' [.ref x0] n h (fun r n' h' => V l M (d + 1) mc ms (pc + 3) ls (pu r st) n' h' (c + mc') (s + ms') Q)) : V l M (d + 1) mc ms pc ls (.ref x0 :: st) n h c s Q :=
  V.callSU (vs := []) hd K hb hr rfl rfl hw hc hs hM
theorem V.callSU1 {x0 ci : Nat} {fs : List Value} {r : vw_C} {a : Value} (hd : decode M.2.1 pc = .ok (.invokespecial idx, 3)) (K : kSU M.1.cls idx M' 1) (hb : h x0 = some (.inr (ci, fs))) (hr : cls[ci]? = some r) (hw : (st.map fun v => v.category).sum ≤ 8) (hc : c + mc' ≤ mc) (hs : s + ms' ≤ ms) (hM : Ct l M' d mc' ms' [.ref x0, a] n h (fun r n' h' => V l M (d + 1) mc ms (pc + 3) ls (pu r st) n' h' (c + mc') (s + ms') Q)) : V l M (d + 1) mc ms pc ls (a :: .ref x0 :: st) n h c s Q :=
  V.callSU (vs := [a]) hd K hb hr rfl rfl hw hc hs hM
theorem V.callSU2 {x0 ci : Nat} {fs : List Value} {r : vw_C} {a b : Value} (hd : decode M.2.1 pc = .ok (.invokespecial idx, 3)) (K : kSU M.1.cls idx M' 2) (hb : h x0 = some (.inr (ci, fs))) (hr : cls[ci]? = some r) (hw : (st.map fun v => v.category).sum ≤ 8) (hc : c + mc' ≤ mc) (hs : s + ms' ≤ ms) (hM : Ct l M' d mc' ms' [.ref x0, a, b] n h (fun r n' h' => V l M (d + 1) mc ms (pc + 3) ls (pu r st) n' h' (c + mc') (s + ms') Q)) : V l M (d + 1) mc ms pc ls (b :: a :: .ref x0 :: st) n h c s Q :=
  V.callSU (vs := [a, b]) hd K hb hr rfl rfl hw hc hs hM
theorem V.callSU3 {x0 ci : Nat} {fs : List Value} {r : vw_C} {a b c1 : Value} (hd : decode M.2.1 pc = .ok (.invokespecial idx, 3)) (K : kSU M.1.cls idx M' 3) (hb : h x0 = some (.inr (ci, fs))) (hr : cls[ci]? = some r) (hw : (st.map fun v => v.category).sum ≤ 8) (hc : c + mc' ≤ mc) (hs : s + ms' ≤ ms) (hM : Ct l M' d mc' ms' [.ref x0, a, b, c1] n h (fun r n' h' => V l M (d + 1) mc ms (pc + 3) ls (pu r st) n' h' (c + mc') (s + ms') Q)) : V l M (d + 1) mc ms pc ls (c1 :: b :: a :: .ref x0 :: st) n h c s Q :=
  V.callSU (vs := [a, b, c1]) hd K hb hr rfl rfl hw hc hs hM
theorem V.callSU4 {x0 ci : Nat} {fs : List Value} {r : vw_C} {a b c1 d1 : Value} (hd : decode M.2.1 pc = .ok (.invokespecial idx, 3)) (K : kSU M.1.cls idx M' 4) (hb : h x0 = some (.inr (ci, fs))) (hr : cls[ci]? = some r) (hw : (st.map fun v => v.category).sum ≤ 8) (hc : c + mc' ≤ mc) (hs : s + ms' ≤ ms) (hM : Ct l M' d mc' ms' [.ref x0, a, b, c1, d1] n h (fun r n' h' => V l M (d + 1) mc ms (pc + 3) ls (pu r st) n' h' (c + mc') (s + ms') Q)) : V l M (d + 1) mc ms pc ls (d1 :: c1 :: b :: a :: .ref x0 :: st) n h c s Q :=
  V.callSU (vs := [a, b, c1, d1]) hd K hb hr rfl rfl hw hc hs hM
theorem V.callSU5 {x0 ci : Nat} {fs : List Value} {r : vw_C} {a b c1 d1 e1 : Value} (hd : decode M.2.1 pc = .ok (.invokespecial idx, 3)) (K : kSU M.1.cls idx M' 5) (hb : h x0 = some (.inr (ci, fs))) (hr : cls[ci]? = some r) (hw : (st.map fun v => v.category).sum ≤ 8) (hc : c + mc' ≤ mc) (hs : s + ms' ≤ ms) (hM : Ct l M' d mc' ms' [.ref x0, a, b, c1, d1, e1] n h (fun r n' h' => V l M (d + 1) mc ms (pc + 3) ls (pu r st) n' h' (c + mc') (s + ms') Q)) : V l M (d + 1) mc ms pc ls (e1 :: d1 :: c1 :: b :: a :: .ref x0 :: st) n h c s Q :=
  V.callSU (vs := [a, b, c1, d1, e1]) hd K hb hr rfl rfl hw hc hs hM
theorem V.callU0 {x0 ci : Nat} {fs : List Value} {owner : String} {x : MethodName} (hd : decode M.2.1 pc = .ok (.invokevirtual idx, 3)) (K : kU M.1.cls idx ci owner x M' 0) (hb : h x0 = some (.inr (ci, fs))) (hw : (st.map fun v => v.category).sum ≤ 8) (hc : c + mc' ≤ mc) (hs : s + ms' ≤ ms) (hM : Ct l M' d mc' ms' [.ref x0] n h (fun r n' h' => V l M (d + 1) mc ms (pc + 3) ls (pu r st) n' h' (c + mc') (s + ms') Q)) : V l M (d + 1) mc ms pc ls (.ref x0 :: st) n h c s Q :=
  V.callU (vs := []) hd K hb rfl rfl hw hc hs hM
theorem V.callU1 {x0 ci : Nat} {fs : List Value} {owner : String} {x : MethodName} {a : Value} (hd : decode M.2.1 pc = .ok (.invokevirtual idx, 3)) (K : kU M.1.cls idx ci owner x M' 1) (hb : h x0 = some (.inr (ci, fs))) (hw : (st.map fun v => v.category).sum ≤ 8) (hc : c + mc' ≤ mc) (hs : s + ms' ≤ ms) (hM : Ct l M' d mc' ms' [.ref x0, a] n h (fun r n' h' => V l M (d + 1) mc ms (pc + 3) ls (pu r st) n' h' (c + mc') (s + ms') Q)) : V l M (d + 1) mc ms pc ls (a :: .ref x0 :: st) n h c s Q :=
  V.callU (vs := [a]) hd K hb rfl rfl hw hc hs hM
theorem V.callU2 {x0 ci : Nat} {fs : List Value} {owner : String} {x : MethodName} {a b : Value} (hd : decode M.2.1 pc = .ok (.invokevirtual idx, 3)) (K : kU M.1.cls idx ci owner x M' 2) (hb : h x0 = some (.inr (ci, fs))) (hw : (st.map fun v => v.category).sum ≤ 8) (hc : c + mc' ≤ mc) (hs : s + ms' ≤ ms) (hM : Ct l M' d mc' ms' [.ref x0, a, b] n h (fun r n' h' => V l M (d + 1) mc ms (pc + 3) ls (pu r st) n' h' (c + mc') (s + ms') Q)) : V l M (d + 1) mc ms pc ls (b :: a :: .ref x0 :: st) n h c s Q :=
  V.callU (vs := [a, b]) hd K hb rfl rfl hw hc hs hM
theorem V.callU3 {x0 ci : Nat} {fs : List Value} {owner : String} {x : MethodName} {a b c1 : Value} (hd : decode M.2.1 pc = .ok (.invokevirtual idx, 3)) (K : kU M.1.cls idx ci owner x M' 3) (hb : h x0 = some (.inr (ci, fs))) (hw : (st.map fun v => v.category).sum ≤ 8) (hc : c + mc' ≤ mc) (hs : s + ms' ≤ ms) (hM : Ct l M' d mc' ms' [.ref x0, a, b, c1] n h (fun r n' h' => V l M (d + 1) mc ms (pc + 3) ls (pu r st) n' h' (c + mc') (s + ms') Q)) : V l M (d + 1) mc ms pc ls (c1 :: b :: a :: .ref x0 :: st) n h c s Q :=
  V.callU (vs := [a, b, c1]) hd K hb rfl rfl hw hc hs hM
theorem V.callU4 {x0 ci : Nat} {fs : List Value} {owner : String} {x : MethodName} {a b c1 d1 : Value} (hd : decode M.2.1 pc = .ok (.invokevirtual idx, 3)) (K : kU M.1.cls idx ci owner x M' 4) (hb : h x0 = some (.inr (ci, fs))) (hw : (st.map fun v => v.category).sum ≤ 8) (hc : c + mc' ≤ mc) (hs : s + ms' ≤ ms) (hM : Ct l M' d mc' ms' [.ref x0, a, b, c1, d1] n h (fun r n' h' => V l M (d + 1) mc ms (pc + 3) ls (pu r st) n' h' (c + mc') (s + ms') Q)) : V l M (d + 1) mc ms pc ls (d1 :: c1 :: b :: a :: .ref x0 :: st) n h c s Q :=
  V.callU (vs := [a, b, c1, d1]) hd K hb rfl rfl hw hc hs hM
theorem V.callU5 {x0 ci : Nat} {fs : List Value} {owner : String} {x : MethodName} {a b c1 d1 e1 : Value} (hd : decode M.2.1 pc = .ok (.invokevirtual idx, 3)) (K : kU M.1.cls idx ci owner x M' 5) (hb : h x0 = some (.inr (ci, fs))) (hw : (st.map fun v => v.category).sum ≤ 8) (hc : c + mc' ≤ mc) (hs : s + ms' ≤ ms) (hM : Ct l M' d mc' ms' [.ref x0, a, b, c1, d1, e1] n h (fun r n' h' => V l M (d + 1) mc ms (pc + 3) ls (pu r st) n' h' (c + mc') (s + ms') Q)) : V l M (d + 1) mc ms pc ls (e1 :: d1 :: c1 :: b :: a :: .ref x0 :: st) n h c s Q :=
  V.callU (vs := [a, b, c1, d1, e1]) hd K hb rfl rfl hw hc hs hM
end VK
/-! ===== the reference's object: q, its array d, its other arrays A 1 .. A 14, its numbers S by their places ===== -/
def mln : Nat → Nat := fun k => [278, 278, 106, 6, 3, 60, 60, 9, 9, 8, 40, 4, 4, 160, 40].getD k 0
abbrev mfl (q : Nat) (S : Nat → Int32) : List Value := [.ref (q + 1 + 0), .ref (q + 1 + 1), .ref (q + 1 + 2), .int (S 3), .ref (q + 1 + 3), .int (S 5), .int (S 6), .int (S 7), .int (S 8), .int (S 9), .int (S 10), .ref (q + 1 + 4), .ref (q + 1 + 5), .int (S 13), .ref (q + 1 + 6), .ref (q + 1 + 7), .ref (q + 1 + 8), .ref (q + 1 + 9), .int (S 18), .ref (q + 1 + 10), .int (S 20), .int (S 21), .ref (q + 1 + 11), .ref (q + 1 + 12), .ref (q + 1 + 13), .ref (q + 1 + 14)]
def mo (q : Nat) (D : Nat → Int32) (A : Nat → Nat → Int32) (S : Nat → Int32) (h0 : HP) : HP := fun a =>
  if a = q then some (.inr (5, mfl q S)) else if a = q + 1 + 0 then some (.inl (0, 278, .inl D)) else if q + 1 < a ∧ a < q + 16 then some (.inl (0, mln (a - (q + 1)), .inl (A (a - (q + 1))))) else h0 a
def uA (A : Nat → Nat → Int32) (k : Nat) (f : Nat → Int32) : Nat → Nat → Int32 := fun j => if j = k then f else A j
def uS (S : Nat → Int32) (k : Nat) (x : Int32) : Nat → Int32 := fun j => if j = k then x else S j
theorem uA_s {A : Nat → Nat → Int32} {k : Nat} {f : Nat → Int32} : uA A k f k = f := if_pos rfl
theorem uA_n {A : Nat → Nat → Int32} {k j : Nat} {f : Nat → Int32} (hn : j ≠ k) : uA A k f j = A j := if_neg hn
theorem uS_s {S : Nat → Int32} {k : Nat} {x : Int32} : uS S k x k = x := if_pos rfl
theorem uS_n {S : Nat → Int32} {k j : Nat} {x : Int32} (hn : j ≠ k) : uS S k x j = S j := if_neg hn
theorem uA_uu {A : Nat → Nat → Int32} {k : Nat} {f g : Nat → Int32} : uA (uA A k f) k g = uA A k g := by
  funext j
  by_cases hj : j = k
  · subst hj; rw [uA_s, uA_s]
  · rw [uA_n hj, uA_n hj, uA_n hj]
theorem uS_uu {S : Nat → Int32} {k : Nat} {x y : Int32} : uS (uS S k x) k y = uS S k y := by
  funext j
  by_cases hj : j = k
  · subst hj; rw [uS_s, uS_s]
  · rw [uS_n hj, uS_n hj, uS_n hj]
theorem uA_id {A : Nat → Nat → Int32} {k : Nat} : uA A k (A k) = A := by
  funext j
  by_cases hj : j = k
  · subst hj; rw [uA_s]
  · rw [uA_n hj]
theorem Qb {Q : QT} {b b' : Bool} {n : Nat} {h : HP} (hQ : Q (some (.int (bi b))) n h) (e : b = b') : Q (some (.int (bi b'))) n h := e ▸ hQ
section MO
variable {q : Nat} {D : Nat → Int32} {A : Nat → Nat → Int32} {S : Nat → Int32} {h0 : HP}
theorem mo_o : mo q D A S h0 q = some (.inr (5, mfl q S)) := if_pos rfl
theorem mo_d : mo q D A S h0 (q + 1 + 0) = some (.inl (0, 278, .inl D)) := by unfold mo; rw [if_neg (by omega), if_pos rfl]
theorem mo_a (k : Nat) (h1 : 1 ≤ k) (h2 : k < 15) : mo q D A S h0 (q + 1 + k) = some (.inl (0, mln k, .inl (A k))) := by
  unfold mo
  rw [if_neg (by omega), if_neg (by omega), if_pos (by omega), show q + 1 + k - (q + 1) = k by omega]
theorem mo_x {a : Nat} (ha : a < q ∨ q + 16 ≤ a) : mo q D A S h0 a = h0 a := by unfold mo; rw [if_neg (by omega), if_neg (by omega), if_neg (by omega)]
theorem mo_ud {f : Nat → Int32} : up (mo q D A S h0) (q + 1 + 0) (.inl (0, 278, .inl f)) = mo q f A S h0 := by
  funext a
  by_cases ha : a = q + 1 + 0
  · subst ha; rw [up_s, mo_d]
  · rw [up_n ha]; unfold mo; simp only [if_neg ha]
theorem mo_ua {k : Nat} (h1 : 1 ≤ k) (h2 : k < 15) {f : Nat → Int32} : up (mo q D A S h0) (q + 1 + k) (.inl (0, mln k, .inl f)) = mo q D (uA A k f) S h0 := by
  funext a
  by_cases ha : a = q + 1 + k
  · subst ha; rw [up_s, mo_a k h1 h2, uA_s]
  · rw [up_n ha]
    unfold mo
    by_cases h3 : a = q
    · rw [if_pos h3, if_pos h3]
    · rw [if_neg h3, if_neg h3]
      by_cases h4 : a = q + 1 + 0
      · rw [if_pos h4, if_pos h4]
      · rw [if_neg h4, if_neg h4]
        by_cases h5 : q + 1 < a ∧ a < q + 16
        · rw [if_pos h5, if_pos h5, uA_n (by omega)]
        · rw [if_neg h5, if_neg h5]
theorem mo_us {S' : Nat → Int32} {fs : List Value} (hf : fs = mfl q S') : up (mo q D A S h0) q (.inr (5, fs)) = mo q D A S' h0 := by
  subst hf
  funext a
  by_cases ha : a = q
  · subst ha; rw [up_s, mo_o]
  · rw [up_n ha]; unfold mo; simp only [if_neg ha]
theorem mo_ux {a : Nat} {e : AE} (ha : a < q ∨ q + 16 ≤ a) : up (mo q D A S h0) a e = mo q D A S (up h0 a e) := by
  funext b
  by_cases hb : b = a
  · subst hb; rw [up_s, mo_x ha, up_s]
  · rw [up_n hb]
    by_cases hc : b < q ∨ q + 16 ≤ b
    · rw [mo_x hc, mo_x hc, up_n hb]
    · unfold mo
      by_cases h3 : b = q
      · rw [if_pos h3, if_pos h3]
      · rw [if_neg h3, if_neg h3]
        by_cases h4 : b = q + 1 + 0
        · rw [if_pos h4, if_pos h4]
        · rw [if_neg h4, if_neg h4, if_pos (by omega), if_pos (by omega)]
variable {l : Launch} {M : MD} {d mc ms pc idx : Nat} {ls : List (Nat × Value)} {st : List Value} {n : Nat} {c s : Nat} {Q : QT}
theorem V.mput {j : Nat} {x : Int32} (hd : decode M.2.1 pc = .ok (.putfield idx, 3)) (hf : fok M.1.cls idx 5 j) (hp : fpk 5 j .int) (hj : (mfl q S).set j (.int x) = mfl q (uS S j x)) (hl : j < 26) (k : V l M d mc ms (pc + 3) ls st n (mo q D A (uS S j x) h0) c s Q) : V l M d mc ms pc ls (.int x :: .ref q :: st) n (mo q D A S h0) c s Q :=
  V.put hd hf hp (fun _ => rfl) (fun _ => rfl) mo_o hl (V.eqH (mo_us hj) k)
theorem V.mputB {b : Bool} (hd : decode M.2.1 pc = .ok (.putfield idx, 3)) (hf : fok M.1.cls idx 5 10) (hp : fpk 5 10 .boolean) (k : V l M d mc ms (pc + 3) ls st n (mo q D A (uS S 10 (bi b)) h0) c s Q) : V l M d mc ms pc ls (.int (bi b) :: .ref q :: st) n (mo q D A S h0) c s Q :=
  V.put hd hf hp (fun _ => bi_nar b) (fun _ => by cases b <;> rfl) mo_o (Nat.le_of_ble_eq_true rfl) (V.eqH (mo_us rfl) k)
theorem V.mldd {i : Nat} (hd : decode M.2.1 pc = .ok (.iaload, 1)) (hi : i < 278) (k : V l M d mc ms (pc + 1) ls (.int (D i) :: st) n (mo q D A S h0) c s Q) : V l M d mc ms pc ls (.int (nI i) :: .ref (q + 1 + 0) :: st) n (mo q D A S h0) c s Q :=
  V.ialdN hd mo_d hi (by decide) k
theorem V.mlda {i : Nat} (k0 : Nat) (h1 : 1 ≤ k0) (h2 : k0 < 15) (hd : decode M.2.1 pc = .ok (.iaload, 1)) (hi : i < mln k0) (k : V l M d mc ms (pc + 1) ls (.int (A k0 i) :: st) n (mo q D A S h0) c s Q) : V l M d mc ms pc ls (.int (nI i) :: .ref (q + 1 + k0) :: st) n (mo q D A S h0) c s Q :=
  V.ialdN hd (mo_a k0 h1 h2) hi (by have : ∀ k, k < 15 → mln k < 2 ^ 31 := by decide
                                    exact this k0 h2) k
theorem V.mstd {i : Nat} {x : Int32} (hd : decode M.2.1 pc = .ok (.iastore, 1)) (hi : i < 278) (k : V l M d mc ms (pc + 1) ls st n (mo q (upd D i x) A S h0) c s Q) : V l M d mc ms pc ls (.int x :: .int (nI i) :: .ref (q + 1 + 0) :: st) n (mo q D A S h0) c s Q :=
  V.iastN hd mo_d hi (by decide) (V.eqH mo_ud k)
theorem V.msta {i : Nat} {x : Int32} (k0 : Nat) (h1 : 1 ≤ k0) (h2 : k0 < 15) (hd : decode M.2.1 pc = .ok (.iastore, 1)) (hi : i < mln k0) (k : V l M d mc ms (pc + 1) ls st n (mo q D (uA A k0 (upd (A k0) i x)) S h0) c s Q) : V l M d mc ms pc ls (.int x :: .int (nI i) :: .ref (q + 1 + k0) :: st) n (mo q D A S h0) c s Q :=
  V.iastN hd (mo_a k0 h1 h2) hi (by have : ∀ k, k < 15 → mln k < 2 ^ 31 := by decide
                                    exact this k0 h2) (V.eqH (mo_ua h1 h2) k)
end MO
end
section
def hld (v lo hi : Int32) : Int32 := if v < lo then lo else if hi < v then hi else v
def two (a b : Int32) : Bool := wi a (nI 0) (nI 5) && wi b (nI 0) (nI 5) && !decide (a = b)
def cpN (N : Nat) (f g : Nat → Int32) : Nat → Int32 := fun j => if j < N then f j else g j
theorem cpN_s (k : Nat) (f g : Nat → Int32) : upd (cpN k f g) k (f k) = cpN (k + 1) f g := by
  funext j
  by_cases hj : j = k
  · subst hj; simp [upd, cpN]
  · simp only [upd, cpN, if_neg hj]
    by_cases h1 : j < k
    · rw [if_pos h1, if_pos (by omega)]
    · rw [if_neg h1, if_neg (by omega)]
theorem in_t {x lo hi : Int32} (h1 : ¬ lg_cmp x.toInt64 lo.toInt64 < 0) (h2 : ¬ 0 < lg_cmp x.toInt64 hi.toInt64) : wi x lo hi = true := by
  simp only [wi, Bool.and_eq_true, decide_eq_true_eq]
  exact ⟨(i64_le _ _).mp (Int64.not_lt.mp fun z => h1 ((lg_cmp_lt _ _).mpr z)), (i64_le _ _).mp (Int64.not_lt.mp fun z => h2 ((lg_cmp_gt _ _).mpr z))⟩
theorem in_f1 {x lo hi : Int32} (h1 : lg_cmp x.toInt64 lo.toInt64 < 0) : wi x lo hi = false := by
  simp only [wi, Bool.and_eq_false_iff, decide_eq_false_iff_not]
  exact Or.inl (fun z => Int64.not_lt.mpr ((i64_le _ _).mpr z) ((lg_cmp_lt _ _).mp h1))
theorem in_f2 {x lo hi : Int32} (h1 : 0 < lg_cmp x.toInt64 hi.toInt64) : wi x lo hi = false := by
  simp only [wi, Bool.and_eq_false_iff, decide_eq_false_iff_not]
  exact Or.inr (fun z => Int64.not_lt.mpr ((i64_le _ _).mpr z) ((lg_cmp_gt _ _).mp h1))
theorem cpN_0 (f g : Nat → Int32) : cpN 0 f g = g := by funext j; simp [cpN]
abbrev M_Mo_finds : MD := (⟨"FelledByNamesModel", "finds", "(I)I"⟩, prog_14_method_3_code, 2, (some .int), fun _ => True)
theorem d_Mo_finds_0 : decode prog_14_method_3_code 0 = .ok (.aload_n 0, 1) := by decide +kernel
theorem d_Mo_finds_1 : decode prog_14_method_3_code 1 = .ok (.getfield 19, 3) := by decide +kernel
theorem f_Mo_19_Mo : fok "FelledByNamesModel" 19 5 4 := ⟨R_Mo, F_Mo, 26, "FelledByNamesModel", rfl, i_Mo, by decide, tm 1063 (by decide +kernel) rfl, Or.inl rfl, t_Mo, t_Mo_ok, n_Mo⟩
theorem d_Mo_finds_4 : decode prog_14_method_3_code 4 = .ok (.iload_n 1, 1) := by decide +kernel
theorem d_Mo_finds_5 : decode prog_14_method_3_code 5 = .ok (.dup2, 1) := by decide +kernel
theorem d_Mo_finds_6 : decode prog_14_method_3_code 6 = .ok (.iaload, 1) := by decide +kernel
theorem d_Mo_finds_7 : decode prog_14_method_3_code 7 = .ok (.iconst 1, 1) := by decide +kernel
theorem d_Mo_finds_8 : decode prog_14_method_3_code 8 = .ok (.iadd, 1) := by decide +kernel
theorem d_Mo_finds_9 : decode prog_14_method_3_code 9 = .ok (.iastore, 1) := by decide +kernel
theorem d_Mo_finds_10 : decode prog_14_method_3_code 10 = .ok (.ldc 55, 2) := by decide +kernel
theorem d_Mo_finds_12 : decode prog_14_method_3_code 12 = .ok (.iload_n 1, 1) := by decide +kernel
theorem d_Mo_finds_13 : decode prog_14_method_3_code 13 = .ok (.isub, 1) := by decide +kernel
theorem d_Mo_finds_14 : decode prog_14_method_3_code 14 = .ok (.ireturn, 1) := by decide +kernel
set_option maxRecDepth 100000 in
theorem c_Mo_finds {i : Nat} {l : Launch} {d q n : Nat} {D : Nat → Int32} {A : Nat → Nat → Int32} {S : Nat → Int32} {h0 : HP} {Q : QT} (hi : i < 6) (hQ : Q (some (.int (-1000000000 - nI i))) n (mo q D (uA A 3 (upd (A 3) i (A 3 i + nI 1))) S h0)) : Ct l M_Mo_finds d 0 0 [.ref q, .int (nI i)] n (mo q D A S h0) Q := by
  refine Ct.of (fun _ => trivial) (by decide) (Nat.le_of_ble_eq_true rfl) ?_
  refine V.aload_n d_Mo_finds_0 rfl ?_
  refine V.get d_Mo_finds_1 f_Mo_19_Mo mo_o rfl ?_
  refine V.iload_n d_Mo_finds_4 rfl ?_
  refine V.dup2 rfl rfl d_Mo_finds_5 ?_
  refine V.mlda 3 (by decide) (by decide) d_Mo_finds_6 (by first | omega | (show _ < 6; omega)) ?_
  refine V.iconst_ (nI 1) d_Mo_finds_7 (by decide +kernel) ?_
  refine V.iadd d_Mo_finds_8 ?_
  refine V.msta 3 (by decide) (by decide) d_Mo_finds_9 (by first | omega | (show _ < 6; omega)) ?_
  refine V.ldc (v := -1000000000) d_Mo_finds_10 (tm 1150 (by decide +kernel) rfl) ?_
  refine V.iload_n d_Mo_finds_12 rfl ?_
  refine V.isub d_Mo_finds_13 ?_
  refine V.iret d_Mo_finds_14 rfl (Nat.le_of_ble_eq_true rfl) (Nat.le_of_ble_eq_true rfl) ?_
  exact hQ
abbrev M_Mo_in : MD := (⟨"FelledByNamesModel", "in", "(JJJ)Z"⟩, prog_14_method_4_code, 6, (some .boolean), fun _ => True)
theorem d_Mo_in_0 : decode prog_14_method_4_code 0 = .ok (.lload_n 0, 1) := by decide +kernel
theorem d_Mo_in_1 : decode prog_14_method_4_code 1 = .ok (.lload_n 2, 1) := by decide +kernel
theorem d_Mo_in_2 : decode prog_14_method_4_code 2 = .ok (.lcmp, 1) := by decide +kernel
theorem d_Mo_in_3 : decode prog_14_method_4_code 3 = .ok (.ifCond .lt 14, 3) := by decide +kernel
theorem d_Mo_in_17 : decode prog_14_method_4_code 17 = .ok (.iconst 0, 1) := by decide +kernel
theorem d_Mo_in_18 : decode prog_14_method_4_code 18 = .ok (.ireturn, 1) := by decide +kernel
theorem d_Mo_in_6 : decode prog_14_method_4_code 6 = .ok (.lload_n 0, 1) := by decide +kernel
theorem d_Mo_in_7 : decode prog_14_method_4_code 7 = .ok (.lload 4, 2) := by decide +kernel
theorem d_Mo_in_9 : decode prog_14_method_4_code 9 = .ok (.lcmp, 1) := by decide +kernel
theorem d_Mo_in_10 : decode prog_14_method_4_code 10 = .ok (.ifCond .gt 7, 3) := by decide +kernel
theorem d_Mo_in_13 : decode prog_14_method_4_code 13 = .ok (.iconst 1, 1) := by decide +kernel
theorem d_Mo_in_14 : decode prog_14_method_4_code 14 = .ok (.goto 4, 3) := by decide +kernel
set_option maxRecDepth 100000 in
theorem c_Mo_in {x lo hi : Int32} {l : Launch} {d n : Nat} {h : HP} {Q : QT} (hQ : Q (some (.int (bi (wi x lo hi)))) n h) : Ct l M_Mo_in d 0 0 [.long x.toInt64, .long lo.toInt64, .long hi.toInt64] n h Q := by
  refine Ct.of (fun _ => trivial) (by decide) (Nat.le_of_ble_eq_true rfl) ?_
  refine V.lload_n d_Mo_in_0 rfl ?_
  refine V.lload_n d_Mo_in_1 rfl ?_
  refine V.lcmp d_Mo_in_2 ?_
  refine V.if_lt (tgt := 17) d_Mo_in_3 (by decide) (fun c_3 => ?_) (fun c_3 => ?_)
  · skip
    refine V.iconst_ (nI 0) d_Mo_in_17 (by decide +kernel) ?_
    refine V.zret d_Mo_in_18 rfl rfl (Nat.le_of_ble_eq_true rfl) (Nat.le_of_ble_eq_true rfl) ?_
    first | exact Qb hQ (in_t c_3 c_10) | exact Qb hQ (in_f2 c_10) | exact Qb hQ (in_f1 c_3)
  · skip
    refine V.lload_n d_Mo_in_6 rfl ?_
    refine V.lload d_Mo_in_7 rfl ?_
    refine V.lcmp d_Mo_in_9 ?_
    refine V.if_gt (tgt := 17) d_Mo_in_10 (by decide) (fun c_10 => ?_) (fun c_10 => ?_)
    · skip
      refine V.iconst_ (nI 0) d_Mo_in_17 (by decide +kernel) ?_
      refine V.zret d_Mo_in_18 rfl rfl (Nat.le_of_ble_eq_true rfl) (Nat.le_of_ble_eq_true rfl) ?_
      first | exact Qb hQ (in_t c_3 c_10) | exact Qb hQ (in_f2 c_10) | exact Qb hQ (in_f1 c_3)
    · skip
      refine V.iconst_ (nI 1) d_Mo_in_13 (by decide +kernel) ?_
      refine V.goto (tgt := 18) d_Mo_in_14 (by decide) ?_
      refine V.zret d_Mo_in_18 rfl rfl (Nat.le_of_ble_eq_true rfl) (Nat.le_of_ble_eq_true rfl) ?_
      first | exact Qb hQ (in_t c_3 c_10) | exact Qb hQ (in_f2 c_10) | exact Qb hQ (in_f1 c_3)
abbrev M_Mo_held : MD := (⟨"FelledByNamesModel", "held", "(III)I"⟩, prog_14_method_5_code, 3, (some .int), fun _ => True)
theorem d_Mo_held_0 : decode prog_14_method_5_code 0 = .ok (.iload_n 0, 1) := by decide +kernel
theorem d_Mo_held_1 : decode prog_14_method_5_code 1 = .ok (.iload_n 1, 1) := by decide +kernel
theorem d_Mo_held_2 : decode prog_14_method_5_code 2 = .ok (.if_icmp .ge 7, 3) := by decide +kernel
theorem d_Mo_held_9 : decode prog_14_method_5_code 9 = .ok (.iload_n 0, 1) := by decide +kernel
theorem d_Mo_held_10 : decode prog_14_method_5_code 10 = .ok (.iload_n 2, 1) := by decide +kernel
theorem d_Mo_held_11 : decode prog_14_method_5_code 11 = .ok (.if_icmp .le 7, 3) := by decide +kernel
theorem d_Mo_held_18 : decode prog_14_method_5_code 18 = .ok (.iload_n 0, 1) := by decide +kernel
theorem d_Mo_held_19 : decode prog_14_method_5_code 19 = .ok (.ireturn, 1) := by decide +kernel
theorem d_Mo_held_14 : decode prog_14_method_5_code 14 = .ok (.iload_n 2, 1) := by decide +kernel
theorem d_Mo_held_15 : decode prog_14_method_5_code 15 = .ok (.goto 4, 3) := by decide +kernel
theorem d_Mo_held_5 : decode prog_14_method_5_code 5 = .ok (.iload_n 1, 1) := by decide +kernel
theorem d_Mo_held_6 : decode prog_14_method_5_code 6 = .ok (.goto 13, 3) := by decide +kernel
set_option maxRecDepth 100000 in
theorem c_Mo_held {x lo hi : Int32} {l : Launch} {d n : Nat} {h : HP} {Q : QT} (hQ : Q (some (.int (hld x lo hi))) n h) : Ct l M_Mo_held d 0 0 [.int x, .int lo, .int hi] n h Q := by
  refine Ct.of (fun _ => trivial) (by decide) (Nat.le_of_ble_eq_true rfl) ?_
  refine V.iload_n d_Mo_held_0 rfl ?_
  refine V.iload_n d_Mo_held_1 rfl ?_
  refine V.icmp_ge (tgt := 9) d_Mo_held_2 (by decide) (fun c_2 => ?_) (fun c_2 => ?_)
  · skip
    refine V.iload_n d_Mo_held_9 rfl ?_
    refine V.iload_n d_Mo_held_10 rfl ?_
    refine V.icmp_le (tgt := 18) d_Mo_held_11 (by decide) (fun c_11 => ?_) (fun c_11 => ?_)
    · skip
      refine V.iload_n d_Mo_held_18 rfl ?_
      refine V.iret d_Mo_held_19 rfl (Nat.le_of_ble_eq_true rfl) (Nat.le_of_ble_eq_true rfl) ?_
      unfold hld at hQ
      first | (rw [if_pos (Int32.not_le.mp c_2)] at hQ; exact hQ) | (rw [if_neg (Int32.not_lt.mpr c_2), if_pos (Int32.not_le.mp c_11)] at hQ; exact hQ) | (rw [if_neg (Int32.not_lt.mpr c_2), if_neg (Int32.not_lt.mpr c_11)] at hQ; exact hQ)
    · skip
      refine V.iload_n d_Mo_held_14 rfl ?_
      refine V.goto (tgt := 19) d_Mo_held_15 (by decide) ?_
      refine V.iret d_Mo_held_19 rfl (Nat.le_of_ble_eq_true rfl) (Nat.le_of_ble_eq_true rfl) ?_
      unfold hld at hQ
      first | (rw [if_pos (Int32.not_le.mp c_2)] at hQ; exact hQ) | (rw [if_neg (Int32.not_lt.mpr c_2), if_pos (Int32.not_le.mp c_11)] at hQ; exact hQ) | (rw [if_neg (Int32.not_lt.mpr c_2), if_neg (Int32.not_lt.mpr c_11)] at hQ; exact hQ)
  · skip
    refine V.iload_n d_Mo_held_5 rfl ?_
    refine V.goto (tgt := 19) d_Mo_held_6 (by decide) ?_
    refine V.iret d_Mo_held_19 rfl (Nat.le_of_ble_eq_true rfl) (Nat.le_of_ble_eq_true rfl) ?_
    unfold hld at hQ
    first | (rw [if_pos (Int32.not_le.mp c_2)] at hQ; exact hQ) | (rw [if_neg (Int32.not_lt.mpr c_2), if_pos (Int32.not_le.mp c_11)] at hQ; exact hQ) | (rw [if_neg (Int32.not_lt.mpr c_2), if_neg (Int32.not_lt.mpr c_11)] at hQ; exact hQ)
abbrev M_Mo_isTree : MD := (⟨"FelledByNamesModel", "isTree", "(I)Z"⟩, prog_14_method_6_code, 2, (some .boolean), fun _ => True)
theorem d_Mo_isTree_0 : decode prog_14_method_6_code 0 = .ok (.iload_n 1, 1) := by decide +kernel
theorem d_Mo_isTree_1 : decode prog_14_method_6_code 1 = .ok (.i2l, 1) := by decide +kernel
theorem d_Mo_isTree_2 : decode prog_14_method_6_code 2 = .ok (.lconst 0, 1) := by decide +kernel
theorem d_Mo_isTree_3 : decode prog_14_method_6_code 3 = .ok (.aload_n 0, 1) := by decide +kernel
theorem d_Mo_isTree_4 : decode prog_14_method_6_code 4 = .ok (.getfield 7, 3) := by decide +kernel
theorem f_Mo_7_Mo : fok "FelledByNamesModel" 7 5 0 := ⟨R_Mo, F_Mo, 26, "FelledByNamesModel", rfl, i_Mo, by decide, tm 1059 (by decide +kernel) rfl, Or.inl rfl, t_Mo, t_Mo_ok, n_Mo⟩
theorem d_Mo_isTree_7 : decode prog_14_method_6_code 7 = .ok (.iconst 0, 1) := by decide +kernel
theorem d_Mo_isTree_8 : decode prog_14_method_6_code 8 = .ok (.iaload, 1) := by decide +kernel
theorem d_Mo_isTree_9 : decode prog_14_method_6_code 9 = .ok (.iconst 1, 1) := by decide +kernel
theorem d_Mo_isTree_10 : decode prog_14_method_6_code 10 = .ok (.isub, 1) := by decide +kernel
theorem d_Mo_isTree_11 : decode prog_14_method_6_code 11 = .ok (.i2l, 1) := by decide +kernel
theorem d_Mo_isTree_12 : decode prog_14_method_6_code 12 = .ok (.invokestatic 56, 3) := by decide +kernel
theorem kB_Mo_in : kB M_Mo_in 3 := ⟨tm 15 (by decide +kernel) rfl, tm 1145 (by decide +kernel) rfl, ⟨by decide, by decide, by decide +kernel⟩, by decide⟩
theorem k_Mo_56_Mo_inS : kS "FelledByNamesModel" 56 M_Mo_in 3 := ⟨kB_Mo_in, tm 1143 (by decide +kernel) rfl, tm 1144 (by decide +kernel) rfl⟩
theorem d_Mo_isTree_15 : decode prog_14_method_6_code 15 = .ok (.ireturn, 1) := by decide +kernel
set_option maxRecDepth 100000 in
theorem c_Mo_isTree {x : Int32} {l : Launch} {d q n : Nat} {D : Nat → Int32} {A : Nat → Nat → Int32} {S : Nat → Int32} {h0 : HP} {Q : QT} (hQ : Q (some (.int (bi (wi x (nI 0) (D 0 - nI 1))))) n (mo q D A S h0)) : Ct l M_Mo_isTree (d + 1) 0 0 [.ref q, .int x] n (mo q D A S h0) Q := by
  refine Ct.of (fun _ => trivial) (by decide) (Nat.le_of_ble_eq_true rfl) ?_
  refine V.iload_n d_Mo_isTree_0 rfl ?_
  refine V.i2l d_Mo_isTree_1 ?_
  refine V.lconst_ ((nI 0).toInt64) d_Mo_isTree_2 (by decide +kernel) ?_
  refine V.aload_n d_Mo_isTree_3 rfl ?_
  refine V.get d_Mo_isTree_4 f_Mo_7_Mo mo_o rfl ?_
  refine V.iconst_ (nI 0) d_Mo_isTree_7 (by decide +kernel) ?_
  refine V.mldd d_Mo_isTree_8 (by omega) ?_
  refine V.iconst_ (nI 1) d_Mo_isTree_9 (by decide +kernel) ?_
  refine V.isub d_Mo_isTree_10 ?_
  refine V.i2l d_Mo_isTree_11 ?_
  refine V.callS3 d_Mo_isTree_12 k_Mo_56_Mo_inS (Nat.le_of_ble_eq_true rfl) (by omega) (by omega) (c_Mo_in ?_)
  refine V.bret d_Mo_isTree_15 rfl (Nat.le_of_ble_eq_true rfl) (Nat.le_of_ble_eq_true rfl) ?_
  exact hQ
abbrev M_Mo_isPerson : MD := (⟨"FelledByNamesModel", "isPerson", "(I)Z"⟩, prog_14_method_7_code, 1, (some .boolean), fun _ => True)
theorem d_Mo_isPerson_0 : decode prog_14_method_7_code 0 = .ok (.iload_n 0, 1) := by decide +kernel
theorem d_Mo_isPerson_1 : decode prog_14_method_7_code 1 = .ok (.i2l, 1) := by decide +kernel
theorem d_Mo_isPerson_2 : decode prog_14_method_7_code 2 = .ok (.lconst 0, 1) := by decide +kernel
theorem d_Mo_isPerson_3 : decode prog_14_method_7_code 3 = .ok (.ldc2_w 60, 3) := by decide +kernel
theorem d_Mo_isPerson_6 : decode prog_14_method_7_code 6 = .ok (.invokestatic 56, 3) := by decide +kernel
theorem d_Mo_isPerson_9 : decode prog_14_method_7_code 9 = .ok (.ireturn, 1) := by decide +kernel
set_option maxRecDepth 100000 in
theorem c_Mo_isPerson {x : Int32} {l : Launch} {d n : Nat} {h : HP} {Q : QT} (hQ : Q (some (.int (bi (wi x (nI 0) (nI 5))))) n h) : Ct l M_Mo_isPerson (d + 1) 0 0 [.int x] n h Q := by
  refine Ct.of (fun _ => trivial) (by decide) (Nat.le_of_ble_eq_true rfl) ?_
  refine V.iload_n d_Mo_isPerson_0 rfl ?_
  refine V.i2l d_Mo_isPerson_1 ?_
  refine V.lconst_ ((nI 0).toInt64) d_Mo_isPerson_2 (by decide +kernel) ?_
  refine V.ldc2 (v := 5) d_Mo_isPerson_3 (tm 1238 (by decide +kernel) rfl) ?_
  refine V.eqS (st' := .long ((nI 5).toInt64) :: _) rfl ?_
  refine V.callS3 d_Mo_isPerson_6 k_Mo_56_Mo_inS (Nat.le_of_ble_eq_true rfl) (by omega) (by omega) (c_Mo_in ?_)
  refine V.bret d_Mo_isPerson_9 rfl (Nat.le_of_ble_eq_true rfl) (Nat.le_of_ble_eq_true rfl) ?_
  exact hQ
abbrev M_Mo_areTwo : MD := (⟨"FelledByNamesModel", "areTwo", "(II)Z"⟩, prog_14_method_8_code, 2, (some .boolean), fun _ => True)
theorem d_Mo_areTwo_0 : decode prog_14_method_8_code 0 = .ok (.iload_n 0, 1) := by decide +kernel
theorem d_Mo_areTwo_1 : decode prog_14_method_8_code 1 = .ok (.invokestatic 62, 3) := by decide +kernel
theorem kB_Mo_isPerson : kB M_Mo_isPerson 1 := ⟨tm 15 (by decide +kernel) rfl, tm 1237 (by decide +kernel) rfl, ⟨by decide, by decide, by decide +kernel⟩, by decide⟩
theorem k_Mo_62_Mo_isPersonS : kS "FelledByNamesModel" 62 M_Mo_isPerson 1 := ⟨kB_Mo_isPerson, tm 1235 (by decide +kernel) rfl, tm 1236 (by decide +kernel) rfl⟩
theorem d_Mo_areTwo_4 : decode prog_14_method_8_code 4 = .ok (.ifCond .eq 19, 3) := by decide +kernel
theorem d_Mo_areTwo_23 : decode prog_14_method_8_code 23 = .ok (.iconst 0, 1) := by decide +kernel
theorem d_Mo_areTwo_24 : decode prog_14_method_8_code 24 = .ok (.ireturn, 1) := by decide +kernel
theorem d_Mo_areTwo_7 : decode prog_14_method_8_code 7 = .ok (.iload_n 1, 1) := by decide +kernel
theorem d_Mo_areTwo_8 : decode prog_14_method_8_code 8 = .ok (.invokestatic 62, 3) := by decide +kernel
theorem d_Mo_areTwo_11 : decode prog_14_method_8_code 11 = .ok (.ifCond .eq 12, 3) := by decide +kernel
theorem d_Mo_areTwo_14 : decode prog_14_method_8_code 14 = .ok (.iload_n 0, 1) := by decide +kernel
theorem d_Mo_areTwo_15 : decode prog_14_method_8_code 15 = .ok (.iload_n 1, 1) := by decide +kernel
theorem d_Mo_areTwo_16 : decode prog_14_method_8_code 16 = .ok (.if_icmp .eq 7, 3) := by decide +kernel
theorem d_Mo_areTwo_19 : decode prog_14_method_8_code 19 = .ok (.iconst 1, 1) := by decide +kernel
theorem d_Mo_areTwo_20 : decode prog_14_method_8_code 20 = .ok (.goto 4, 3) := by decide +kernel
set_option maxRecDepth 100000 in
theorem c_Mo_areTwo {x y : Int32} {l : Launch} {d n : Nat} {h : HP} {Q : QT} (hQ : Q (some (.int (bi (two x y)))) n h) : Ct l M_Mo_areTwo (d + 2) 0 0 [.int x, .int y] n h Q := by
  refine Ct.of (fun _ => trivial) (by decide) (Nat.le_of_ble_eq_true rfl) ?_
  refine V.iload_n d_Mo_areTwo_0 rfl ?_
  refine V.callS1 d_Mo_areTwo_1 k_Mo_62_Mo_isPersonS (Nat.le_of_ble_eq_true rfl) (by omega) (by omega) (c_Mo_isPerson ?_)
  refine V.ifeqB (tgt := 23) d_Mo_areTwo_4 (by decide) (fun c_4 => ?_) (fun c_4 => ?_)
  · skip
    refine V.iconst_ (nI 0) d_Mo_areTwo_23 (by decide +kernel) ?_
    refine V.zret d_Mo_areTwo_24 rfl rfl (Nat.le_of_ble_eq_true rfl) (Nat.le_of_ble_eq_true rfl) ?_
    unfold two at hQ
    first | (rw [c_4, c_11, decide_eq_false c_16] at hQ; exact hQ) | (rw [c_4, c_11, decide_eq_true c_16] at hQ; exact hQ) | (rw [c_4, c_11] at hQ; exact hQ) | (rw [c_4] at hQ; exact hQ)
  · skip
    refine V.iload_n d_Mo_areTwo_7 rfl ?_
    refine V.callS1 d_Mo_areTwo_8 k_Mo_62_Mo_isPersonS (Nat.le_of_ble_eq_true rfl) (by omega) (by omega) (c_Mo_isPerson ?_)
    refine V.ifeqB (tgt := 23) d_Mo_areTwo_11 (by decide) (fun c_11 => ?_) (fun c_11 => ?_)
    · skip
      refine V.iconst_ (nI 0) d_Mo_areTwo_23 (by decide +kernel) ?_
      refine V.zret d_Mo_areTwo_24 rfl rfl (Nat.le_of_ble_eq_true rfl) (Nat.le_of_ble_eq_true rfl) ?_
      unfold two at hQ
      first | (rw [c_4, c_11, decide_eq_false c_16] at hQ; exact hQ) | (rw [c_4, c_11, decide_eq_true c_16] at hQ; exact hQ) | (rw [c_4, c_11] at hQ; exact hQ) | (rw [c_4] at hQ; exact hQ)
    · skip
      refine V.iload_n d_Mo_areTwo_14 rfl ?_
      refine V.iload_n d_Mo_areTwo_15 rfl ?_
      refine V.icmp_eq (tgt := 23) d_Mo_areTwo_16 (by decide) (fun c_16 => ?_) (fun c_16 => ?_)
      · skip
        refine V.iconst_ (nI 0) d_Mo_areTwo_23 (by decide +kernel) ?_
        refine V.zret d_Mo_areTwo_24 rfl rfl (Nat.le_of_ble_eq_true rfl) (Nat.le_of_ble_eq_true rfl) ?_
        unfold two at hQ
        first | (rw [c_4, c_11, decide_eq_false c_16] at hQ; exact hQ) | (rw [c_4, c_11, decide_eq_true c_16] at hQ; exact hQ) | (rw [c_4, c_11] at hQ; exact hQ) | (rw [c_4] at hQ; exact hQ)
      · skip
        refine V.iconst_ (nI 1) d_Mo_areTwo_19 (by decide +kernel) ?_
        refine V.goto (tgt := 24) d_Mo_areTwo_20 (by decide) ?_
        refine V.zret d_Mo_areTwo_24 rfl rfl (Nat.le_of_ble_eq_true rfl) (Nat.le_of_ble_eq_true rfl) ?_
        unfold two at hQ
        first | (rw [c_4, c_11, decide_eq_false c_16] at hQ; exact hQ) | (rw [c_4, c_11, decide_eq_true c_16] at hQ; exact hQ) | (rw [c_4, c_11] at hQ; exact hQ) | (rw [c_4] at hQ; exact hQ)
abbrev M_Mo_of : MD := (⟨"FelledByNamesModel", "of", "(II)I"⟩, prog_14_method_9_code, 3, (some .int), fun _ => True)
theorem d_Mo_of_0 : decode prog_14_method_9_code 0 = .ok (.aload_n 0, 1) := by decide +kernel
theorem d_Mo_of_1 : decode prog_14_method_9_code 1 = .ok (.getfield 7, 3) := by decide +kernel
theorem d_Mo_of_4 : decode prog_14_method_9_code 4 = .ok (.bipush 50, 2) := by decide +kernel
theorem d_Mo_of_6 : decode prog_14_method_9_code 6 = .ok (.bipush 7, 2) := by decide +kernel
theorem d_Mo_of_8 : decode prog_14_method_9_code 8 = .ok (.iload_n 1, 1) := by decide +kernel
theorem d_Mo_of_9 : decode prog_14_method_9_code 9 = .ok (.imul, 1) := by decide +kernel
theorem d_Mo_of_10 : decode prog_14_method_9_code 10 = .ok (.iadd, 1) := by decide +kernel
theorem d_Mo_of_11 : decode prog_14_method_9_code 11 = .ok (.iload_n 2, 1) := by decide +kernel
theorem d_Mo_of_12 : decode prog_14_method_9_code 12 = .ok (.iadd, 1) := by decide +kernel
theorem d_Mo_of_13 : decode prog_14_method_9_code 13 = .ok (.iaload, 1) := by decide +kernel
theorem d_Mo_of_14 : decode prog_14_method_9_code 14 = .ok (.ireturn, 1) := by decide +kernel
set_option maxRecDepth 100000 in
theorem c_Mo_of {i j : Nat} {l : Launch} {d q n : Nat} {D : Nat → Int32} {A : Nat → Nat → Int32} {S : Nat → Int32} {h0 : HP} {Q : QT} (hi : 50 + 7 * i + j < 278) (hQ : Q (some (.int (D (50 + 7 * i + j)))) n (mo q D A S h0)) : Ct l M_Mo_of d 0 0 [.ref q, .int (nI i), .int (nI j)] n (mo q D A S h0) Q := by
  refine Ct.of (fun _ => trivial) (by decide) (Nat.le_of_ble_eq_true rfl) ?_
  refine V.aload_n d_Mo_of_0 rfl ?_
  refine V.get d_Mo_of_1 f_Mo_7_Mo mo_o rfl ?_
  refine V.bipush_ (nI 50) d_Mo_of_4 (by decide +kernel) ?_
  refine V.bipush_ (nI 7) d_Mo_of_6 (by decide +kernel) ?_
  refine V.iload_n d_Mo_of_8 rfl ?_
  refine V.mulN d_Mo_of_9 ?_
  refine V.addN d_Mo_of_10 ?_
  refine V.iload_n d_Mo_of_11 rfl ?_
  refine V.addN d_Mo_of_12 ?_
  refine V.mldd d_Mo_of_13 (by omega) ?_
  refine V.iret d_Mo_of_14 rfl (Nat.le_of_ble_eq_true rfl) (Nat.le_of_ble_eq_true rfl) ?_
  exact hQ
abbrev M_Mo_sets : MD := (⟨"FelledByNamesModel", "sets", "(III)V"⟩, prog_14_method_10_code, 4, none, fun _ => True)
theorem d_Mo_sets_0 : decode prog_14_method_10_code 0 = .ok (.aload_n 0, 1) := by decide +kernel
theorem d_Mo_sets_1 : decode prog_14_method_10_code 1 = .ok (.getfield 7, 3) := by decide +kernel
theorem d_Mo_sets_4 : decode prog_14_method_10_code 4 = .ok (.bipush 50, 2) := by decide +kernel
theorem d_Mo_sets_6 : decode prog_14_method_10_code 6 = .ok (.bipush 7, 2) := by decide +kernel
theorem d_Mo_sets_8 : decode prog_14_method_10_code 8 = .ok (.iload_n 1, 1) := by decide +kernel
theorem d_Mo_sets_9 : decode prog_14_method_10_code 9 = .ok (.imul, 1) := by decide +kernel
theorem d_Mo_sets_10 : decode prog_14_method_10_code 10 = .ok (.iadd, 1) := by decide +kernel
theorem d_Mo_sets_11 : decode prog_14_method_10_code 11 = .ok (.iload_n 2, 1) := by decide +kernel
theorem d_Mo_sets_12 : decode prog_14_method_10_code 12 = .ok (.iadd, 1) := by decide +kernel
theorem d_Mo_sets_13 : decode prog_14_method_10_code 13 = .ok (.iload_n 3, 1) := by decide +kernel
theorem d_Mo_sets_14 : decode prog_14_method_10_code 14 = .ok (.iastore, 1) := by decide +kernel
theorem d_Mo_sets_15 : decode prog_14_method_10_code 15 = .ok (.return_, 1) := by decide +kernel
set_option maxRecDepth 100000 in
theorem c_Mo_sets {i j : Nat} {x : Int32} {l : Launch} {d q n : Nat} {D : Nat → Int32} {A : Nat → Nat → Int32} {S : Nat → Int32} {h0 : HP} {Q : QT} (hi : 50 + 7 * i + j < 278) (hQ : Q none n (mo q (upd D (50 + 7 * i + j) x) A S h0)) : Ct l M_Mo_sets d 0 0 [.ref q, .int (nI i), .int (nI j), .int x] n (mo q D A S h0) Q := by
  refine Ct.of (fun _ => trivial) (by decide) (Nat.le_of_ble_eq_true rfl) ?_
  refine V.aload_n d_Mo_sets_0 rfl ?_
  refine V.get d_Mo_sets_1 f_Mo_7_Mo mo_o rfl ?_
  refine V.bipush_ (nI 50) d_Mo_sets_4 (by decide +kernel) ?_
  refine V.bipush_ (nI 7) d_Mo_sets_6 (by decide +kernel) ?_
  refine V.iload_n d_Mo_sets_8 rfl ?_
  refine V.mulN d_Mo_sets_9 ?_
  refine V.addN d_Mo_sets_10 ?_
  refine V.iload_n d_Mo_sets_11 rfl ?_
  refine V.addN d_Mo_sets_12 ?_
  refine V.iload_n d_Mo_sets_13 rfl ?_
  refine V.mstd d_Mo_sets_14 (by omega) ?_
  refine V.vret d_Mo_sets_15 rfl (Nat.le_of_ble_eq_true rfl) (Nat.le_of_ble_eq_true rfl) ?_
  exact hQ
abbrev M_Mo_above : MD := (⟨"FelledByNamesModel", "above", "(I)I"⟩, prog_14_method_11_code, 1, (some .int), fun _ => True)
theorem d_Mo_above_0 : decode prog_14_method_11_code 0 = .ok (.iload_n 0, 1) := by decide +kernel
theorem d_Mo_above_1 : decode prog_14_method_11_code 1 = .ok (.iconst 3, 1) := by decide +kernel
theorem d_Mo_above_2 : decode prog_14_method_11_code 2 = .ok (.if_icmp .le 9, 3) := by decide +kernel
theorem d_Mo_above_11 : decode prog_14_method_11_code 11 = .ok (.iconst 0, 1) := by decide +kernel
theorem d_Mo_above_12 : decode prog_14_method_11_code 12 = .ok (.ireturn, 1) := by decide +kernel
theorem d_Mo_above_5 : decode prog_14_method_11_code 5 = .ok (.iload_n 0, 1) := by decide +kernel
theorem d_Mo_above_6 : decode prog_14_method_11_code 6 = .ok (.iconst 3, 1) := by decide +kernel
theorem d_Mo_above_7 : decode prog_14_method_11_code 7 = .ok (.isub, 1) := by decide +kernel
theorem d_Mo_above_8 : decode prog_14_method_11_code 8 = .ok (.goto 4, 3) := by decide +kernel
set_option maxRecDepth 100000 in
theorem c_Mo_above {i : Nat} {l : Launch} {d n : Nat} {h : HP} {Q : QT} (hi : i < 1000) (hQ : Q (some (.int (nI (i - 3)))) n h) : Ct l M_Mo_above d 0 0 [.int (nI i)] n h Q := by
  refine Ct.of (fun _ => trivial) (by decide) (Nat.le_of_ble_eq_true rfl) ?_
  refine V.iload_n d_Mo_above_0 rfl ?_
  refine V.iconst_ (nI 3) d_Mo_above_1 (by decide +kernel) ?_
  refine V.leN (tgt := 11) d_Mo_above_2 (by decide) (by omega) (by omega) (fun c_2 => ?_) (fun c_2 => ?_)
  · skip
    refine V.iconst_ (nI 0) d_Mo_above_11 (by decide +kernel) ?_
    refine V.iret d_Mo_above_12 rfl (Nat.le_of_ble_eq_true rfl) (Nat.le_of_ble_eq_true rfl) ?_
    first | exact hQ | (rw [show i - 3 = 0 by omega] at hQ; exact hQ)
  · skip
    refine V.iload_n d_Mo_above_5 rfl ?_
    refine V.iconst_ (nI 3) d_Mo_above_6 (by decide +kernel) ?_
    refine V.subN d_Mo_above_7 (by omega) ?_
    refine V.goto (tgt := 12) d_Mo_above_8 (by decide) ?_
    refine V.iret d_Mo_above_12 rfl (Nat.le_of_ble_eq_true rfl) (Nat.le_of_ble_eq_true rfl) ?_
    first | exact hQ | (rw [show i - 3 = 0 by omega] at hQ; exact hQ)
abbrev M_Mo_keepAside : MD := (⟨"FelledByNamesModel", "keepAside", "()V"⟩, prog_14_method_12_code, 2, none, fun _ => True)
theorem d_Mo_keepAside_0 : decode prog_14_method_12_code 0 = .ok (.iconst 0, 1) := by decide +kernel
theorem d_Mo_keepAside_1 : decode prog_14_method_12_code 1 = .ok (.istore_n 1, 1) := by decide +kernel
theorem d_Mo_keepAside_2 : decode prog_14_method_12_code 2 = .ok (.iload_n 1, 1) := by decide +kernel
theorem d_Mo_keepAside_3 : decode prog_14_method_12_code 3 = .ok (.bipush 106, 2) := by decide +kernel
theorem d_Mo_keepAside_5 : decode prog_14_method_12_code 5 = .ok (.if_icmp .ge 21, 3) := by decide +kernel
theorem d_Mo_keepAside_8 : decode prog_14_method_12_code 8 = .ok (.aload_n 0, 1) := by decide +kernel
theorem d_Mo_keepAside_9 : decode prog_14_method_12_code 9 = .ok (.getfield 16, 3) := by decide +kernel
theorem f_Mo_16_Mo : fok "FelledByNamesModel" 16 5 2 := ⟨R_Mo, F_Mo, 26, "FelledByNamesModel", rfl, i_Mo, by decide, tm 1061 (by decide +kernel) rfl, Or.inl rfl, t_Mo, t_Mo_ok, n_Mo⟩
theorem d_Mo_keepAside_12 : decode prog_14_method_12_code 12 = .ok (.iload_n 1, 1) := by decide +kernel
theorem d_Mo_keepAside_13 : decode prog_14_method_12_code 13 = .ok (.aload_n 0, 1) := by decide +kernel
theorem d_Mo_keepAside_14 : decode prog_14_method_12_code 14 = .ok (.getfield 7, 3) := by decide +kernel
theorem d_Mo_keepAside_17 : decode prog_14_method_12_code 17 = .ok (.iload_n 1, 1) := by decide +kernel
theorem d_Mo_keepAside_18 : decode prog_14_method_12_code 18 = .ok (.iaload, 1) := by decide +kernel
theorem d_Mo_keepAside_19 : decode prog_14_method_12_code 19 = .ok (.iastore, 1) := by decide +kernel
theorem d_Mo_keepAside_20 : decode prog_14_method_12_code 20 = .ok (.iinc 1 1, 3) := by decide +kernel
theorem d_Mo_keepAside_23 : decode prog_14_method_12_code 23 = .ok (.goto (-21), 3) := by decide +kernel
theorem d_Mo_keepAside_26 : decode prog_14_method_12_code 26 = .ok (.return_, 1) := by decide +kernel
set_option maxRecDepth 100000 in
theorem c_Mo_keepAside {l : Launch} {d q n : Nat} {D : Nat → Int32} {A : Nat → Nat → Int32} {S : Nat → Int32} {h0 : HP} {Q : QT} (hQ : Q none n (mo q D (uA A 2 (cpN 106 D (A 2))) S h0)) : Ct l M_Mo_keepAside d 0 0 [.ref q] n (mo q D A S h0) Q := by
  refine Ct.of (fun _ => trivial) (by decide) (Nat.le_of_ble_eq_true rfl) ?_
  refine V.iconst_ (nI 0) d_Mo_keepAside_0 (by decide +kernel) ?_
  refine V.istore_n d_Mo_keepAside_1 (by decide) ?_
  have hl := up_to (G := fun k => V l M_Mo_keepAside d 0 0 2 [(0, .ref q), (1, .int (nI k))] [] n (mo q D (uA A 2 (cpN k D (A 2))) S h0) 0 0 Q) 106 ?_ (fun k hk hn => ?_) 0 (Nat.zero_le _)
  · rw [cpN_0] at hl
    refine V.lc (ls' := [(0, .ref q), (1, .int (nI 0))]) rfl ?_
    first | exact hl | (refine V.eqH ?_ hl; congr 1; funext j; by_cases hj : j = 2 <;> simp [uA, hj])
  · skip
    refine V.iload_n d_Mo_keepAside_2 rfl ?_
    refine V.bipush_ (nI 106) d_Mo_keepAside_3 (by decide +kernel) ?_
    refine V.geN (tgt := 26) d_Mo_keepAside_5 (by decide) (by omega) (by omega) (fun c_5 => ?_) (fun c_5 => ?_)
    · skip
      refine V.vret d_Mo_keepAside_26 rfl (Nat.le_of_ble_eq_true rfl) (Nat.le_of_ble_eq_true rfl) ?_
      exact hQ
    · skip
      exact absurd c_5 (by omega)
  · skip
    rw [← cpN_s] at hn
    refine V.iload_n d_Mo_keepAside_2 rfl ?_
    refine V.bipush_ (nI 106) d_Mo_keepAside_3 (by decide +kernel) ?_
    refine V.geN (tgt := 26) d_Mo_keepAside_5 (by decide) (by omega) (by omega) (fun c_5 => ?_) (fun c_5 => ?_)
    · skip
      exact absurd c_5 (by omega)
    · skip
      refine V.aload_n d_Mo_keepAside_8 rfl ?_
      refine V.get d_Mo_keepAside_9 f_Mo_16_Mo mo_o rfl ?_
      refine V.iload_n d_Mo_keepAside_12 rfl ?_
      refine V.aload_n d_Mo_keepAside_13 rfl ?_
      refine V.get d_Mo_keepAside_14 f_Mo_7_Mo mo_o rfl ?_
      refine V.iload_n d_Mo_keepAside_17 rfl ?_
      refine V.mldd d_Mo_keepAside_18 (by omega) ?_
      refine V.msta 2 (by decide) (by decide) d_Mo_keepAside_19 (by first | omega | (show _ < 106; omega)) ?_
      refine V.incN d_Mo_keepAside_20 rfl (by decide) ?_
      refine V.goto (tgt := 2) d_Mo_keepAside_23 (by decide) ?_
      try simp only [uA_uu, uA_s]
      exact V.lc rfl (hn)
abbrev M_Mo_putBack : MD := (⟨"FelledByNamesModel", "putBack", "()V"⟩, prog_14_method_13_code, 2, none, fun _ => True)
theorem d_Mo_putBack_0 : decode prog_14_method_13_code 0 = .ok (.iconst 0, 1) := by decide +kernel
theorem d_Mo_putBack_1 : decode prog_14_method_13_code 1 = .ok (.istore_n 1, 1) := by decide +kernel
theorem d_Mo_putBack_2 : decode prog_14_method_13_code 2 = .ok (.iload_n 1, 1) := by decide +kernel
theorem d_Mo_putBack_3 : decode prog_14_method_13_code 3 = .ok (.bipush 106, 2) := by decide +kernel
theorem d_Mo_putBack_5 : decode prog_14_method_13_code 5 = .ok (.if_icmp .ge 21, 3) := by decide +kernel
theorem d_Mo_putBack_8 : decode prog_14_method_13_code 8 = .ok (.aload_n 0, 1) := by decide +kernel
theorem d_Mo_putBack_9 : decode prog_14_method_13_code 9 = .ok (.getfield 7, 3) := by decide +kernel
theorem d_Mo_putBack_12 : decode prog_14_method_13_code 12 = .ok (.iload_n 1, 1) := by decide +kernel
theorem d_Mo_putBack_13 : decode prog_14_method_13_code 13 = .ok (.aload_n 0, 1) := by decide +kernel
theorem d_Mo_putBack_14 : decode prog_14_method_13_code 14 = .ok (.getfield 16, 3) := by decide +kernel
theorem d_Mo_putBack_17 : decode prog_14_method_13_code 17 = .ok (.iload_n 1, 1) := by decide +kernel
theorem d_Mo_putBack_18 : decode prog_14_method_13_code 18 = .ok (.iaload, 1) := by decide +kernel
theorem d_Mo_putBack_19 : decode prog_14_method_13_code 19 = .ok (.iastore, 1) := by decide +kernel
theorem d_Mo_putBack_20 : decode prog_14_method_13_code 20 = .ok (.iinc 1 1, 3) := by decide +kernel
theorem d_Mo_putBack_23 : decode prog_14_method_13_code 23 = .ok (.goto (-21), 3) := by decide +kernel
theorem d_Mo_putBack_26 : decode prog_14_method_13_code 26 = .ok (.return_, 1) := by decide +kernel
set_option maxRecDepth 100000 in
theorem c_Mo_putBack {l : Launch} {d q n : Nat} {D : Nat → Int32} {A : Nat → Nat → Int32} {S : Nat → Int32} {h0 : HP} {Q : QT} (hQ : Q none n (mo q (cpN 106 (A 2) D) A S h0)) : Ct l M_Mo_putBack d 0 0 [.ref q] n (mo q D A S h0) Q := by
  refine Ct.of (fun _ => trivial) (by decide) (Nat.le_of_ble_eq_true rfl) ?_
  refine V.iconst_ (nI 0) d_Mo_putBack_0 (by decide +kernel) ?_
  refine V.istore_n d_Mo_putBack_1 (by decide) ?_
  have hl := up_to (G := fun k => V l M_Mo_putBack d 0 0 2 [(0, .ref q), (1, .int (nI k))] [] n (mo q (cpN k (A 2) D) A S h0) 0 0 Q) 106 ?_ (fun k hk hn => ?_) 0 (Nat.zero_le _)
  · rw [cpN_0] at hl
    refine V.lc (ls' := [(0, .ref q), (1, .int (nI 0))]) rfl ?_
    first | exact hl | (refine V.eqH ?_ hl; congr 1; funext j; by_cases hj : j = 2 <;> simp [uA, hj])
  · skip
    refine V.iload_n d_Mo_putBack_2 rfl ?_
    refine V.bipush_ (nI 106) d_Mo_putBack_3 (by decide +kernel) ?_
    refine V.geN (tgt := 26) d_Mo_putBack_5 (by decide) (by omega) (by omega) (fun c_5 => ?_) (fun c_5 => ?_)
    · skip
      refine V.vret d_Mo_putBack_26 rfl (Nat.le_of_ble_eq_true rfl) (Nat.le_of_ble_eq_true rfl) ?_
      exact hQ
    · skip
      exact absurd c_5 (by omega)
  · skip
    rw [← cpN_s] at hn
    refine V.iload_n d_Mo_putBack_2 rfl ?_
    refine V.bipush_ (nI 106) d_Mo_putBack_3 (by decide +kernel) ?_
    refine V.geN (tgt := 26) d_Mo_putBack_5 (by decide) (by omega) (by omega) (fun c_5 => ?_) (fun c_5 => ?_)
    · skip
      exact absurd c_5 (by omega)
    · skip
      refine V.aload_n d_Mo_putBack_8 rfl ?_
      refine V.get d_Mo_putBack_9 f_Mo_7_Mo mo_o rfl ?_
      refine V.iload_n d_Mo_putBack_12 rfl ?_
      refine V.aload_n d_Mo_putBack_13 rfl ?_
      refine V.get d_Mo_putBack_14 f_Mo_16_Mo mo_o rfl ?_
      refine V.iload_n d_Mo_putBack_17 rfl ?_
      refine V.mlda 2 (by decide) (by decide) d_Mo_putBack_18 (by first | omega | (show _ < 106; omega)) ?_
      refine V.mstd d_Mo_putBack_19 (by omega) ?_
      refine V.incN d_Mo_putBack_20 rfl (by decide) ?_
      refine V.goto (tgt := 2) d_Mo_putBack_23 (by decide) ?_
      try simp only [uA_uu, uA_s]
      exact V.lc rfl (hn)
end
section
def NB (D : Nat → Int32) (j b : Nat) : Prop := ∃ k, k ≤ b ∧ D j = nI k
def itr {α : Type} (f : Nat → α → α) : Nat → α → α
  | 0, x => x
  | k + 1, x => f k (itr f k x)
def irm (x y : Int32) : Int32 := x - x / y * y
def lim (D : Nat → Int32) (i : Nat) : Int32 := if D (50 + 7 * i + 0) = nI 1 then D (50 + 7 * i + 1) else if D (50 + 7 * i + 0) = nI 2 then D (50 + 7 * i + 1) / nI 2 else if D (50 + 7 * i + 0) = nI 3 then nI 5 else if D (50 + 7 * i + 0) = nI 4 then (if irm (D 1) (nI 2) = nI 1 then nI 0 else D (50 + 7 * i + 1)) else if D (50 + 7 * i + 0) = nI 5 then D (50 + 7 * i + 1) / nI 2 + nI 20 else if D (50 + 7 * i + 0) = nI 6 then nI 5 + D (50 + 7 * i + 5) / nI 10 else nI 0
def grw (D : Nat → Int32) (i : Nat) : Int32 := if D (50 + 7 * i + 0) = nI 1 ∨ D (50 + 7 * i + 0) = nI 4 then (if irm (D 1) (nI 3) = 0 then nI 1 else nI 0) else if D (50 + 7 * i + 0) = nI 3 then nI 1 else if D (50 + 7 * i + 0) = nI 6 then nI 2 else nI 0
def rch (D : Nat → Int32) (i : Nat) : Int32 := if D (50 + 7 * i + 0) = nI 5 then nI 0 else D (50 + 7 * i + 5) / nI 20
def stb (D : Nat → Int32) : Nat → Int32 := fun N => itr (fun t acc => acc ||| (D (50 + 7 * t + 6) <<< (nI t &&& 31))) N (nI 0)
def btc (x : Int32) : Int32 := itr (fun k acc => acc + ((x >>> (nI k &&& 31)) &&& nI 1)) 8 (nI 0)
def dn (w x y : Int32) : Int32 := if w = nI 38 then (if ¬ x = 0 ∧ ¬ y = 0 then nI 1 else nI 0) else if w = nI 42 then x * y else if w = nI 43 then x + y else if w = nI 45 then x - y else if w = nI 47 then (if y = 0 then nI 0 else x / y) else if w = nI 60 then (if x < y then nI 1 else nI 0) else if w = nI 61 then (if x = y then nI 1 else nI 0) else if w = nI 62 then (if y < x then nI 1 else nI 0) else if w = nI 124 then (if ¬ x = 0 ∨ ¬ y = 0 then nI 1 else nI 0) else (if y = 0 then nI 0 else irm x y)
abbrev M_Mo_hold0 : MD := (⟨"FelledByNamesModel", "hold0", "(II)I"⟩, prog_14_method_40_code, 3, (some .int), fun _ => True)
theorem d_Mo_hold0_0 : decode prog_14_method_40_code 0 = .ok (.aload_n 0, 1) := by decide +kernel
theorem d_Mo_hold0_1 : decode prog_14_method_40_code 1 = .ok (.getfield 7, 3) := by decide +kernel
theorem d_Mo_hold0_4 : decode prog_14_method_40_code 4 = .ok (.bipush 8, 2) := by decide +kernel
theorem d_Mo_hold0_6 : decode prog_14_method_40_code 6 = .ok (.bipush 6, 2) := by decide +kernel
theorem d_Mo_hold0_8 : decode prog_14_method_40_code 8 = .ok (.iload_n 1, 1) := by decide +kernel
theorem d_Mo_hold0_9 : decode prog_14_method_40_code 9 = .ok (.imul, 1) := by decide +kernel
theorem d_Mo_hold0_10 : decode prog_14_method_40_code 10 = .ok (.iadd, 1) := by decide +kernel
theorem d_Mo_hold0_11 : decode prog_14_method_40_code 11 = .ok (.iload_n 2, 1) := by decide +kernel
theorem d_Mo_hold0_12 : decode prog_14_method_40_code 12 = .ok (.iadd, 1) := by decide +kernel
theorem d_Mo_hold0_13 : decode prog_14_method_40_code 13 = .ok (.iaload, 1) := by decide +kernel
theorem d_Mo_hold0_14 : decode prog_14_method_40_code 14 = .ok (.ireturn, 1) := by decide +kernel
set_option maxRecDepth 100000 in
theorem c_Mo_hold0 {i j : Nat} {l : Launch} {d q n : Nat} {D : Nat → Int32} {A : Nat → Nat → Int32} {S : Nat → Int32} {h0 : HP} {Q : QT} (hi : 8 + 6 * i + j < 278) (hQ : Q (some (.int (D (8 + 6 * i + j)))) n (mo q D A S h0)) : Ct l M_Mo_hold0 d 0 0 [.ref q, .int (nI i), .int (nI j)] n (mo q D A S h0) Q := by
  refine Ct.of (fun _ => trivial) (by decide) (Nat.le_of_ble_eq_true rfl) ?_
  refine V.aload_n d_Mo_hold0_0 rfl ?_
  refine V.get d_Mo_hold0_1 f_Mo_7_Mo mo_o rfl ?_
  refine V.bipush_ (nI 8) d_Mo_hold0_4 (by decide +kernel) ?_
  refine V.bipush_ (nI 6) d_Mo_hold0_6 (by decide +kernel) ?_
  refine V.iload_n d_Mo_hold0_8 rfl ?_
  refine V.mulN d_Mo_hold0_9 ?_
  refine V.addN d_Mo_hold0_10 ?_
  refine V.iload_n d_Mo_hold0_11 rfl ?_
  refine V.addN d_Mo_hold0_12 ?_
  refine V.mldd d_Mo_hold0_13 (by omega) ?_
  refine V.iret d_Mo_hold0_14 rfl (Nat.le_of_ble_eq_true rfl) (Nat.le_of_ble_eq_true rfl) ?_
  exact hQ
abbrev M_Mo_limit : MD := (⟨"FelledByNamesModel", "limit", "(I)I"⟩, prog_14_method_33_code, 3, (some .int), fun _ => True)
theorem d_Mo_limit_0 : decode prog_14_method_33_code 0 = .ok (.aload_n 0, 1) := by decide +kernel
theorem d_Mo_limit_1 : decode prog_14_method_33_code 1 = .ok (.iload_n 1, 1) := by decide +kernel
theorem d_Mo_limit_2 : decode prog_14_method_33_code 2 = .ok (.iconst 1, 1) := by decide +kernel
theorem d_Mo_limit_3 : decode prog_14_method_33_code 3 = .ok (.invokevirtual 158, 3) := by decide +kernel
theorem kB_Mo_of : kB M_Mo_of 2 := ⟨tm 15 (by decide +kernel) rfl, tm 1286 (by decide +kernel) rfl, ⟨by decide, by decide, by decide +kernel⟩, by decide⟩
theorem k_Mo_158_Mo_of_MoV : kV "FelledByNamesModel" 158 5 M_Mo_of 2 := ⟨kB_Mo_of, tm 1283 (by decide +kernel) rfl, tm 1285 (by decide +kernel) rfl, tp 32 (by decide +kernel) rfl, _, rfl, rfl⟩
theorem d_Mo_limit_6 : decode prog_14_method_33_code 6 = .ok (.istore_n 2, 1) := by decide +kernel
theorem d_Mo_limit_7 : decode prog_14_method_33_code 7 = .ok (.aload_n 0, 1) := by decide +kernel
theorem d_Mo_limit_8 : decode prog_14_method_33_code 8 = .ok (.iload_n 1, 1) := by decide +kernel
theorem d_Mo_limit_9 : decode prog_14_method_33_code 9 = .ok (.iconst 0, 1) := by decide +kernel
theorem d_Mo_limit_10 : decode prog_14_method_33_code 10 = .ok (.invokevirtual 158, 3) := by decide +kernel
theorem d_Mo_limit_13 : decode prog_14_method_33_code 13 = .ok (.tableswitch 84 1 6 #[39, 41, 45, 47, 65, 72], 39) := by decide +kernel
theorem d_Mo_limit_97 : decode prog_14_method_33_code 97 = .ok (.iconst 0, 1) := by decide +kernel
theorem d_Mo_limit_98 : decode prog_14_method_33_code 98 = .ok (.ireturn, 1) := by decide +kernel
theorem d_Mo_limit_52 : decode prog_14_method_33_code 52 = .ok (.iload_n 2, 1) := by decide +kernel
theorem d_Mo_limit_53 : decode prog_14_method_33_code 53 = .ok (.ireturn, 1) := by decide +kernel
theorem d_Mo_limit_54 : decode prog_14_method_33_code 54 = .ok (.iload_n 2, 1) := by decide +kernel
theorem d_Mo_limit_55 : decode prog_14_method_33_code 55 = .ok (.iconst 2, 1) := by decide +kernel
theorem d_Mo_limit_56 : decode prog_14_method_33_code 56 = .ok (.idiv, 1) := by decide +kernel
theorem d_Mo_limit_57 : decode prog_14_method_33_code 57 = .ok (.ireturn, 1) := by decide +kernel
theorem d_Mo_limit_58 : decode prog_14_method_33_code 58 = .ok (.iconst 5, 1) := by decide +kernel
theorem d_Mo_limit_59 : decode prog_14_method_33_code 59 = .ok (.ireturn, 1) := by decide +kernel
theorem d_Mo_limit_60 : decode prog_14_method_33_code 60 = .ok (.aload_n 0, 1) := by decide +kernel
theorem d_Mo_limit_61 : decode prog_14_method_33_code 61 = .ok (.getfield 7, 3) := by decide +kernel
theorem d_Mo_limit_64 : decode prog_14_method_33_code 64 = .ok (.iconst 1, 1) := by decide +kernel
theorem d_Mo_limit_65 : decode prog_14_method_33_code 65 = .ok (.iaload, 1) := by decide +kernel
theorem d_Mo_limit_66 : decode prog_14_method_33_code 66 = .ok (.iconst 2, 1) := by decide +kernel
theorem d_Mo_limit_67 : decode prog_14_method_33_code 67 = .ok (.irem, 1) := by decide +kernel
theorem d_Mo_limit_68 : decode prog_14_method_33_code 68 = .ok (.iconst 1, 1) := by decide +kernel
theorem d_Mo_limit_69 : decode prog_14_method_33_code 69 = .ok (.if_icmp .ne 7, 3) := by decide +kernel
theorem d_Mo_limit_76 : decode prog_14_method_33_code 76 = .ok (.iload_n 2, 1) := by decide +kernel
theorem d_Mo_limit_77 : decode prog_14_method_33_code 77 = .ok (.ireturn, 1) := by decide +kernel
theorem d_Mo_limit_72 : decode prog_14_method_33_code 72 = .ok (.iconst 0, 1) := by decide +kernel
theorem d_Mo_limit_73 : decode prog_14_method_33_code 73 = .ok (.goto 4, 3) := by decide +kernel
theorem d_Mo_limit_78 : decode prog_14_method_33_code 78 = .ok (.iload_n 2, 1) := by decide +kernel
theorem d_Mo_limit_79 : decode prog_14_method_33_code 79 = .ok (.iconst 2, 1) := by decide +kernel
theorem d_Mo_limit_80 : decode prog_14_method_33_code 80 = .ok (.idiv, 1) := by decide +kernel
theorem d_Mo_limit_81 : decode prog_14_method_33_code 81 = .ok (.bipush 20, 2) := by decide +kernel
theorem d_Mo_limit_83 : decode prog_14_method_33_code 83 = .ok (.iadd, 1) := by decide +kernel
theorem d_Mo_limit_84 : decode prog_14_method_33_code 84 = .ok (.ireturn, 1) := by decide +kernel
theorem d_Mo_limit_85 : decode prog_14_method_33_code 85 = .ok (.iconst 5, 1) := by decide +kernel
theorem d_Mo_limit_86 : decode prog_14_method_33_code 86 = .ok (.aload_n 0, 1) := by decide +kernel
theorem d_Mo_limit_87 : decode prog_14_method_33_code 87 = .ok (.iload_n 1, 1) := by decide +kernel
theorem d_Mo_limit_88 : decode prog_14_method_33_code 88 = .ok (.iconst 5, 1) := by decide +kernel
theorem d_Mo_limit_89 : decode prog_14_method_33_code 89 = .ok (.invokevirtual 158, 3) := by decide +kernel
theorem d_Mo_limit_92 : decode prog_14_method_33_code 92 = .ok (.bipush 10, 2) := by decide +kernel
theorem d_Mo_limit_94 : decode prog_14_method_33_code 94 = .ok (.idiv, 1) := by decide +kernel
theorem d_Mo_limit_95 : decode prog_14_method_33_code 95 = .ok (.iadd, 1) := by decide +kernel
theorem d_Mo_limit_96 : decode prog_14_method_33_code 96 = .ok (.ireturn, 1) := by decide +kernel
set_option maxRecDepth 100000 in
theorem c_Mo_limit {i : Nat} {l : Launch} {d q n : Nat} {D : Nat → Int32} {A : Nat → Nat → Int32} {S : Nat → Int32} {h0 : HP} {Q : QT} (hi : i < 8) (hk : NB D (50 + 7 * i + 0) 6) (hQ : Q (some (.int (lim D i))) n (mo q D A S h0)) : Ct l M_Mo_limit (d + 1) 0 0 [.ref q, .int (nI i)] n (mo q D A S h0) Q := by
  refine Ct.of (fun _ => trivial) (by decide) (Nat.le_of_ble_eq_true rfl) ?_
  obtain ⟨kd, hkd, ekd⟩ := hk
  unfold lim at hQ
  rw [ekd] at hQ
  refine V.aload_n d_Mo_limit_0 rfl ?_
  refine V.iload_n d_Mo_limit_1 rfl ?_
  refine V.iconst_ (nI 1) d_Mo_limit_2 (by decide +kernel) ?_
  refine V.callV2 d_Mo_limit_3 k_Mo_158_Mo_of_MoV mo_o (Nat.le_of_ble_eq_true rfl) (by omega) (by omega) (c_Mo_of (by omega) ?_)
  refine V.istore_n d_Mo_limit_6 (by decide) ?_
  refine V.aload_n d_Mo_limit_7 rfl ?_
  refine V.iload_n d_Mo_limit_8 rfl ?_
  refine V.iconst_ (nI 0) d_Mo_limit_9 (by decide +kernel) ?_
  refine V.callV2 d_Mo_limit_10 k_Mo_158_Mo_of_MoV mo_o (Nat.le_of_ble_eq_true rfl) (by omega) (by omega) (c_Mo_of (by omega) ?_)
  refine V.top ekd ?_
  rcases (show kd = 0 ∨ kd = 1 ∨ kd = 2 ∨ kd = 3 ∨ kd = 4 ∨ kd = 5 ∨ kd = 6 by omega) with rfl | rfl | rfl | rfl | rfl | rfl | rfl
  · skip
    refine V.tabOut (tgt := 97) d_Mo_limit_13 (by decide +kernel) (by decide) ?_
    refine V.iconst_ (nI 0) d_Mo_limit_97 (by decide +kernel) ?_
    refine V.iret d_Mo_limit_98 rfl (Nat.le_of_ble_eq_true rfl) (Nat.le_of_ble_eq_true rfl) ?_
    first | exact hQ | (have e : irm (D 1) (nI 2) = nI 1 := Classical.byContradiction fun z => absurd c_69 (by first | exact z | exact fun y => y z); rw [if_pos e] at hQ; exact hQ) | (rw [if_pos (show irm (D 1) (nI 2) = nI 1 from c_69)] at hQ; exact hQ) | (rw [if_neg (show ¬ irm (D 1) (nI 2) = nI 1 from c_69)] at hQ; exact hQ)
  · skip
    refine V.tabIn (tgt := 52) (off := 39) d_Mo_limit_13 (by decide +kernel) (by decide +kernel) (by decide +kernel) (by decide) ?_
    refine V.iload_n d_Mo_limit_52 rfl ?_
    refine V.iret d_Mo_limit_53 rfl (Nat.le_of_ble_eq_true rfl) (Nat.le_of_ble_eq_true rfl) ?_
    first | exact hQ | (have e : irm (D 1) (nI 2) = nI 1 := Classical.byContradiction fun z => absurd c_69 (by first | exact z | exact fun y => y z); rw [if_pos e] at hQ; exact hQ) | (rw [if_pos (show irm (D 1) (nI 2) = nI 1 from c_69)] at hQ; exact hQ) | (rw [if_neg (show ¬ irm (D 1) (nI 2) = nI 1 from c_69)] at hQ; exact hQ)
  · skip
    refine V.tabIn (tgt := 54) (off := 41) d_Mo_limit_13 (by decide +kernel) (by decide +kernel) (by decide +kernel) (by decide) ?_
    refine V.iload_n d_Mo_limit_54 rfl ?_
    refine V.iconst_ (nI 2) d_Mo_limit_55 (by decide +kernel) ?_
    refine V.idiv d_Mo_limit_56 (by decide +kernel) ?_
    refine V.iret d_Mo_limit_57 rfl (Nat.le_of_ble_eq_true rfl) (Nat.le_of_ble_eq_true rfl) ?_
    first | exact hQ | (have e : irm (D 1) (nI 2) = nI 1 := Classical.byContradiction fun z => absurd c_69 (by first | exact z | exact fun y => y z); rw [if_pos e] at hQ; exact hQ) | (rw [if_pos (show irm (D 1) (nI 2) = nI 1 from c_69)] at hQ; exact hQ) | (rw [if_neg (show ¬ irm (D 1) (nI 2) = nI 1 from c_69)] at hQ; exact hQ)
  · skip
    refine V.tabIn (tgt := 58) (off := 45) d_Mo_limit_13 (by decide +kernel) (by decide +kernel) (by decide +kernel) (by decide) ?_
    refine V.iconst_ (nI 5) d_Mo_limit_58 (by decide +kernel) ?_
    refine V.iret d_Mo_limit_59 rfl (Nat.le_of_ble_eq_true rfl) (Nat.le_of_ble_eq_true rfl) ?_
    first | exact hQ | (have e : irm (D 1) (nI 2) = nI 1 := Classical.byContradiction fun z => absurd c_69 (by first | exact z | exact fun y => y z); rw [if_pos e] at hQ; exact hQ) | (rw [if_pos (show irm (D 1) (nI 2) = nI 1 from c_69)] at hQ; exact hQ) | (rw [if_neg (show ¬ irm (D 1) (nI 2) = nI 1 from c_69)] at hQ; exact hQ)
  · skip
    refine V.tabIn (tgt := 60) (off := 47) d_Mo_limit_13 (by decide +kernel) (by decide +kernel) (by decide +kernel) (by decide) ?_
    refine V.aload_n d_Mo_limit_60 rfl ?_
    refine V.get d_Mo_limit_61 f_Mo_7_Mo mo_o rfl ?_
    refine V.iconst_ (nI 1) d_Mo_limit_64 (by decide +kernel) ?_
    refine V.mldd d_Mo_limit_65 (by omega) ?_
    refine V.iconst_ (nI 2) d_Mo_limit_66 (by decide +kernel) ?_
    refine V.irem d_Mo_limit_67 (by decide +kernel) ?_
    refine V.iconst_ (nI 1) d_Mo_limit_68 (by decide +kernel) ?_
    refine V.icmp_ne (tgt := 76) d_Mo_limit_69 (by decide) (fun c_69 => ?_) (fun c_69 => ?_)
    · skip
      refine V.iload_n d_Mo_limit_76 rfl ?_
      refine V.iret d_Mo_limit_77 rfl (Nat.le_of_ble_eq_true rfl) (Nat.le_of_ble_eq_true rfl) ?_
      first | exact hQ | (have e : irm (D 1) (nI 2) = nI 1 := Classical.byContradiction fun z => absurd c_69 (by first | exact z | exact fun y => y z); rw [if_pos e] at hQ; exact hQ) | (rw [if_pos (show irm (D 1) (nI 2) = nI 1 from c_69)] at hQ; exact hQ) | (rw [if_neg (show ¬ irm (D 1) (nI 2) = nI 1 from c_69)] at hQ; exact hQ)
    · skip
      refine V.iconst_ (nI 0) d_Mo_limit_72 (by decide +kernel) ?_
      refine V.goto (tgt := 77) d_Mo_limit_73 (by decide) ?_
      refine V.iret d_Mo_limit_77 rfl (Nat.le_of_ble_eq_true rfl) (Nat.le_of_ble_eq_true rfl) ?_
      first | exact hQ | (have e : irm (D 1) (nI 2) = nI 1 := Classical.byContradiction fun z => absurd c_69 (by first | exact z | exact fun y => y z); rw [if_pos e] at hQ; exact hQ) | (rw [if_pos (show irm (D 1) (nI 2) = nI 1 from c_69)] at hQ; exact hQ) | (rw [if_neg (show ¬ irm (D 1) (nI 2) = nI 1 from c_69)] at hQ; exact hQ)
  · skip
    refine V.tabIn (tgt := 78) (off := 65) d_Mo_limit_13 (by decide +kernel) (by decide +kernel) (by decide +kernel) (by decide) ?_
    refine V.iload_n d_Mo_limit_78 rfl ?_
    refine V.iconst_ (nI 2) d_Mo_limit_79 (by decide +kernel) ?_
    refine V.idiv d_Mo_limit_80 (by decide +kernel) ?_
    refine V.bipush_ (nI 20) d_Mo_limit_81 (by decide +kernel) ?_
    refine V.iadd d_Mo_limit_83 ?_
    refine V.iret d_Mo_limit_84 rfl (Nat.le_of_ble_eq_true rfl) (Nat.le_of_ble_eq_true rfl) ?_
    first | exact hQ | (have e : irm (D 1) (nI 2) = nI 1 := Classical.byContradiction fun z => absurd c_69 (by first | exact z | exact fun y => y z); rw [if_pos e] at hQ; exact hQ) | (rw [if_pos (show irm (D 1) (nI 2) = nI 1 from c_69)] at hQ; exact hQ) | (rw [if_neg (show ¬ irm (D 1) (nI 2) = nI 1 from c_69)] at hQ; exact hQ)
  · skip
    refine V.tabIn (tgt := 85) (off := 72) d_Mo_limit_13 (by decide +kernel) (by decide +kernel) (by decide +kernel) (by decide) ?_
    refine V.iconst_ (nI 5) d_Mo_limit_85 (by decide +kernel) ?_
    refine V.aload_n d_Mo_limit_86 rfl ?_
    refine V.iload_n d_Mo_limit_87 rfl ?_
    refine V.iconst_ (nI 5) d_Mo_limit_88 (by decide +kernel) ?_
    refine V.callV2 d_Mo_limit_89 k_Mo_158_Mo_of_MoV mo_o (Nat.le_of_ble_eq_true rfl) (by omega) (by omega) (c_Mo_of (by omega) ?_)
    refine V.bipush_ (nI 10) d_Mo_limit_92 (by decide +kernel) ?_
    refine V.idiv d_Mo_limit_94 (by decide +kernel) ?_
    refine V.iadd d_Mo_limit_95 ?_
    refine V.iret d_Mo_limit_96 rfl (Nat.le_of_ble_eq_true rfl) (Nat.le_of_ble_eq_true rfl) ?_
    first | exact hQ | (have e : irm (D 1) (nI 2) = nI 1 := Classical.byContradiction fun z => absurd c_69 (by first | exact z | exact fun y => y z); rw [if_pos e] at hQ; exact hQ) | (rw [if_pos (show irm (D 1) (nI 2) = nI 1 from c_69)] at hQ; exact hQ) | (rw [if_neg (show ¬ irm (D 1) (nI 2) = nI 1 from c_69)] at hQ; exact hQ)
abbrev M_Mo_grows : MD := (⟨"FelledByNamesModel", "grows", "(I)I"⟩, prog_14_method_34_code, 2, (some .int), fun _ => True)
theorem d_Mo_grows_0 : decode prog_14_method_34_code 0 = .ok (.aload_n 0, 1) := by decide +kernel
theorem d_Mo_grows_1 : decode prog_14_method_34_code 1 = .ok (.iload_n 1, 1) := by decide +kernel
theorem d_Mo_grows_2 : decode prog_14_method_34_code 2 = .ok (.iconst 0, 1) := by decide +kernel
theorem d_Mo_grows_3 : decode prog_14_method_34_code 3 = .ok (.invokevirtual 158, 3) := by decide +kernel
theorem d_Mo_grows_6 : decode prog_14_method_34_code 6 = .ok (.tableswitch 59 1 6 #[38, 59, 55, 38, 59, 57], 38) := by decide +kernel
theorem d_Mo_grows_65 : decode prog_14_method_34_code 65 = .ok (.iconst 0, 1) := by decide +kernel
theorem d_Mo_grows_66 : decode prog_14_method_34_code 66 = .ok (.ireturn, 1) := by decide +kernel
theorem d_Mo_grows_44 : decode prog_14_method_34_code 44 = .ok (.aload_n 0, 1) := by decide +kernel
theorem d_Mo_grows_45 : decode prog_14_method_34_code 45 = .ok (.getfield 7, 3) := by decide +kernel
theorem d_Mo_grows_48 : decode prog_14_method_34_code 48 = .ok (.iconst 1, 1) := by decide +kernel
theorem d_Mo_grows_49 : decode prog_14_method_34_code 49 = .ok (.iaload, 1) := by decide +kernel
theorem d_Mo_grows_50 : decode prog_14_method_34_code 50 = .ok (.iconst 3, 1) := by decide +kernel
theorem d_Mo_grows_51 : decode prog_14_method_34_code 51 = .ok (.irem, 1) := by decide +kernel
theorem d_Mo_grows_52 : decode prog_14_method_34_code 52 = .ok (.ifCond .ne 7, 3) := by decide +kernel
theorem d_Mo_grows_59 : decode prog_14_method_34_code 59 = .ok (.iconst 0, 1) := by decide +kernel
theorem d_Mo_grows_60 : decode prog_14_method_34_code 60 = .ok (.ireturn, 1) := by decide +kernel
theorem d_Mo_grows_55 : decode prog_14_method_34_code 55 = .ok (.iconst 1, 1) := by decide +kernel
theorem d_Mo_grows_56 : decode prog_14_method_34_code 56 = .ok (.goto 4, 3) := by decide +kernel
theorem d_Mo_grows_61 : decode prog_14_method_34_code 61 = .ok (.iconst 1, 1) := by decide +kernel
theorem d_Mo_grows_62 : decode prog_14_method_34_code 62 = .ok (.ireturn, 1) := by decide +kernel
theorem d_Mo_grows_63 : decode prog_14_method_34_code 63 = .ok (.iconst 2, 1) := by decide +kernel
theorem d_Mo_grows_64 : decode prog_14_method_34_code 64 = .ok (.ireturn, 1) := by decide +kernel
set_option maxRecDepth 100000 in
theorem c_Mo_grows {i : Nat} {l : Launch} {d q n : Nat} {D : Nat → Int32} {A : Nat → Nat → Int32} {S : Nat → Int32} {h0 : HP} {Q : QT} (hi : i < 8) (hk : NB D (50 + 7 * i + 0) 6) (hQ : Q (some (.int (grw D i))) n (mo q D A S h0)) : Ct l M_Mo_grows (d + 1) 0 0 [.ref q, .int (nI i)] n (mo q D A S h0) Q := by
  refine Ct.of (fun _ => trivial) (by decide) (Nat.le_of_ble_eq_true rfl) ?_
  obtain ⟨kd, hkd, ekd⟩ := hk
  unfold grw at hQ
  rw [ekd] at hQ
  refine V.aload_n d_Mo_grows_0 rfl ?_
  refine V.iload_n d_Mo_grows_1 rfl ?_
  refine V.iconst_ (nI 0) d_Mo_grows_2 (by decide +kernel) ?_
  refine V.callV2 d_Mo_grows_3 k_Mo_158_Mo_of_MoV mo_o (Nat.le_of_ble_eq_true rfl) (by omega) (by omega) (c_Mo_of (by omega) ?_)
  refine V.top ekd ?_
  rcases (show kd = 0 ∨ kd = 1 ∨ kd = 2 ∨ kd = 3 ∨ kd = 4 ∨ kd = 5 ∨ kd = 6 by omega) with rfl | rfl | rfl | rfl | rfl | rfl | rfl
  · skip
    refine V.tabOut (tgt := 65) d_Mo_grows_6 (by decide +kernel) (by decide) ?_
    refine V.iconst_ (nI 0) d_Mo_grows_65 (by decide +kernel) ?_
    refine V.iret d_Mo_grows_66 rfl (Nat.le_of_ble_eq_true rfl) (Nat.le_of_ble_eq_true rfl) ?_
    first | exact hQ | (rw [if_pos (by decide +kernel), if_pos (show irm (D 1) (nI 3) = 0 from c_52)] at hQ; exact hQ) | (rw [if_pos (by decide +kernel), if_neg (show ¬ irm (D 1) (nI 3) = 0 from c_52)] at hQ; exact hQ) | (rw [if_neg (by decide +kernel)] at hQ; exact hQ)
  · skip
    refine V.tabIn (tgt := 44) (off := 38) d_Mo_grows_6 (by decide +kernel) (by decide +kernel) (by decide +kernel) (by decide) ?_
    refine V.aload_n d_Mo_grows_44 rfl ?_
    refine V.get d_Mo_grows_45 f_Mo_7_Mo mo_o rfl ?_
    refine V.iconst_ (nI 1) d_Mo_grows_48 (by decide +kernel) ?_
    refine V.mldd d_Mo_grows_49 (by omega) ?_
    refine V.iconst_ (nI 3) d_Mo_grows_50 (by decide +kernel) ?_
    refine V.irem d_Mo_grows_51 (by decide +kernel) ?_
    refine V.if_ne (tgt := 59) d_Mo_grows_52 (by decide) (fun c_52 => ?_) (fun c_52 => ?_)
    · skip
      refine V.iconst_ (nI 0) d_Mo_grows_59 (by decide +kernel) ?_
      refine V.iret d_Mo_grows_60 rfl (Nat.le_of_ble_eq_true rfl) (Nat.le_of_ble_eq_true rfl) ?_
      first | exact hQ | (rw [if_pos (by decide +kernel), if_pos (show irm (D 1) (nI 3) = 0 from c_52)] at hQ; exact hQ) | (rw [if_pos (by decide +kernel), if_neg (show ¬ irm (D 1) (nI 3) = 0 from c_52)] at hQ; exact hQ) | (rw [if_neg (by decide +kernel)] at hQ; exact hQ)
    · skip
      refine V.iconst_ (nI 1) d_Mo_grows_55 (by decide +kernel) ?_
      refine V.goto (tgt := 60) d_Mo_grows_56 (by decide) ?_
      refine V.iret d_Mo_grows_60 rfl (Nat.le_of_ble_eq_true rfl) (Nat.le_of_ble_eq_true rfl) ?_
      first | exact hQ | (rw [if_pos (by decide +kernel), if_pos (show irm (D 1) (nI 3) = 0 from c_52)] at hQ; exact hQ) | (rw [if_pos (by decide +kernel), if_neg (show ¬ irm (D 1) (nI 3) = 0 from c_52)] at hQ; exact hQ) | (rw [if_neg (by decide +kernel)] at hQ; exact hQ)
  · skip
    refine V.tabIn (tgt := 65) (off := 59) d_Mo_grows_6 (by decide +kernel) (by decide +kernel) (by decide +kernel) (by decide) ?_
    refine V.iconst_ (nI 0) d_Mo_grows_65 (by decide +kernel) ?_
    refine V.iret d_Mo_grows_66 rfl (Nat.le_of_ble_eq_true rfl) (Nat.le_of_ble_eq_true rfl) ?_
    first | exact hQ | (rw [if_pos (by decide +kernel), if_pos (show irm (D 1) (nI 3) = 0 from c_52)] at hQ; exact hQ) | (rw [if_pos (by decide +kernel), if_neg (show ¬ irm (D 1) (nI 3) = 0 from c_52)] at hQ; exact hQ) | (rw [if_neg (by decide +kernel)] at hQ; exact hQ)
  · skip
    refine V.tabIn (tgt := 61) (off := 55) d_Mo_grows_6 (by decide +kernel) (by decide +kernel) (by decide +kernel) (by decide) ?_
    refine V.iconst_ (nI 1) d_Mo_grows_61 (by decide +kernel) ?_
    refine V.iret d_Mo_grows_62 rfl (Nat.le_of_ble_eq_true rfl) (Nat.le_of_ble_eq_true rfl) ?_
    first | exact hQ | (rw [if_pos (by decide +kernel), if_pos (show irm (D 1) (nI 3) = 0 from c_52)] at hQ; exact hQ) | (rw [if_pos (by decide +kernel), if_neg (show ¬ irm (D 1) (nI 3) = 0 from c_52)] at hQ; exact hQ) | (rw [if_neg (by decide +kernel)] at hQ; exact hQ)
  · skip
    refine V.tabIn (tgt := 44) (off := 38) d_Mo_grows_6 (by decide +kernel) (by decide +kernel) (by decide +kernel) (by decide) ?_
    refine V.aload_n d_Mo_grows_44 rfl ?_
    refine V.get d_Mo_grows_45 f_Mo_7_Mo mo_o rfl ?_
    refine V.iconst_ (nI 1) d_Mo_grows_48 (by decide +kernel) ?_
    refine V.mldd d_Mo_grows_49 (by omega) ?_
    refine V.iconst_ (nI 3) d_Mo_grows_50 (by decide +kernel) ?_
    refine V.irem d_Mo_grows_51 (by decide +kernel) ?_
    refine V.if_ne (tgt := 59) d_Mo_grows_52 (by decide) (fun c_52 => ?_) (fun c_52 => ?_)
    · skip
      refine V.iconst_ (nI 0) d_Mo_grows_59 (by decide +kernel) ?_
      refine V.iret d_Mo_grows_60 rfl (Nat.le_of_ble_eq_true rfl) (Nat.le_of_ble_eq_true rfl) ?_
      first | exact hQ | (rw [if_pos (by decide +kernel), if_pos (show irm (D 1) (nI 3) = 0 from c_52)] at hQ; exact hQ) | (rw [if_pos (by decide +kernel), if_neg (show ¬ irm (D 1) (nI 3) = 0 from c_52)] at hQ; exact hQ) | (rw [if_neg (by decide +kernel)] at hQ; exact hQ)
    · skip
      refine V.iconst_ (nI 1) d_Mo_grows_55 (by decide +kernel) ?_
      refine V.goto (tgt := 60) d_Mo_grows_56 (by decide) ?_
      refine V.iret d_Mo_grows_60 rfl (Nat.le_of_ble_eq_true rfl) (Nat.le_of_ble_eq_true rfl) ?_
      first | exact hQ | (rw [if_pos (by decide +kernel), if_pos (show irm (D 1) (nI 3) = 0 from c_52)] at hQ; exact hQ) | (rw [if_pos (by decide +kernel), if_neg (show ¬ irm (D 1) (nI 3) = 0 from c_52)] at hQ; exact hQ) | (rw [if_neg (by decide +kernel)] at hQ; exact hQ)
  · skip
    refine V.tabIn (tgt := 65) (off := 59) d_Mo_grows_6 (by decide +kernel) (by decide +kernel) (by decide +kernel) (by decide) ?_
    refine V.iconst_ (nI 0) d_Mo_grows_65 (by decide +kernel) ?_
    refine V.iret d_Mo_grows_66 rfl (Nat.le_of_ble_eq_true rfl) (Nat.le_of_ble_eq_true rfl) ?_
    first | exact hQ | (rw [if_pos (by decide +kernel), if_pos (show irm (D 1) (nI 3) = 0 from c_52)] at hQ; exact hQ) | (rw [if_pos (by decide +kernel), if_neg (show ¬ irm (D 1) (nI 3) = 0 from c_52)] at hQ; exact hQ) | (rw [if_neg (by decide +kernel)] at hQ; exact hQ)
  · skip
    refine V.tabIn (tgt := 63) (off := 57) d_Mo_grows_6 (by decide +kernel) (by decide +kernel) (by decide +kernel) (by decide) ?_
    refine V.iconst_ (nI 2) d_Mo_grows_63 (by decide +kernel) ?_
    refine V.iret d_Mo_grows_64 rfl (Nat.le_of_ble_eq_true rfl) (Nat.le_of_ble_eq_true rfl) ?_
    first | exact hQ | (rw [if_pos (by decide +kernel), if_pos (show irm (D 1) (nI 3) = 0 from c_52)] at hQ; exact hQ) | (rw [if_pos (by decide +kernel), if_neg (show ¬ irm (D 1) (nI 3) = 0 from c_52)] at hQ; exact hQ) | (rw [if_neg (by decide +kernel)] at hQ; exact hQ)
abbrev M_Mo_reaches : MD := (⟨"FelledByNamesModel", "reaches", "(I)I"⟩, prog_14_method_35_code, 2, (some .int), fun _ => True)
theorem d_Mo_reaches_0 : decode prog_14_method_35_code 0 = .ok (.aload_n 0, 1) := by decide +kernel
theorem d_Mo_reaches_1 : decode prog_14_method_35_code 1 = .ok (.iload_n 1, 1) := by decide +kernel
theorem d_Mo_reaches_2 : decode prog_14_method_35_code 2 = .ok (.iconst 0, 1) := by decide +kernel
theorem d_Mo_reaches_3 : decode prog_14_method_35_code 3 = .ok (.invokevirtual 158, 3) := by decide +kernel
theorem d_Mo_reaches_6 : decode prog_14_method_35_code 6 = .ok (.iconst 5, 1) := by decide +kernel
theorem d_Mo_reaches_7 : decode prog_14_method_35_code 7 = .ok (.if_icmp .ne 7, 3) := by decide +kernel
theorem d_Mo_reaches_14 : decode prog_14_method_35_code 14 = .ok (.aload_n 0, 1) := by decide +kernel
theorem d_Mo_reaches_15 : decode prog_14_method_35_code 15 = .ok (.iload_n 1, 1) := by decide +kernel
theorem d_Mo_reaches_16 : decode prog_14_method_35_code 16 = .ok (.iconst 5, 1) := by decide +kernel
theorem d_Mo_reaches_17 : decode prog_14_method_35_code 17 = .ok (.invokevirtual 158, 3) := by decide +kernel
theorem d_Mo_reaches_20 : decode prog_14_method_35_code 20 = .ok (.bipush 20, 2) := by decide +kernel
theorem d_Mo_reaches_22 : decode prog_14_method_35_code 22 = .ok (.idiv, 1) := by decide +kernel
theorem d_Mo_reaches_23 : decode prog_14_method_35_code 23 = .ok (.ireturn, 1) := by decide +kernel
theorem d_Mo_reaches_10 : decode prog_14_method_35_code 10 = .ok (.iconst 0, 1) := by decide +kernel
theorem d_Mo_reaches_11 : decode prog_14_method_35_code 11 = .ok (.goto 12, 3) := by decide +kernel
set_option maxRecDepth 100000 in
theorem c_Mo_reaches {i : Nat} {l : Launch} {d q n : Nat} {D : Nat → Int32} {A : Nat → Nat → Int32} {S : Nat → Int32} {h0 : HP} {Q : QT} (hi : i < 8) (hQ : Q (some (.int (rch D i))) n (mo q D A S h0)) : Ct l M_Mo_reaches (d + 1) 0 0 [.ref q, .int (nI i)] n (mo q D A S h0) Q := by
  refine Ct.of (fun _ => trivial) (by decide) (Nat.le_of_ble_eq_true rfl) ?_
  refine V.aload_n d_Mo_reaches_0 rfl ?_
  refine V.iload_n d_Mo_reaches_1 rfl ?_
  refine V.iconst_ (nI 0) d_Mo_reaches_2 (by decide +kernel) ?_
  refine V.callV2 d_Mo_reaches_3 k_Mo_158_Mo_of_MoV mo_o (Nat.le_of_ble_eq_true rfl) (by omega) (by omega) (c_Mo_of (by omega) ?_)
  refine V.iconst_ (nI 5) d_Mo_reaches_6 (by decide +kernel) ?_
  refine V.icmp_ne (tgt := 14) d_Mo_reaches_7 (by decide) (fun c_7 => ?_) (fun c_7 => ?_)
  · skip
    refine V.aload_n d_Mo_reaches_14 rfl ?_
    refine V.iload_n d_Mo_reaches_15 rfl ?_
    refine V.iconst_ (nI 5) d_Mo_reaches_16 (by decide +kernel) ?_
    refine V.callV2 d_Mo_reaches_17 k_Mo_158_Mo_of_MoV mo_o (Nat.le_of_ble_eq_true rfl) (by omega) (by omega) (c_Mo_of (by omega) ?_)
    refine V.bipush_ (nI 20) d_Mo_reaches_20 (by decide +kernel) ?_
    refine V.idiv d_Mo_reaches_22 (by decide +kernel) ?_
    refine V.iret d_Mo_reaches_23 rfl (Nat.le_of_ble_eq_true rfl) (Nat.le_of_ble_eq_true rfl) ?_
    unfold rch at hQ
    first | (rw [if_pos c_7] at hQ; exact hQ) | (rw [if_neg c_7] at hQ; exact hQ)
  · skip
    refine V.iconst_ (nI 0) d_Mo_reaches_10 (by decide +kernel) ?_
    refine V.goto (tgt := 23) d_Mo_reaches_11 (by decide) ?_
    refine V.iret d_Mo_reaches_23 rfl (Nat.le_of_ble_eq_true rfl) (Nat.le_of_ble_eq_true rfl) ?_
    unfold rch at hQ
    first | (rw [if_pos c_7] at hQ; exact hQ) | (rw [if_neg c_7] at hQ; exact hQ)
abbrev M_Mo_standing : MD := (⟨"FelledByNamesModel", "standing", "()I"⟩, prog_14_method_36_code, 3, (some .int), fun _ => True)
theorem d_Mo_standing_0 : decode prog_14_method_36_code 0 = .ok (.iconst 0, 1) := by decide +kernel
theorem d_Mo_standing_1 : decode prog_14_method_36_code 1 = .ok (.istore_n 1, 1) := by decide +kernel
theorem d_Mo_standing_2 : decode prog_14_method_36_code 2 = .ok (.iconst 0, 1) := by decide +kernel
theorem d_Mo_standing_3 : decode prog_14_method_36_code 3 = .ok (.istore_n 2, 1) := by decide +kernel
theorem d_Mo_standing_4 : decode prog_14_method_36_code 4 = .ok (.iload_n 2, 1) := by decide +kernel
theorem d_Mo_standing_5 : decode prog_14_method_36_code 5 = .ok (.aload_n 0, 1) := by decide +kernel
theorem d_Mo_standing_6 : decode prog_14_method_36_code 6 = .ok (.getfield 7, 3) := by decide +kernel
theorem d_Mo_standing_9 : decode prog_14_method_36_code 9 = .ok (.iconst 0, 1) := by decide +kernel
theorem d_Mo_standing_10 : decode prog_14_method_36_code 10 = .ok (.iaload, 1) := by decide +kernel
theorem d_Mo_standing_11 : decode prog_14_method_36_code 11 = .ok (.if_icmp .ge 21, 3) := by decide +kernel
theorem d_Mo_standing_32 : decode prog_14_method_36_code 32 = .ok (.iload_n 1, 1) := by decide +kernel
theorem d_Mo_standing_33 : decode prog_14_method_36_code 33 = .ok (.ireturn, 1) := by decide +kernel
theorem d_Mo_standing_14 : decode prog_14_method_36_code 14 = .ok (.iload_n 1, 1) := by decide +kernel
theorem d_Mo_standing_15 : decode prog_14_method_36_code 15 = .ok (.aload_n 0, 1) := by decide +kernel
theorem d_Mo_standing_16 : decode prog_14_method_36_code 16 = .ok (.iload_n 2, 1) := by decide +kernel
theorem d_Mo_standing_17 : decode prog_14_method_36_code 17 = .ok (.bipush 6, 2) := by decide +kernel
theorem d_Mo_standing_19 : decode prog_14_method_36_code 19 = .ok (.invokevirtual 158, 3) := by decide +kernel
theorem d_Mo_standing_22 : decode prog_14_method_36_code 22 = .ok (.iload_n 2, 1) := by decide +kernel
theorem d_Mo_standing_23 : decode prog_14_method_36_code 23 = .ok (.ishl, 1) := by decide +kernel
theorem d_Mo_standing_24 : decode prog_14_method_36_code 24 = .ok (.ior, 1) := by decide +kernel
theorem d_Mo_standing_25 : decode prog_14_method_36_code 25 = .ok (.istore_n 1, 1) := by decide +kernel
theorem d_Mo_standing_26 : decode prog_14_method_36_code 26 = .ok (.iinc 2 1, 3) := by decide +kernel
theorem d_Mo_standing_29 : decode prog_14_method_36_code 29 = .ok (.goto (-25), 3) := by decide +kernel
set_option maxRecDepth 100000 in
theorem c_Mo_standing {N : Nat} {l : Launch} {d q n : Nat} {D : Nat → Int32} {A : Nat → Nat → Int32} {S : Nat → Int32} {h0 : HP} {Q : QT} (hN : N ≤ 8) (e0 : D 0 = nI N) (hQ : Q (some (.int (stb D N))) n (mo q D A S h0)) : Ct l M_Mo_standing (d + 1) 0 0 [.ref q] n (mo q D A S h0) Q := by
  refine Ct.of (fun _ => trivial) (by decide) (Nat.le_of_ble_eq_true rfl) ?_
  refine V.iconst_ (nI 0) d_Mo_standing_0 (by decide +kernel) ?_
  refine V.istore_n d_Mo_standing_1 (by decide) ?_
  refine V.iconst_ (nI 0) d_Mo_standing_2 (by decide +kernel) ?_
  refine V.istore_n d_Mo_standing_3 (by decide) ?_
  refine V.lc (ls' := [(0, .ref q), (1, .int (stb D 0)), (2, .int (nI 0))]) rfl ?_
  refine up_to (G := fun k => V l M_Mo_standing (d + 1) 0 0 4 [(0, .ref q), (1, .int (stb D k)), (2, .int (nI k))] [] n (mo q D A S h0) 0 0 Q) (N) ?_ (fun k hk hn => ?_) 0 (by omega)
  · skip
    refine V.iload_n d_Mo_standing_4 rfl ?_
    refine V.aload_n d_Mo_standing_5 rfl ?_
    refine V.get d_Mo_standing_6 f_Mo_7_Mo mo_o rfl ?_
    refine V.iconst_ (nI 0) d_Mo_standing_9 (by decide +kernel) ?_
    refine V.mldd d_Mo_standing_10 (by omega) ?_
    refine V.top e0 ?_
    refine V.geN (tgt := 32) d_Mo_standing_11 (by decide) (by omega) (by omega) (fun c_11 => ?_) (fun c_11 => ?_)
    · skip
      refine V.iload_n d_Mo_standing_32 rfl ?_
      refine V.iret d_Mo_standing_33 rfl (Nat.le_of_ble_eq_true rfl) (Nat.le_of_ble_eq_true rfl) ?_
      exact hQ
    · skip
      exact absurd c_11 (by omega)
  · skip
    refine V.iload_n d_Mo_standing_4 rfl ?_
    refine V.aload_n d_Mo_standing_5 rfl ?_
    refine V.get d_Mo_standing_6 f_Mo_7_Mo mo_o rfl ?_
    refine V.iconst_ (nI 0) d_Mo_standing_9 (by decide +kernel) ?_
    refine V.mldd d_Mo_standing_10 (by omega) ?_
    refine V.top e0 ?_
    refine V.geN (tgt := 32) d_Mo_standing_11 (by decide) (by omega) (by omega) (fun c_11 => ?_) (fun c_11 => ?_)
    · skip
      exact absurd c_11 (by omega)
    · skip
      refine V.iload_n d_Mo_standing_14 rfl ?_
      refine V.aload_n d_Mo_standing_15 rfl ?_
      refine V.iload_n d_Mo_standing_16 rfl ?_
      refine V.bipush_ (nI 6) d_Mo_standing_17 (by decide +kernel) ?_
      refine V.callV2 d_Mo_standing_19 k_Mo_158_Mo_of_MoV mo_o (Nat.le_of_ble_eq_true rfl) (by omega) (by omega) (c_Mo_of (by omega) ?_)
      refine V.iload_n d_Mo_standing_22 rfl ?_
      refine V.ishl d_Mo_standing_23 ?_
      refine V.ior d_Mo_standing_24 ?_
      refine V.istore_n d_Mo_standing_25 (by decide) ?_
      refine V.incN d_Mo_standing_26 rfl (by decide) ?_
      refine V.goto (tgt := 4) d_Mo_standing_29 (by decide) ?_
      exact V.lc rfl hn
abbrev M_Mo_bits : MD := (⟨"FelledByNamesModel", "bits", "(I)I"⟩, prog_14_method_37_code, 3, (some .int), fun _ => True)
theorem d_Mo_bits_0 : decode prog_14_method_37_code 0 = .ok (.iconst 0, 1) := by decide +kernel
theorem d_Mo_bits_1 : decode prog_14_method_37_code 1 = .ok (.istore_n 1, 1) := by decide +kernel
theorem d_Mo_bits_2 : decode prog_14_method_37_code 2 = .ok (.iconst 0, 1) := by decide +kernel
theorem d_Mo_bits_3 : decode prog_14_method_37_code 3 = .ok (.istore_n 2, 1) := by decide +kernel
theorem d_Mo_bits_4 : decode prog_14_method_37_code 4 = .ok (.iload_n 2, 1) := by decide +kernel
theorem d_Mo_bits_5 : decode prog_14_method_37_code 5 = .ok (.bipush 8, 2) := by decide +kernel
theorem d_Mo_bits_7 : decode prog_14_method_37_code 7 = .ok (.if_icmp .ge 17, 3) := by decide +kernel
theorem d_Mo_bits_24 : decode prog_14_method_37_code 24 = .ok (.iload_n 1, 1) := by decide +kernel
theorem d_Mo_bits_25 : decode prog_14_method_37_code 25 = .ok (.ireturn, 1) := by decide +kernel
theorem d_Mo_bits_10 : decode prog_14_method_37_code 10 = .ok (.iload_n 1, 1) := by decide +kernel
theorem d_Mo_bits_11 : decode prog_14_method_37_code 11 = .ok (.iload_n 0, 1) := by decide +kernel
theorem d_Mo_bits_12 : decode prog_14_method_37_code 12 = .ok (.iload_n 2, 1) := by decide +kernel
theorem d_Mo_bits_13 : decode prog_14_method_37_code 13 = .ok (.ishr, 1) := by decide +kernel
theorem d_Mo_bits_14 : decode prog_14_method_37_code 14 = .ok (.iconst 1, 1) := by decide +kernel
theorem d_Mo_bits_15 : decode prog_14_method_37_code 15 = .ok (.iand, 1) := by decide +kernel
theorem d_Mo_bits_16 : decode prog_14_method_37_code 16 = .ok (.iadd, 1) := by decide +kernel
theorem d_Mo_bits_17 : decode prog_14_method_37_code 17 = .ok (.istore_n 1, 1) := by decide +kernel
theorem d_Mo_bits_18 : decode prog_14_method_37_code 18 = .ok (.iinc 2 1, 3) := by decide +kernel
theorem d_Mo_bits_21 : decode prog_14_method_37_code 21 = .ok (.goto (-17), 3) := by decide +kernel
set_option maxRecDepth 100000 in
theorem c_Mo_bits {x : Int32} {l : Launch} {d n : Nat} {h : HP} {Q : QT} (hQ : Q (some (.int (btc x))) n h) : Ct l M_Mo_bits d 0 0 [.int x] n h Q := by
  refine Ct.of (fun _ => trivial) (by decide) (Nat.le_of_ble_eq_true rfl) ?_
  refine V.iconst_ (nI 0) d_Mo_bits_0 (by decide +kernel) ?_
  refine V.istore_n d_Mo_bits_1 (by decide) ?_
  refine V.iconst_ (nI 0) d_Mo_bits_2 (by decide +kernel) ?_
  refine V.istore_n d_Mo_bits_3 (by decide) ?_
  refine V.lc (ls' := [(0, .int x), (1, .int (itr (fun k acc => acc + ((x >>> (nI k &&& 31)) &&& nI 1)) 0 (nI 0))), (2, .int (nI 0))]) rfl ?_
  refine up_to (G := fun k => V l M_Mo_bits d 0 0 4 [(0, .int x), (1, .int (itr (fun k acc => acc + ((x >>> (nI k &&& 31)) &&& nI 1)) k (nI 0))), (2, .int (nI k))] [] n (h) 0 0 Q) (8) ?_ (fun k hk hn => ?_) 0 (by omega)
  · skip
    refine V.iload_n d_Mo_bits_4 rfl ?_
    refine V.bipush_ (nI 8) d_Mo_bits_5 (by decide +kernel) ?_
    refine V.geN (tgt := 24) d_Mo_bits_7 (by decide) (by omega) (by omega) (fun c_7 => ?_) (fun c_7 => ?_)
    · skip
      refine V.iload_n d_Mo_bits_24 rfl ?_
      refine V.iret d_Mo_bits_25 rfl (Nat.le_of_ble_eq_true rfl) (Nat.le_of_ble_eq_true rfl) ?_
      exact hQ
    · skip
      exact absurd c_7 (by omega)
  · skip
    refine V.iload_n d_Mo_bits_4 rfl ?_
    refine V.bipush_ (nI 8) d_Mo_bits_5 (by decide +kernel) ?_
    refine V.geN (tgt := 24) d_Mo_bits_7 (by decide) (by omega) (by omega) (fun c_7 => ?_) (fun c_7 => ?_)
    · skip
      exact absurd c_7 (by omega)
    · skip
      refine V.iload_n d_Mo_bits_10 rfl ?_
      refine V.iload_n d_Mo_bits_11 rfl ?_
      refine V.iload_n d_Mo_bits_12 rfl ?_
      refine V.ishr d_Mo_bits_13 ?_
      refine V.iconst_ (nI 1) d_Mo_bits_14 (by decide +kernel) ?_
      refine V.iand d_Mo_bits_15 ?_
      refine V.iadd d_Mo_bits_16 ?_
      refine V.istore_n d_Mo_bits_17 (by decide) ?_
      refine V.incN d_Mo_bits_18 rfl (by decide) ?_
      refine V.goto (tgt := 4) d_Mo_bits_21 (by decide) ?_
      exact V.lc rfl hn
abbrev M_Mo_done : MD := (⟨"FelledByNamesModel", "done", "(III)I"⟩, prog_14_method_27_code, 3, (some .int), fun _ => True)
theorem d_Mo_done_0 : decode prog_14_method_27_code 0 = .ok (.iload_n 0, 1) := by decide +kernel
theorem d_Mo_done_1 : decode prog_14_method_27_code 1 = .ok (.lookupswitch 168 #[(38, 97), (42, 152), (43, 144), (45, 148), (47, 156), (60, 111), (61, 122), (62, 133), (124, 83)], 83) := by decide +kernel
theorem d_Mo_done_98 : decode prog_14_method_27_code 98 = .ok (.iload_n 1, 1) := by decide +kernel
theorem d_Mo_done_99 : decode prog_14_method_27_code 99 = .ok (.ifCond .eq 11, 3) := by decide +kernel
theorem d_Mo_done_110 : decode prog_14_method_27_code 110 = .ok (.iconst 0, 1) := by decide +kernel
theorem d_Mo_done_111 : decode prog_14_method_27_code 111 = .ok (.ireturn, 1) := by decide +kernel
theorem d_Mo_done_102 : decode prog_14_method_27_code 102 = .ok (.iload_n 2, 1) := by decide +kernel
theorem d_Mo_done_103 : decode prog_14_method_27_code 103 = .ok (.ifCond .eq 7, 3) := by decide +kernel
theorem d_Mo_done_106 : decode prog_14_method_27_code 106 = .ok (.iconst 1, 1) := by decide +kernel
theorem d_Mo_done_107 : decode prog_14_method_27_code 107 = .ok (.goto 4, 3) := by decide +kernel
theorem d_Mo_done_153 : decode prog_14_method_27_code 153 = .ok (.iload_n 1, 1) := by decide +kernel
theorem d_Mo_done_154 : decode prog_14_method_27_code 154 = .ok (.iload_n 2, 1) := by decide +kernel
theorem d_Mo_done_155 : decode prog_14_method_27_code 155 = .ok (.imul, 1) := by decide +kernel
theorem d_Mo_done_156 : decode prog_14_method_27_code 156 = .ok (.ireturn, 1) := by decide +kernel
theorem d_Mo_done_145 : decode prog_14_method_27_code 145 = .ok (.iload_n 1, 1) := by decide +kernel
theorem d_Mo_done_146 : decode prog_14_method_27_code 146 = .ok (.iload_n 2, 1) := by decide +kernel
theorem d_Mo_done_147 : decode prog_14_method_27_code 147 = .ok (.iadd, 1) := by decide +kernel
theorem d_Mo_done_148 : decode prog_14_method_27_code 148 = .ok (.ireturn, 1) := by decide +kernel
theorem d_Mo_done_149 : decode prog_14_method_27_code 149 = .ok (.iload_n 1, 1) := by decide +kernel
theorem d_Mo_done_150 : decode prog_14_method_27_code 150 = .ok (.iload_n 2, 1) := by decide +kernel
theorem d_Mo_done_151 : decode prog_14_method_27_code 151 = .ok (.isub, 1) := by decide +kernel
theorem d_Mo_done_152 : decode prog_14_method_27_code 152 = .ok (.ireturn, 1) := by decide +kernel
theorem d_Mo_done_157 : decode prog_14_method_27_code 157 = .ok (.iload_n 2, 1) := by decide +kernel
theorem d_Mo_done_158 : decode prog_14_method_27_code 158 = .ok (.ifCond .ne 7, 3) := by decide +kernel
theorem d_Mo_done_165 : decode prog_14_method_27_code 165 = .ok (.iload_n 1, 1) := by decide +kernel
theorem d_Mo_done_166 : decode prog_14_method_27_code 166 = .ok (.iload_n 2, 1) := by decide +kernel
theorem d_Mo_done_167 : decode prog_14_method_27_code 167 = .ok (.idiv, 1) := by decide +kernel
theorem d_Mo_done_168 : decode prog_14_method_27_code 168 = .ok (.ireturn, 1) := by decide +kernel
theorem d_Mo_done_161 : decode prog_14_method_27_code 161 = .ok (.iconst 0, 1) := by decide +kernel
theorem d_Mo_done_162 : decode prog_14_method_27_code 162 = .ok (.goto 6, 3) := by decide +kernel
theorem d_Mo_done_112 : decode prog_14_method_27_code 112 = .ok (.iload_n 1, 1) := by decide +kernel
theorem d_Mo_done_113 : decode prog_14_method_27_code 113 = .ok (.iload_n 2, 1) := by decide +kernel
theorem d_Mo_done_114 : decode prog_14_method_27_code 114 = .ok (.if_icmp .ge 7, 3) := by decide +kernel
theorem d_Mo_done_121 : decode prog_14_method_27_code 121 = .ok (.iconst 0, 1) := by decide +kernel
theorem d_Mo_done_122 : decode prog_14_method_27_code 122 = .ok (.ireturn, 1) := by decide +kernel
theorem d_Mo_done_117 : decode prog_14_method_27_code 117 = .ok (.iconst 1, 1) := by decide +kernel
theorem d_Mo_done_118 : decode prog_14_method_27_code 118 = .ok (.goto 4, 3) := by decide +kernel
theorem d_Mo_done_123 : decode prog_14_method_27_code 123 = .ok (.iload_n 1, 1) := by decide +kernel
theorem d_Mo_done_124 : decode prog_14_method_27_code 124 = .ok (.iload_n 2, 1) := by decide +kernel
theorem d_Mo_done_125 : decode prog_14_method_27_code 125 = .ok (.if_icmp .ne 7, 3) := by decide +kernel
theorem d_Mo_done_132 : decode prog_14_method_27_code 132 = .ok (.iconst 0, 1) := by decide +kernel
theorem d_Mo_done_133 : decode prog_14_method_27_code 133 = .ok (.ireturn, 1) := by decide +kernel
theorem d_Mo_done_128 : decode prog_14_method_27_code 128 = .ok (.iconst 1, 1) := by decide +kernel
theorem d_Mo_done_129 : decode prog_14_method_27_code 129 = .ok (.goto 4, 3) := by decide +kernel
theorem d_Mo_done_134 : decode prog_14_method_27_code 134 = .ok (.iload_n 1, 1) := by decide +kernel
theorem d_Mo_done_135 : decode prog_14_method_27_code 135 = .ok (.iload_n 2, 1) := by decide +kernel
theorem d_Mo_done_136 : decode prog_14_method_27_code 136 = .ok (.if_icmp .le 7, 3) := by decide +kernel
theorem d_Mo_done_143 : decode prog_14_method_27_code 143 = .ok (.iconst 0, 1) := by decide +kernel
theorem d_Mo_done_144 : decode prog_14_method_27_code 144 = .ok (.ireturn, 1) := by decide +kernel
theorem d_Mo_done_139 : decode prog_14_method_27_code 139 = .ok (.iconst 1, 1) := by decide +kernel
theorem d_Mo_done_140 : decode prog_14_method_27_code 140 = .ok (.goto 4, 3) := by decide +kernel
theorem d_Mo_done_84 : decode prog_14_method_27_code 84 = .ok (.iload_n 1, 1) := by decide +kernel
theorem d_Mo_done_85 : decode prog_14_method_27_code 85 = .ok (.ifCond .ne 7, 3) := by decide +kernel
theorem d_Mo_done_92 : decode prog_14_method_27_code 92 = .ok (.iconst 1, 1) := by decide +kernel
theorem d_Mo_done_93 : decode prog_14_method_27_code 93 = .ok (.goto 4, 3) := by decide +kernel
theorem d_Mo_done_97 : decode prog_14_method_27_code 97 = .ok (.ireturn, 1) := by decide +kernel
theorem d_Mo_done_88 : decode prog_14_method_27_code 88 = .ok (.iload_n 2, 1) := by decide +kernel
theorem d_Mo_done_89 : decode prog_14_method_27_code 89 = .ok (.ifCond .eq 7, 3) := by decide +kernel
theorem d_Mo_done_96 : decode prog_14_method_27_code 96 = .ok (.iconst 0, 1) := by decide +kernel
theorem d_Mo_done_169 : decode prog_14_method_27_code 169 = .ok (.iload_n 2, 1) := by decide +kernel
theorem d_Mo_done_170 : decode prog_14_method_27_code 170 = .ok (.ifCond .ne 7, 3) := by decide +kernel
theorem d_Mo_done_177 : decode prog_14_method_27_code 177 = .ok (.iload_n 1, 1) := by decide +kernel
theorem d_Mo_done_178 : decode prog_14_method_27_code 178 = .ok (.iload_n 2, 1) := by decide +kernel
theorem d_Mo_done_179 : decode prog_14_method_27_code 179 = .ok (.irem, 1) := by decide +kernel
theorem d_Mo_done_180 : decode prog_14_method_27_code 180 = .ok (.ireturn, 1) := by decide +kernel
theorem d_Mo_done_173 : decode prog_14_method_27_code 173 = .ok (.iconst 0, 1) := by decide +kernel
theorem d_Mo_done_174 : decode prog_14_method_27_code 174 = .ok (.goto 6, 3) := by decide +kernel
set_option maxRecDepth 100000 in
theorem c_Mo_done {w x y : Int32} {l : Launch} {d n : Nat} {h : HP} {Q : QT} (hQ : Q (some (.int (dn w x y))) n h) : Ct l M_Mo_done d 0 0 [.int w, .int x, .int y] n h Q := by
  refine Ct.of (fun _ => trivial) (by decide) (Nat.le_of_ble_eq_true rfl) ?_
  unfold dn at hQ
  refine V.iload_n d_Mo_done_0 rfl ?_
  by_cases e38 : w = nI 38
  · subst e38
    refine V.lookup (tgt := 98) (off := 97) d_Mo_done_1 (by decide +kernel) (by decide +kernel) (by decide) ?_
    rw [if_pos rfl] at hQ
    refine V.iload_n d_Mo_done_98 rfl ?_
    refine V.if_eq (tgt := 110) d_Mo_done_99 (by decide) (fun c_99 => ?_) (fun c_99 => ?_)
    · skip
      refine V.iconst_ (nI 0) d_Mo_done_110 (by decide +kernel) ?_
      refine V.iret d_Mo_done_111 rfl (Nat.le_of_ble_eq_true rfl) (Nat.le_of_ble_eq_true rfl) ?_
      first | exact hQ | (rw [if_pos (by first | exact ⟨c_99, c_103⟩ | exact Or.inl c_85 | exact Or.inr c_89 | exact c_125 | exact Int32.not_le.mp c_114 | exact Int32.not_le.mp c_136 | exact c_158 | exact c_170)] at hQ; exact hQ) | (rw [if_neg (by first | exact fun z => z.1 c_99 | exact fun z => z.2 c_103 | exact fun z => z.elim (fun y => y c_85) (fun y => y c_89) | exact c_125 | exact Int32.not_lt.mpr c_114 | exact Int32.not_lt.mpr c_136 | exact c_158 | exact c_170)] at hQ; exact hQ)
    · skip
      refine V.iload_n d_Mo_done_102 rfl ?_
      refine V.if_eq (tgt := 110) d_Mo_done_103 (by decide) (fun c_103 => ?_) (fun c_103 => ?_)
      · skip
        refine V.iconst_ (nI 0) d_Mo_done_110 (by decide +kernel) ?_
        refine V.iret d_Mo_done_111 rfl (Nat.le_of_ble_eq_true rfl) (Nat.le_of_ble_eq_true rfl) ?_
        first | exact hQ | (rw [if_pos (by first | exact ⟨c_99, c_103⟩ | exact Or.inl c_85 | exact Or.inr c_89 | exact c_125 | exact Int32.not_le.mp c_114 | exact Int32.not_le.mp c_136 | exact c_158 | exact c_170)] at hQ; exact hQ) | (rw [if_neg (by first | exact fun z => z.1 c_99 | exact fun z => z.2 c_103 | exact fun z => z.elim (fun y => y c_85) (fun y => y c_89) | exact c_125 | exact Int32.not_lt.mpr c_114 | exact Int32.not_lt.mpr c_136 | exact c_158 | exact c_170)] at hQ; exact hQ)
      · skip
        refine V.iconst_ (nI 1) d_Mo_done_106 (by decide +kernel) ?_
        refine V.goto (tgt := 111) d_Mo_done_107 (by decide) ?_
        refine V.iret d_Mo_done_111 rfl (Nat.le_of_ble_eq_true rfl) (Nat.le_of_ble_eq_true rfl) ?_
        first | exact hQ | (rw [if_pos (by first | exact ⟨c_99, c_103⟩ | exact Or.inl c_85 | exact Or.inr c_89 | exact c_125 | exact Int32.not_le.mp c_114 | exact Int32.not_le.mp c_136 | exact c_158 | exact c_170)] at hQ; exact hQ) | (rw [if_neg (by first | exact fun z => z.1 c_99 | exact fun z => z.2 c_103 | exact fun z => z.elim (fun y => y c_85) (fun y => y c_89) | exact c_125 | exact Int32.not_lt.mpr c_114 | exact Int32.not_lt.mpr c_136 | exact c_158 | exact c_170)] at hQ; exact hQ)
  rw [if_neg e38] at hQ
  by_cases e42 : w = nI 42
  · subst e42
    refine V.lookup (tgt := 153) (off := 152) d_Mo_done_1 (by decide +kernel) (by decide +kernel) (by decide) ?_
    rw [if_pos rfl] at hQ
    refine V.iload_n d_Mo_done_153 rfl ?_
    refine V.iload_n d_Mo_done_154 rfl ?_
    refine V.imul d_Mo_done_155 ?_
    refine V.iret d_Mo_done_156 rfl (Nat.le_of_ble_eq_true rfl) (Nat.le_of_ble_eq_true rfl) ?_
    first | exact hQ | (rw [if_pos (by first | exact ⟨c_99, c_103⟩ | exact Or.inl c_85 | exact Or.inr c_89 | exact c_125 | exact Int32.not_le.mp c_114 | exact Int32.not_le.mp c_136 | exact c_158 | exact c_170)] at hQ; exact hQ) | (rw [if_neg (by first | exact fun z => z.1 c_99 | exact fun z => z.2 c_103 | exact fun z => z.elim (fun y => y c_85) (fun y => y c_89) | exact c_125 | exact Int32.not_lt.mpr c_114 | exact Int32.not_lt.mpr c_136 | exact c_158 | exact c_170)] at hQ; exact hQ)
  rw [if_neg e42] at hQ
  by_cases e43 : w = nI 43
  · subst e43
    refine V.lookup (tgt := 145) (off := 144) d_Mo_done_1 (by decide +kernel) (by decide +kernel) (by decide) ?_
    rw [if_pos rfl] at hQ
    refine V.iload_n d_Mo_done_145 rfl ?_
    refine V.iload_n d_Mo_done_146 rfl ?_
    refine V.iadd d_Mo_done_147 ?_
    refine V.iret d_Mo_done_148 rfl (Nat.le_of_ble_eq_true rfl) (Nat.le_of_ble_eq_true rfl) ?_
    first | exact hQ | (rw [if_pos (by first | exact ⟨c_99, c_103⟩ | exact Or.inl c_85 | exact Or.inr c_89 | exact c_125 | exact Int32.not_le.mp c_114 | exact Int32.not_le.mp c_136 | exact c_158 | exact c_170)] at hQ; exact hQ) | (rw [if_neg (by first | exact fun z => z.1 c_99 | exact fun z => z.2 c_103 | exact fun z => z.elim (fun y => y c_85) (fun y => y c_89) | exact c_125 | exact Int32.not_lt.mpr c_114 | exact Int32.not_lt.mpr c_136 | exact c_158 | exact c_170)] at hQ; exact hQ)
  rw [if_neg e43] at hQ
  by_cases e45 : w = nI 45
  · subst e45
    refine V.lookup (tgt := 149) (off := 148) d_Mo_done_1 (by decide +kernel) (by decide +kernel) (by decide) ?_
    rw [if_pos rfl] at hQ
    refine V.iload_n d_Mo_done_149 rfl ?_
    refine V.iload_n d_Mo_done_150 rfl ?_
    refine V.isub d_Mo_done_151 ?_
    refine V.iret d_Mo_done_152 rfl (Nat.le_of_ble_eq_true rfl) (Nat.le_of_ble_eq_true rfl) ?_
    first | exact hQ | (rw [if_pos (by first | exact ⟨c_99, c_103⟩ | exact Or.inl c_85 | exact Or.inr c_89 | exact c_125 | exact Int32.not_le.mp c_114 | exact Int32.not_le.mp c_136 | exact c_158 | exact c_170)] at hQ; exact hQ) | (rw [if_neg (by first | exact fun z => z.1 c_99 | exact fun z => z.2 c_103 | exact fun z => z.elim (fun y => y c_85) (fun y => y c_89) | exact c_125 | exact Int32.not_lt.mpr c_114 | exact Int32.not_lt.mpr c_136 | exact c_158 | exact c_170)] at hQ; exact hQ)
  rw [if_neg e45] at hQ
  by_cases e47 : w = nI 47
  · subst e47
    refine V.lookup (tgt := 157) (off := 156) d_Mo_done_1 (by decide +kernel) (by decide +kernel) (by decide) ?_
    rw [if_pos rfl] at hQ
    refine V.iload_n d_Mo_done_157 rfl ?_
    refine V.if_ne (tgt := 165) d_Mo_done_158 (by decide) (fun c_158 => ?_) (fun c_158 => ?_)
    · skip
      refine V.iload_n d_Mo_done_165 rfl ?_
      refine V.iload_n d_Mo_done_166 rfl ?_
      refine V.idiv d_Mo_done_167 c_158 ?_
      refine V.iret d_Mo_done_168 rfl (Nat.le_of_ble_eq_true rfl) (Nat.le_of_ble_eq_true rfl) ?_
      first | exact hQ | (rw [if_pos (by first | exact ⟨c_99, c_103⟩ | exact Or.inl c_85 | exact Or.inr c_89 | exact c_125 | exact Int32.not_le.mp c_114 | exact Int32.not_le.mp c_136 | exact c_158 | exact c_170)] at hQ; exact hQ) | (rw [if_neg (by first | exact fun z => z.1 c_99 | exact fun z => z.2 c_103 | exact fun z => z.elim (fun y => y c_85) (fun y => y c_89) | exact c_125 | exact Int32.not_lt.mpr c_114 | exact Int32.not_lt.mpr c_136 | exact c_158 | exact c_170)] at hQ; exact hQ)
    · skip
      refine V.iconst_ (nI 0) d_Mo_done_161 (by decide +kernel) ?_
      refine V.goto (tgt := 168) d_Mo_done_162 (by decide) ?_
      refine V.iret d_Mo_done_168 rfl (Nat.le_of_ble_eq_true rfl) (Nat.le_of_ble_eq_true rfl) ?_
      first | exact hQ | (rw [if_pos (by first | exact ⟨c_99, c_103⟩ | exact Or.inl c_85 | exact Or.inr c_89 | exact c_125 | exact Int32.not_le.mp c_114 | exact Int32.not_le.mp c_136 | exact c_158 | exact c_170)] at hQ; exact hQ) | (rw [if_neg (by first | exact fun z => z.1 c_99 | exact fun z => z.2 c_103 | exact fun z => z.elim (fun y => y c_85) (fun y => y c_89) | exact c_125 | exact Int32.not_lt.mpr c_114 | exact Int32.not_lt.mpr c_136 | exact c_158 | exact c_170)] at hQ; exact hQ)
  rw [if_neg e47] at hQ
  by_cases e60 : w = nI 60
  · subst e60
    refine V.lookup (tgt := 112) (off := 111) d_Mo_done_1 (by decide +kernel) (by decide +kernel) (by decide) ?_
    rw [if_pos rfl] at hQ
    refine V.iload_n d_Mo_done_112 rfl ?_
    refine V.iload_n d_Mo_done_113 rfl ?_
    refine V.icmp_ge (tgt := 121) d_Mo_done_114 (by decide) (fun c_114 => ?_) (fun c_114 => ?_)
    · skip
      refine V.iconst_ (nI 0) d_Mo_done_121 (by decide +kernel) ?_
      refine V.iret d_Mo_done_122 rfl (Nat.le_of_ble_eq_true rfl) (Nat.le_of_ble_eq_true rfl) ?_
      first | exact hQ | (rw [if_pos (by first | exact ⟨c_99, c_103⟩ | exact Or.inl c_85 | exact Or.inr c_89 | exact c_125 | exact Int32.not_le.mp c_114 | exact Int32.not_le.mp c_136 | exact c_158 | exact c_170)] at hQ; exact hQ) | (rw [if_neg (by first | exact fun z => z.1 c_99 | exact fun z => z.2 c_103 | exact fun z => z.elim (fun y => y c_85) (fun y => y c_89) | exact c_125 | exact Int32.not_lt.mpr c_114 | exact Int32.not_lt.mpr c_136 | exact c_158 | exact c_170)] at hQ; exact hQ)
    · skip
      refine V.iconst_ (nI 1) d_Mo_done_117 (by decide +kernel) ?_
      refine V.goto (tgt := 122) d_Mo_done_118 (by decide) ?_
      refine V.iret d_Mo_done_122 rfl (Nat.le_of_ble_eq_true rfl) (Nat.le_of_ble_eq_true rfl) ?_
      first | exact hQ | (rw [if_pos (by first | exact ⟨c_99, c_103⟩ | exact Or.inl c_85 | exact Or.inr c_89 | exact c_125 | exact Int32.not_le.mp c_114 | exact Int32.not_le.mp c_136 | exact c_158 | exact c_170)] at hQ; exact hQ) | (rw [if_neg (by first | exact fun z => z.1 c_99 | exact fun z => z.2 c_103 | exact fun z => z.elim (fun y => y c_85) (fun y => y c_89) | exact c_125 | exact Int32.not_lt.mpr c_114 | exact Int32.not_lt.mpr c_136 | exact c_158 | exact c_170)] at hQ; exact hQ)
  rw [if_neg e60] at hQ
  by_cases e61 : w = nI 61
  · subst e61
    refine V.lookup (tgt := 123) (off := 122) d_Mo_done_1 (by decide +kernel) (by decide +kernel) (by decide) ?_
    rw [if_pos rfl] at hQ
    refine V.iload_n d_Mo_done_123 rfl ?_
    refine V.iload_n d_Mo_done_124 rfl ?_
    refine V.icmp_ne (tgt := 132) d_Mo_done_125 (by decide) (fun c_125 => ?_) (fun c_125 => ?_)
    · skip
      refine V.iconst_ (nI 0) d_Mo_done_132 (by decide +kernel) ?_
      refine V.iret d_Mo_done_133 rfl (Nat.le_of_ble_eq_true rfl) (Nat.le_of_ble_eq_true rfl) ?_
      first | exact hQ | (rw [if_pos (by first | exact ⟨c_99, c_103⟩ | exact Or.inl c_85 | exact Or.inr c_89 | exact c_125 | exact Int32.not_le.mp c_114 | exact Int32.not_le.mp c_136 | exact c_158 | exact c_170)] at hQ; exact hQ) | (rw [if_neg (by first | exact fun z => z.1 c_99 | exact fun z => z.2 c_103 | exact fun z => z.elim (fun y => y c_85) (fun y => y c_89) | exact c_125 | exact Int32.not_lt.mpr c_114 | exact Int32.not_lt.mpr c_136 | exact c_158 | exact c_170)] at hQ; exact hQ)
    · skip
      refine V.iconst_ (nI 1) d_Mo_done_128 (by decide +kernel) ?_
      refine V.goto (tgt := 133) d_Mo_done_129 (by decide) ?_
      refine V.iret d_Mo_done_133 rfl (Nat.le_of_ble_eq_true rfl) (Nat.le_of_ble_eq_true rfl) ?_
      first | exact hQ | (rw [if_pos (by first | exact ⟨c_99, c_103⟩ | exact Or.inl c_85 | exact Or.inr c_89 | exact c_125 | exact Int32.not_le.mp c_114 | exact Int32.not_le.mp c_136 | exact c_158 | exact c_170)] at hQ; exact hQ) | (rw [if_neg (by first | exact fun z => z.1 c_99 | exact fun z => z.2 c_103 | exact fun z => z.elim (fun y => y c_85) (fun y => y c_89) | exact c_125 | exact Int32.not_lt.mpr c_114 | exact Int32.not_lt.mpr c_136 | exact c_158 | exact c_170)] at hQ; exact hQ)
  rw [if_neg e61] at hQ
  by_cases e62 : w = nI 62
  · subst e62
    refine V.lookup (tgt := 134) (off := 133) d_Mo_done_1 (by decide +kernel) (by decide +kernel) (by decide) ?_
    rw [if_pos rfl] at hQ
    refine V.iload_n d_Mo_done_134 rfl ?_
    refine V.iload_n d_Mo_done_135 rfl ?_
    refine V.icmp_le (tgt := 143) d_Mo_done_136 (by decide) (fun c_136 => ?_) (fun c_136 => ?_)
    · skip
      refine V.iconst_ (nI 0) d_Mo_done_143 (by decide +kernel) ?_
      refine V.iret d_Mo_done_144 rfl (Nat.le_of_ble_eq_true rfl) (Nat.le_of_ble_eq_true rfl) ?_
      first | exact hQ | (rw [if_pos (by first | exact ⟨c_99, c_103⟩ | exact Or.inl c_85 | exact Or.inr c_89 | exact c_125 | exact Int32.not_le.mp c_114 | exact Int32.not_le.mp c_136 | exact c_158 | exact c_170)] at hQ; exact hQ) | (rw [if_neg (by first | exact fun z => z.1 c_99 | exact fun z => z.2 c_103 | exact fun z => z.elim (fun y => y c_85) (fun y => y c_89) | exact c_125 | exact Int32.not_lt.mpr c_114 | exact Int32.not_lt.mpr c_136 | exact c_158 | exact c_170)] at hQ; exact hQ)
    · skip
      refine V.iconst_ (nI 1) d_Mo_done_139 (by decide +kernel) ?_
      refine V.goto (tgt := 144) d_Mo_done_140 (by decide) ?_
      refine V.iret d_Mo_done_144 rfl (Nat.le_of_ble_eq_true rfl) (Nat.le_of_ble_eq_true rfl) ?_
      first | exact hQ | (rw [if_pos (by first | exact ⟨c_99, c_103⟩ | exact Or.inl c_85 | exact Or.inr c_89 | exact c_125 | exact Int32.not_le.mp c_114 | exact Int32.not_le.mp c_136 | exact c_158 | exact c_170)] at hQ; exact hQ) | (rw [if_neg (by first | exact fun z => z.1 c_99 | exact fun z => z.2 c_103 | exact fun z => z.elim (fun y => y c_85) (fun y => y c_89) | exact c_125 | exact Int32.not_lt.mpr c_114 | exact Int32.not_lt.mpr c_136 | exact c_158 | exact c_170)] at hQ; exact hQ)
  rw [if_neg e62] at hQ
  by_cases e124 : w = nI 124
  · subst e124
    refine V.lookup (tgt := 84) (off := 83) d_Mo_done_1 (by decide +kernel) (by decide +kernel) (by decide) ?_
    rw [if_pos rfl] at hQ
    refine V.iload_n d_Mo_done_84 rfl ?_
    refine V.if_ne (tgt := 92) d_Mo_done_85 (by decide) (fun c_85 => ?_) (fun c_85 => ?_)
    · skip
      refine V.iconst_ (nI 1) d_Mo_done_92 (by decide +kernel) ?_
      refine V.goto (tgt := 97) d_Mo_done_93 (by decide) ?_
      refine V.iret d_Mo_done_97 rfl (Nat.le_of_ble_eq_true rfl) (Nat.le_of_ble_eq_true rfl) ?_
      first | exact hQ | (rw [if_pos (by first | exact ⟨c_99, c_103⟩ | exact Or.inl c_85 | exact Or.inr c_89 | exact c_125 | exact Int32.not_le.mp c_114 | exact Int32.not_le.mp c_136 | exact c_158 | exact c_170)] at hQ; exact hQ) | (rw [if_neg (by first | exact fun z => z.1 c_99 | exact fun z => z.2 c_103 | exact fun z => z.elim (fun y => y c_85) (fun y => y c_89) | exact c_125 | exact Int32.not_lt.mpr c_114 | exact Int32.not_lt.mpr c_136 | exact c_158 | exact c_170)] at hQ; exact hQ)
    · skip
      refine V.iload_n d_Mo_done_88 rfl ?_
      refine V.if_eq (tgt := 96) d_Mo_done_89 (by decide) (fun c_89 => ?_) (fun c_89 => ?_)
      · skip
        refine V.iconst_ (nI 0) d_Mo_done_96 (by decide +kernel) ?_
        refine V.iret d_Mo_done_97 rfl (Nat.le_of_ble_eq_true rfl) (Nat.le_of_ble_eq_true rfl) ?_
        first | exact hQ | (rw [if_pos (by first | exact ⟨c_99, c_103⟩ | exact Or.inl c_85 | exact Or.inr c_89 | exact c_125 | exact Int32.not_le.mp c_114 | exact Int32.not_le.mp c_136 | exact c_158 | exact c_170)] at hQ; exact hQ) | (rw [if_neg (by first | exact fun z => z.1 c_99 | exact fun z => z.2 c_103 | exact fun z => z.elim (fun y => y c_85) (fun y => y c_89) | exact c_125 | exact Int32.not_lt.mpr c_114 | exact Int32.not_lt.mpr c_136 | exact c_158 | exact c_170)] at hQ; exact hQ)
      · skip
        refine V.iconst_ (nI 1) d_Mo_done_92 (by decide +kernel) ?_
        refine V.goto (tgt := 97) d_Mo_done_93 (by decide) ?_
        refine V.iret d_Mo_done_97 rfl (Nat.le_of_ble_eq_true rfl) (Nat.le_of_ble_eq_true rfl) ?_
        first | exact hQ | (rw [if_pos (by first | exact ⟨c_99, c_103⟩ | exact Or.inl c_85 | exact Or.inr c_89 | exact c_125 | exact Int32.not_le.mp c_114 | exact Int32.not_le.mp c_136 | exact c_158 | exact c_170)] at hQ; exact hQ) | (rw [if_neg (by first | exact fun z => z.1 c_99 | exact fun z => z.2 c_103 | exact fun z => z.elim (fun y => y c_85) (fun y => y c_89) | exact c_125 | exact Int32.not_lt.mpr c_114 | exact Int32.not_lt.mpr c_136 | exact c_158 | exact c_170)] at hQ; exact hQ)
  rw [if_neg e124] at hQ
  refine V.lookup (tgt := 169) (off := 168) d_Mo_done_1 (by decide +kernel) (by refine (lv_osw e38 (by decide +kernel)).trans ?_; refine (lv_osw e42 (by decide +kernel)).trans ?_; refine (lv_osw e43 (by decide +kernel)).trans ?_; refine (lv_osw e45 (by decide +kernel)).trans ?_; refine (lv_osw e47 (by decide +kernel)).trans ?_; refine (lv_osw e60 (by decide +kernel)).trans ?_; refine (lv_osw e61 (by decide +kernel)).trans ?_; refine (lv_osw e62 (by decide +kernel)).trans ?_; refine (lv_osw e124 (by decide +kernel)).trans ?_; rfl) (by decide) ?_
  refine V.iload_n d_Mo_done_169 rfl ?_
  refine V.if_ne (tgt := 177) d_Mo_done_170 (by decide) (fun c_170 => ?_) (fun c_170 => ?_)
  · skip
    refine V.iload_n d_Mo_done_177 rfl ?_
    refine V.iload_n d_Mo_done_178 rfl ?_
    refine V.irem d_Mo_done_179 c_170 ?_
    refine V.iret d_Mo_done_180 rfl (Nat.le_of_ble_eq_true rfl) (Nat.le_of_ble_eq_true rfl) ?_
    first | exact hQ | (rw [if_pos (by first | exact ⟨c_99, c_103⟩ | exact Or.inl c_85 | exact Or.inr c_89 | exact c_125 | exact Int32.not_le.mp c_114 | exact Int32.not_le.mp c_136 | exact c_158 | exact c_170)] at hQ; exact hQ) | (rw [if_neg (by first | exact fun z => z.1 c_99 | exact fun z => z.2 c_103 | exact fun z => z.elim (fun y => y c_85) (fun y => y c_89) | exact c_125 | exact Int32.not_lt.mpr c_114 | exact Int32.not_lt.mpr c_136 | exact c_158 | exact c_170)] at hQ; exact hQ)
  · skip
    refine V.iconst_ (nI 0) d_Mo_done_173 (by decide +kernel) ?_
    refine V.goto (tgt := 180) d_Mo_done_174 (by decide) ?_
    refine V.iret d_Mo_done_180 rfl (Nat.le_of_ble_eq_true rfl) (Nat.le_of_ble_eq_true rfl) ?_
    first | exact hQ | (rw [if_pos (by first | exact ⟨c_99, c_103⟩ | exact Or.inl c_85 | exact Or.inr c_89 | exact c_125 | exact Int32.not_le.mp c_114 | exact Int32.not_le.mp c_136 | exact c_158 | exact c_170)] at hQ; exact hQ) | (rw [if_neg (by first | exact fun z => z.1 c_99 | exact fun z => z.2 c_103 | exact fun z => z.elim (fun y => y c_85) (fun y => y c_89) | exact c_125 | exact Int32.not_lt.mpr c_114 | exact Int32.not_lt.mpr c_136 | exact c_158 | exact c_170)] at hQ; exact hQ)
end
section
def vnm (a b c : Int32) (j : Nat) : Int32 := if j = 0 then a else if j = 1 then b else c
/-- one word of a text's code, over a pile -/
def exw (a b c : Int32) (w : Nat) (tp : Nat × (Nat → Int32)) : Nat × (Nat → Int32) :=
  if w < 20000 then (tp.1 + 1, upd tp.2 tp.1 (if w < 10000 then nI w else vnm a b c (w - 10000)))
  else if w = 20033 then (tp.1, upd tp.2 (tp.1 - 1) (if tp.2 (tp.1 - 1) = 0 then nI 1 else nI 0))
  else (tp.1 - 1, upd tp.2 (tp.1 - 1 - 1) (dn (nI (w - 20000)) (tp.2 (tp.1 - 1 - 1)) (tp.2 (tp.1 - 1))))
def tops (W : Nat → Nat) : Nat → Nat
  | 0 => 0
  | k + 1 => if W k < 20000 then tops W k + 1 else if W k = 20033 then tops W k else tops W k - 1
def exs (a b c : Int32) (W : Nat → Nat) (k : Nat) (P : Nat → Int32) : Nat × (Nat → Int32) := itr (fun k tp => exw a b c (W k) tp) k (0, P)
theorem exs_top (a b c : Int32) (W : Nat → Nat) (P : Nat → Int32) : ∀ k, (exs a b c W k P).1 = tops W k := by
  intro k
  induction k with
  | zero => rfl
  | succ k ih =>
    show (exw a b c (W k) (exs a b c W k P)).1 = tops W (k + 1)
    unfold exw
    simp only [tops]
    by_cases h1 : W k < 20000
    · rw [if_pos h1, if_pos h1, ih]
    · rw [if_neg h1, if_neg h1]
      by_cases h2 : W k = 20033
      · rw [if_pos h2, if_pos h2, ih]
      · rw [if_neg h2, if_neg h2, ih]
theorem tops_le (W : Nat → Nat) : ∀ k, tops W k ≤ k := by
  intro k
  induction k with
  | zero => exact Nat.le_refl _
  | succ k ih => simp only [tops]; split <;> (try split) <;> omega
def okw (w t : Nat) : Prop := (w < 20000 → w < 10003) ∧ (w = 20033 → 1 ≤ t) ∧ (20000 ≤ w → w ≠ 20033 → 2 ≤ t) ∧ w < 30000
def Wf (W : Nat → Nat) (len : Nat) : Prop := len ≤ 50 ∧ (∀ k, k < len → okw (W k) (tops W k)) ∧ tops W len = 1
def evc (a b c : Int32) (W : Nat → Nat) (len : Nat) : Int32 := (exs a b c W len (fun _ => 0)).2 0
section EX
variable {a b c : Int32} {W : Nat → Nat} {k : Nat} {P : Nat → Int32}
theorem exs_num (h1 : W k < 10000) : (exs a b c W (k + 1) P).2 = upd (exs a b c W k P).2 (tops W k) (nI (W k)) ∧ tops W (k + 1) = tops W k + 1 := by
  refine ⟨?_, by simp only [tops]; rw [if_pos (by omega)]⟩
  show (exw a b c (W k) (exs a b c W k P)).2 = _
  unfold exw
  rw [if_pos (by omega), exs_top, if_pos h1]
theorem exs_nam (h1 : 10000 ≤ W k) (h2 : W k < 20000) : (exs a b c W (k + 1) P).2 = upd (exs a b c W k P).2 (tops W k) (vnm a b c (W k - 10000)) ∧ tops W (k + 1) = tops W k + 1 := by
  refine ⟨?_, by simp only [tops]; rw [if_pos (by omega)]⟩
  show (exw a b c (W k) (exs a b c W k P)).2 = _
  unfold exw
  rw [if_pos (by omega), exs_top, if_neg (by omega)]
theorem exs_not (h1 : W k = 20033) : (exs a b c W (k + 1) P).2 = upd (exs a b c W k P).2 (tops W k - 1) (if (exs a b c W k P).2 (tops W k - 1) = 0 then nI 1 else nI 0) ∧ tops W (k + 1) = tops W k := by
  refine ⟨?_, by simp only [tops]; rw [if_neg (by omega), if_pos h1]⟩
  show (exw a b c (W k) (exs a b c W k P)).2 = _
  unfold exw
  rw [if_neg (by omega), if_pos h1, exs_top]
theorem exs_bin (h1 : 20000 ≤ W k) (h2 : W k ≠ 20033) : (exs a b c W (k + 1) P).2 = upd (exs a b c W k P).2 (tops W k - 1 - 1) (dn (nI (W k - 20000)) ((exs a b c W k P).2 (tops W k - 1 - 1)) ((exs a b c W k P).2 (tops W k - 1))) ∧ tops W (k + 1) = tops W k - 1 := by
  refine ⟨?_, by simp only [tops]; rw [if_neg (by omega), if_neg h2]⟩
  show (exw a b c (W k) (exs a b c W k P)).2 = _
  unfold exw
  rw [if_neg (by omega), if_neg h2, exs_top]
/-- what lay on the pile at first doesn't matter -/
theorem exs_any {len : Nat} (hW : ∀ k, k < len → okw (W k) (tops W k)) (P P' : Nat → Int32) : ∀ k, k ≤ len → ∀ j, j < tops W k → (exs a b c W k P).2 j = (exs a b c W k P').2 j := by
  intro k
  induction k with
  | zero => intro _ j hj; exact absurd hj (by simp [tops])
  | succ k ih =>
    intro hk j hj
    have ih' := ih (by omega)
    obtain ⟨o1, o2, o3, o4⟩ := hW k (by omega)
    by_cases h1 : W k < 20000
    · by_cases h2 : W k < 10000
      · rw [(exs_num h2).1, (exs_num h2).1]
        rw [(exs_num (a := a) (b := b) (c := c) (P := P) h2).2] at hj
        by_cases hjt : j = tops W k
        · subst hjt; rw [pk_us, pk_us]
        · rw [pk_un hjt, pk_un hjt]; exact ih' j (by omega)
      · rw [(exs_nam (by omega) h1).1, (exs_nam (by omega) h1).1]
        rw [(exs_nam (a := a) (b := b) (c := c) (P := P) (by omega) h1).2] at hj
        by_cases hjt : j = tops W k
        · subst hjt; rw [pk_us, pk_us]
        · rw [pk_un hjt, pk_un hjt]; exact ih' j (by omega)
    · by_cases h2 : W k = 20033
      · rw [(exs_not h2).1, (exs_not h2).1]
        rw [(exs_not (a := a) (b := b) (c := c) (P := P) h2).2] at hj
        have o2' := o2 h2
        by_cases hjt : j = tops W k - 1
        · subst hjt; rw [pk_us, pk_us, ih' _ (by omega)]
        · rw [pk_un hjt, pk_un hjt]; exact ih' j (by omega)
      · rw [(exs_bin (by omega) h2).1, (exs_bin (by omega) h2).1]
        rw [(exs_bin (a := a) (b := b) (c := c) (P := P) (by omega) h2).2] at hj
        have o3' := o3 (by omega) h2
        by_cases hjt : j = tops W k - 1 - 1
        · subst hjt; rw [pk_us, pk_us, ih' _ (by omega), ih' _ (by omega)]
        · rw [pk_un hjt, pk_un hjt]; exact ih' j (by omega)
end EX
abbrev M_Mo_worked : MD := (⟨"FelledByNamesModel", "worked", "(II)I"⟩, prog_14_method_28_code, 6, (some .int), fun _ => True)
theorem d_Mo_worked_0 : decode prog_14_method_28_code 0 = .ok (.iconst 0, 1) := by decide +kernel
theorem d_Mo_worked_1 : decode prog_14_method_28_code 1 = .ok (.istore_n 3, 1) := by decide +kernel
theorem d_Mo_worked_2 : decode prog_14_method_28_code 2 = .ok (.iload_n 1, 1) := by decide +kernel
theorem d_Mo_worked_3 : decode prog_14_method_28_code 3 = .ok (.istore 4, 2) := by decide +kernel
theorem d_Mo_worked_5 : decode prog_14_method_28_code 5 = .ok (.iload 4, 2) := by decide +kernel
theorem d_Mo_worked_7 : decode prog_14_method_28_code 7 = .ok (.iload_n 1, 1) := by decide +kernel
theorem d_Mo_worked_8 : decode prog_14_method_28_code 8 = .ok (.iload_n 2, 1) := by decide +kernel
theorem d_Mo_worked_9 : decode prog_14_method_28_code 9 = .ok (.iadd, 1) := by decide +kernel
theorem d_Mo_worked_10 : decode prog_14_method_28_code 10 = .ok (.if_icmp .ge 131, 3) := by decide +kernel
theorem d_Mo_worked_141 : decode prog_14_method_28_code 141 = .ok (.aload_n 0, 1) := by decide +kernel
theorem d_Mo_worked_142 : decode prog_14_method_28_code 142 = .ok (.getfield 28, 3) := by decide +kernel
theorem f_Mo_28_Mo : fok "FelledByNamesModel" 28 5 14 := ⟨R_Mo, F_Mo, 26, "FelledByNamesModel", rfl, i_Mo, by decide, tm 1073 (by decide +kernel) rfl, Or.inl rfl, t_Mo, t_Mo_ok, n_Mo⟩
theorem d_Mo_worked_145 : decode prog_14_method_28_code 145 = .ok (.iconst 0, 1) := by decide +kernel
theorem d_Mo_worked_146 : decode prog_14_method_28_code 146 = .ok (.iaload, 1) := by decide +kernel
theorem d_Mo_worked_147 : decode prog_14_method_28_code 147 = .ok (.ireturn, 1) := by decide +kernel
theorem d_Mo_worked_13 : decode prog_14_method_28_code 13 = .ok (.aload_n 0, 1) := by decide +kernel
theorem d_Mo_worked_14 : decode prog_14_method_28_code 14 = .ok (.getfield 7, 3) := by decide +kernel
theorem d_Mo_worked_17 : decode prog_14_method_28_code 17 = .ok (.iload 4, 2) := by decide +kernel
theorem d_Mo_worked_19 : decode prog_14_method_28_code 19 = .ok (.iaload, 1) := by decide +kernel
theorem d_Mo_worked_20 : decode prog_14_method_28_code 20 = .ok (.istore 5, 2) := by decide +kernel
theorem d_Mo_worked_22 : decode prog_14_method_28_code 22 = .ok (.iload 5, 2) := by decide +kernel
theorem d_Mo_worked_24 : decode prog_14_method_28_code 24 = .ok (.sipush 20000, 3) := by decide +kernel
theorem d_Mo_worked_27 : decode prog_14_method_28_code 27 = .ok (.if_icmp .ge 39, 3) := by decide +kernel
theorem d_Mo_worked_66 : decode prog_14_method_28_code 66 = .ok (.iload 5, 2) := by decide +kernel
theorem d_Mo_worked_68 : decode prog_14_method_28_code 68 = .ok (.sipush 20033, 3) := by decide +kernel
theorem d_Mo_worked_71 : decode prog_14_method_28_code 71 = .ok (.if_icmp .ne 30, 3) := by decide +kernel
theorem d_Mo_worked_101 : decode prog_14_method_28_code 101 = .ok (.iinc 3 (-1), 3) := by decide +kernel
theorem d_Mo_worked_104 : decode prog_14_method_28_code 104 = .ok (.aload_n 0, 1) := by decide +kernel
theorem d_Mo_worked_105 : decode prog_14_method_28_code 105 = .ok (.getfield 28, 3) := by decide +kernel
theorem d_Mo_worked_108 : decode prog_14_method_28_code 108 = .ok (.iload_n 3, 1) := by decide +kernel
theorem d_Mo_worked_109 : decode prog_14_method_28_code 109 = .ok (.iconst 1, 1) := by decide +kernel
theorem d_Mo_worked_110 : decode prog_14_method_28_code 110 = .ok (.isub, 1) := by decide +kernel
theorem d_Mo_worked_111 : decode prog_14_method_28_code 111 = .ok (.iload 5, 2) := by decide +kernel
theorem d_Mo_worked_113 : decode prog_14_method_28_code 113 = .ok (.sipush 20000, 3) := by decide +kernel
theorem d_Mo_worked_116 : decode prog_14_method_28_code 116 = .ok (.isub, 1) := by decide +kernel
theorem d_Mo_worked_117 : decode prog_14_method_28_code 117 = .ok (.aload_n 0, 1) := by decide +kernel
theorem d_Mo_worked_118 : decode prog_14_method_28_code 118 = .ok (.getfield 28, 3) := by decide +kernel
theorem d_Mo_worked_121 : decode prog_14_method_28_code 121 = .ok (.iload_n 3, 1) := by decide +kernel
theorem d_Mo_worked_122 : decode prog_14_method_28_code 122 = .ok (.iconst 1, 1) := by decide +kernel
theorem d_Mo_worked_123 : decode prog_14_method_28_code 123 = .ok (.isub, 1) := by decide +kernel
theorem d_Mo_worked_124 : decode prog_14_method_28_code 124 = .ok (.iaload, 1) := by decide +kernel
theorem d_Mo_worked_125 : decode prog_14_method_28_code 125 = .ok (.aload_n 0, 1) := by decide +kernel
theorem d_Mo_worked_126 : decode prog_14_method_28_code 126 = .ok (.getfield 28, 3) := by decide +kernel
theorem d_Mo_worked_129 : decode prog_14_method_28_code 129 = .ok (.iload_n 3, 1) := by decide +kernel
theorem d_Mo_worked_130 : decode prog_14_method_28_code 130 = .ok (.iaload, 1) := by decide +kernel
theorem d_Mo_worked_131 : decode prog_14_method_28_code 131 = .ok (.invokestatic 132, 3) := by decide +kernel
theorem kB_Mo_done : kB M_Mo_done 3 := ⟨tm 15 (by decide +kernel) rfl, tm 1224 (by decide +kernel) rfl, ⟨by decide, by decide, by decide +kernel⟩, by decide⟩
theorem k_Mo_132_Mo_doneS : kS "FelledByNamesModel" 132 M_Mo_done 3 := ⟨kB_Mo_done, tm 1222 (by decide +kernel) rfl, tm 1223 (by decide +kernel) rfl⟩
theorem d_Mo_worked_134 : decode prog_14_method_28_code 134 = .ok (.iastore, 1) := by decide +kernel
theorem d_Mo_worked_135 : decode prog_14_method_28_code 135 = .ok (.iinc 4 1, 3) := by decide +kernel
theorem d_Mo_worked_138 : decode prog_14_method_28_code 138 = .ok (.goto (-133), 3) := by decide +kernel
theorem d_Mo_worked_74 : decode prog_14_method_28_code 74 = .ok (.aload_n 0, 1) := by decide +kernel
theorem d_Mo_worked_75 : decode prog_14_method_28_code 75 = .ok (.getfield 28, 3) := by decide +kernel
theorem d_Mo_worked_78 : decode prog_14_method_28_code 78 = .ok (.iload_n 3, 1) := by decide +kernel
theorem d_Mo_worked_79 : decode prog_14_method_28_code 79 = .ok (.iconst 1, 1) := by decide +kernel
theorem d_Mo_worked_80 : decode prog_14_method_28_code 80 = .ok (.isub, 1) := by decide +kernel
theorem d_Mo_worked_81 : decode prog_14_method_28_code 81 = .ok (.aload_n 0, 1) := by decide +kernel
theorem d_Mo_worked_82 : decode prog_14_method_28_code 82 = .ok (.getfield 28, 3) := by decide +kernel
theorem d_Mo_worked_85 : decode prog_14_method_28_code 85 = .ok (.iload_n 3, 1) := by decide +kernel
theorem d_Mo_worked_86 : decode prog_14_method_28_code 86 = .ok (.iconst 1, 1) := by decide +kernel
theorem d_Mo_worked_87 : decode prog_14_method_28_code 87 = .ok (.isub, 1) := by decide +kernel
theorem d_Mo_worked_88 : decode prog_14_method_28_code 88 = .ok (.iaload, 1) := by decide +kernel
theorem d_Mo_worked_89 : decode prog_14_method_28_code 89 = .ok (.ifCond .ne 7, 3) := by decide +kernel
theorem d_Mo_worked_96 : decode prog_14_method_28_code 96 = .ok (.iconst 0, 1) := by decide +kernel
theorem d_Mo_worked_97 : decode prog_14_method_28_code 97 = .ok (.iastore, 1) := by decide +kernel
theorem d_Mo_worked_98 : decode prog_14_method_28_code 98 = .ok (.goto 37, 3) := by decide +kernel
theorem d_Mo_worked_92 : decode prog_14_method_28_code 92 = .ok (.iconst 1, 1) := by decide +kernel
theorem d_Mo_worked_93 : decode prog_14_method_28_code 93 = .ok (.goto 4, 3) := by decide +kernel
theorem d_Mo_worked_30 : decode prog_14_method_28_code 30 = .ok (.aload_n 0, 1) := by decide +kernel
theorem d_Mo_worked_31 : decode prog_14_method_28_code 31 = .ok (.getfield 28, 3) := by decide +kernel
theorem d_Mo_worked_34 : decode prog_14_method_28_code 34 = .ok (.iload_n 3, 1) := by decide +kernel
theorem d_Mo_worked_35 : decode prog_14_method_28_code 35 = .ok (.iload 5, 2) := by decide +kernel
theorem d_Mo_worked_37 : decode prog_14_method_28_code 37 = .ok (.sipush 10000, 3) := by decide +kernel
theorem d_Mo_worked_40 : decode prog_14_method_28_code 40 = .ok (.if_icmp .ge 8, 3) := by decide +kernel
theorem d_Mo_worked_48 : decode prog_14_method_28_code 48 = .ok (.aload_n 0, 1) := by decide +kernel
theorem d_Mo_worked_49 : decode prog_14_method_28_code 49 = .ok (.getfield 22, 3) := by decide +kernel
theorem f_Mo_22_Mo : fok "FelledByNamesModel" 22 5 11 := ⟨R_Mo, F_Mo, 26, "FelledByNamesModel", rfl, i_Mo, by decide, tm 1070 (by decide +kernel) rfl, Or.inl rfl, t_Mo, t_Mo_ok, n_Mo⟩
theorem d_Mo_worked_52 : decode prog_14_method_28_code 52 = .ok (.iload 5, 2) := by decide +kernel
theorem d_Mo_worked_54 : decode prog_14_method_28_code 54 = .ok (.sipush 10000, 3) := by decide +kernel
theorem d_Mo_worked_57 : decode prog_14_method_28_code 57 = .ok (.isub, 1) := by decide +kernel
theorem d_Mo_worked_58 : decode prog_14_method_28_code 58 = .ok (.iaload, 1) := by decide +kernel
theorem d_Mo_worked_59 : decode prog_14_method_28_code 59 = .ok (.iastore, 1) := by decide +kernel
theorem d_Mo_worked_60 : decode prog_14_method_28_code 60 = .ok (.iinc 3 1, 3) := by decide +kernel
theorem d_Mo_worked_63 : decode prog_14_method_28_code 63 = .ok (.goto 72, 3) := by decide +kernel
theorem d_Mo_worked_43 : decode prog_14_method_28_code 43 = .ok (.iload 5, 2) := by decide +kernel
theorem d_Mo_worked_45 : decode prog_14_method_28_code 45 = .ok (.goto 14, 3) := by decide +kernel
set_option maxRecDepth 100000 in
theorem c_Mo_worked {fr len : Nat} {W : Nat → Nat} {l : Launch} {d q n : Nat} {D : Nat → Int32} {A : Nat → Nat → Int32} {S : Nat → Int32} {h0 : HP} {Q : QT} (hfr : fr + len ≤ 278) (hC : ∀ k, k < len → D (fr + k) = nI (W k)) (hW : Wf W len) (hQ : Q (some (.int (evc (A 4 0) (A 4 1) (A 4 2) W len))) n (mo q D (uA A 6 (exs (A 4 0) (A 4 1) (A 4 2) W len (A 6)).2) S h0)) : Ct l M_Mo_worked (d + 1) 0 0 [.ref q, .int (nI fr), .int (nI len)] n (mo q D A S h0) Q := by
  refine Ct.of (fun _ => trivial) (by decide) (Nat.le_of_ble_eq_true rfl) ?_
  obtain ⟨hl50, hok, htop⟩ := hW
  refine V.iconst_ (nI 0) d_Mo_worked_0 (by decide +kernel) ?_
  refine V.istore_n d_Mo_worked_1 (by decide) ?_
  refine V.iload_n d_Mo_worked_2 rfl ?_
  refine V.istore d_Mo_worked_3 (by decide) ?_
  refine V.lc (ls' := [(0, .ref q), (1, .int (nI fr)), (2, .int (nI len)), (3, .int (nI (tops W 0))), (4, .int (nI (fr + 0)))]) rfl ?_
  refine V.eqH (h' := mo q D (uA A 6 (exs (A 4 0) (A 4 1) (A 4 2) W 0 (A 6)).2) S h0) (by exact congrArg (fun x => mo q D x S h0) (uA_id (A := A) (k := 6)).symm) ?_
  refine up_to (G := fun k => V l M_Mo_worked (d + 1) 0 0 5 [(0, .ref q), (1, .int (nI fr)), (2, .int (nI len)), (3, .int (nI (tops W k))), (4, .int (nI (fr + k)))] [] n (mo q D (uA A 6 (exs (A 4 0) (A 4 1) (A 4 2) W k (A 6)).2) S h0) 0 0 Q) (len) ?_ (fun k hk hn => ?_) 0 (by omega)
  · skip
    refine V.iload d_Mo_worked_5 rfl ?_
    refine V.iload_n d_Mo_worked_7 rfl ?_
    refine V.iload_n d_Mo_worked_8 rfl ?_
    refine V.addN d_Mo_worked_9 ?_
    refine V.geN (tgt := 141) d_Mo_worked_10 (by decide) (by omega) (by omega) (fun c_10 => ?_) (fun c_10 => ?_)
    · skip
      refine V.aload_n d_Mo_worked_141 rfl ?_
      refine V.get d_Mo_worked_142 f_Mo_28_Mo mo_o rfl ?_
      refine V.iconst_ (nI 0) d_Mo_worked_145 (by decide +kernel) ?_
      refine V.mlda 6 (by decide) (by decide) d_Mo_worked_146 (by first | omega | (show _ < 60; omega)) ?_
      rw [uA_s, exs_any hok (A 6) (fun _ => 0) len (Nat.le_refl _) 0 (by omega)]
      refine V.iret d_Mo_worked_147 rfl (Nat.le_of_ble_eq_true rfl) (Nat.le_of_ble_eq_true rfl) ?_
      exact hQ
    · skip
      exact absurd c_10 (by omega)
  · skip
    obtain ⟨o1, o2, o3, o4⟩ := hok k hk
    have htl := tops_le W k
    refine V.iload d_Mo_worked_5 rfl ?_
    refine V.iload_n d_Mo_worked_7 rfl ?_
    refine V.iload_n d_Mo_worked_8 rfl ?_
    refine V.addN d_Mo_worked_9 ?_
    refine V.geN (tgt := 141) d_Mo_worked_10 (by decide) (by omega) (by omega) (fun c_10 => ?_) (fun c_10 => ?_)
    · skip
      exact absurd c_10 (by omega)
    · skip
      refine V.aload_n d_Mo_worked_13 rfl ?_
      refine V.get d_Mo_worked_14 f_Mo_7_Mo mo_o rfl ?_
      refine V.iload d_Mo_worked_17 rfl ?_
      refine V.mldd d_Mo_worked_19 (by omega) ?_
      refine V.top (hC k hk) ?_
      refine V.istore d_Mo_worked_20 (by decide) ?_
      refine V.iload d_Mo_worked_22 rfl ?_
      refine V.sipush_ (nI 20000) d_Mo_worked_24 (by decide +kernel) ?_
      refine V.geN (tgt := 66) d_Mo_worked_27 (by decide) (by omega) (by omega) (fun c_27 => ?_) (fun c_27 => ?_)
      · skip
        refine V.iload d_Mo_worked_66 rfl ?_
        refine V.sipush_ (nI 20033) d_Mo_worked_68 (by decide +kernel) ?_
        refine V.neN (tgt := 101) d_Mo_worked_71 (by decide) (by omega) (by omega) (fun c_71 => ?_) (fun c_71 => ?_)
        · skip
          have o3' := o3 c_27 c_71
          refine V.decN d_Mo_worked_101 rfl (by omega) (by decide) ?_
          refine V.aload_n d_Mo_worked_104 rfl ?_
          refine V.get d_Mo_worked_105 f_Mo_28_Mo mo_o rfl ?_
          refine V.iload_n d_Mo_worked_108 rfl ?_
          refine V.iconst_ (nI 1) d_Mo_worked_109 (by decide +kernel) ?_
          refine V.subN d_Mo_worked_110 (by omega) ?_
          refine V.iload d_Mo_worked_111 rfl ?_
          refine V.sipush_ (nI 20000) d_Mo_worked_113 (by decide +kernel) ?_
          refine V.subN d_Mo_worked_116 (by omega) ?_
          refine V.aload_n d_Mo_worked_117 rfl ?_
          refine V.get d_Mo_worked_118 f_Mo_28_Mo mo_o rfl ?_
          refine V.iload_n d_Mo_worked_121 rfl ?_
          refine V.iconst_ (nI 1) d_Mo_worked_122 (by decide +kernel) ?_
          refine V.subN d_Mo_worked_123 (by omega) ?_
          refine V.mlda 6 (by decide) (by decide) d_Mo_worked_124 (by first | omega | (show _ < 60; omega)) ?_
          refine V.aload_n d_Mo_worked_125 rfl ?_
          refine V.get d_Mo_worked_126 f_Mo_28_Mo mo_o rfl ?_
          refine V.iload_n d_Mo_worked_129 rfl ?_
          refine V.mlda 6 (by decide) (by decide) d_Mo_worked_130 (by first | omega | (show _ < 60; omega)) ?_
          simp only [uA_uu, uA_s]
          refine V.callS3 d_Mo_worked_131 k_Mo_132_Mo_doneS (Nat.le_of_ble_eq_true rfl) (by omega) (by omega) (c_Mo_done ?_)
          refine V.msta 6 (by decide) (by decide) d_Mo_worked_134 (by first | omega | (show _ < 60; omega)) ?_
          refine V.incN d_Mo_worked_135 rfl (by decide) ?_
          refine V.goto (tgt := 5) d_Mo_worked_138 (by decide) ?_
          simp only [uA_uu, uA_s]
          first | (rw [(exs_num c_40).1, (exs_num (a := A 4 0) (b := A 4 1) (c := A 4 2) (P := A 6) c_40).2] at hn; exact V.lc rfl hn) | (rw [(exs_nam c_40 c_27).1, (exs_nam (a := A 4 0) (b := A 4 1) (c := A 4 2) (P := A 6) c_40 c_27).2] at hn; rw [hnm] at hn; exact V.lc rfl hn) | (rw [(exs_not c_71).1, (exs_not (a := A 4 0) (b := A 4 1) (c := A 4 2) (P := A 6) c_71).2] at hn; first | (rw [if_pos c_89] at hn; exact V.lc rfl hn) | (rw [if_neg c_89] at hn; exact V.lc rfl hn)) | (rw [(exs_bin c_27 c_71).1, (exs_bin (a := A 4 0) (b := A 4 1) (c := A 4 2) (P := A 6) c_27 c_71).2] at hn; exact V.lc rfl hn)
        · skip
          have o2' := o2 c_71
          refine V.aload_n d_Mo_worked_74 rfl ?_
          refine V.get d_Mo_worked_75 f_Mo_28_Mo mo_o rfl ?_
          refine V.iload_n d_Mo_worked_78 rfl ?_
          refine V.iconst_ (nI 1) d_Mo_worked_79 (by decide +kernel) ?_
          refine V.subN d_Mo_worked_80 (by omega) ?_
          refine V.aload_n d_Mo_worked_81 rfl ?_
          refine V.get d_Mo_worked_82 f_Mo_28_Mo mo_o rfl ?_
          refine V.iload_n d_Mo_worked_85 rfl ?_
          refine V.iconst_ (nI 1) d_Mo_worked_86 (by decide +kernel) ?_
          refine V.subN d_Mo_worked_87 (by omega) ?_
          refine V.mlda 6 (by decide) (by decide) d_Mo_worked_88 (by first | omega | (show _ < 60; omega)) ?_
          simp only [uA_uu, uA_s]
          refine V.if_ne (tgt := 96) d_Mo_worked_89 (by decide) (fun c_89 => ?_) (fun c_89 => ?_)
          · skip
            refine V.iconst_ (nI 0) d_Mo_worked_96 (by decide +kernel) ?_
            refine V.msta 6 (by decide) (by decide) d_Mo_worked_97 (by first | omega | (show _ < 60; omega)) ?_
            refine V.goto (tgt := 135) d_Mo_worked_98 (by decide) ?_
            refine V.incN d_Mo_worked_135 rfl (by decide) ?_
            refine V.goto (tgt := 5) d_Mo_worked_138 (by decide) ?_
            simp only [uA_uu, uA_s]
            first | (rw [(exs_num c_40).1, (exs_num (a := A 4 0) (b := A 4 1) (c := A 4 2) (P := A 6) c_40).2] at hn; exact V.lc rfl hn) | (rw [(exs_nam c_40 c_27).1, (exs_nam (a := A 4 0) (b := A 4 1) (c := A 4 2) (P := A 6) c_40 c_27).2] at hn; rw [hnm] at hn; exact V.lc rfl hn) | (rw [(exs_not c_71).1, (exs_not (a := A 4 0) (b := A 4 1) (c := A 4 2) (P := A 6) c_71).2] at hn; first | (rw [if_pos c_89] at hn; exact V.lc rfl hn) | (rw [if_neg c_89] at hn; exact V.lc rfl hn)) | (rw [(exs_bin c_27 c_71).1, (exs_bin (a := A 4 0) (b := A 4 1) (c := A 4 2) (P := A 6) c_27 c_71).2] at hn; exact V.lc rfl hn)
          · skip
            refine V.iconst_ (nI 1) d_Mo_worked_92 (by decide +kernel) ?_
            refine V.goto (tgt := 97) d_Mo_worked_93 (by decide) ?_
            refine V.msta 6 (by decide) (by decide) d_Mo_worked_97 (by first | omega | (show _ < 60; omega)) ?_
            refine V.goto (tgt := 135) d_Mo_worked_98 (by decide) ?_
            refine V.incN d_Mo_worked_135 rfl (by decide) ?_
            refine V.goto (tgt := 5) d_Mo_worked_138 (by decide) ?_
            simp only [uA_uu, uA_s]
            first | (rw [(exs_num c_40).1, (exs_num (a := A 4 0) (b := A 4 1) (c := A 4 2) (P := A 6) c_40).2] at hn; exact V.lc rfl hn) | (rw [(exs_nam c_40 c_27).1, (exs_nam (a := A 4 0) (b := A 4 1) (c := A 4 2) (P := A 6) c_40 c_27).2] at hn; rw [hnm] at hn; exact V.lc rfl hn) | (rw [(exs_not c_71).1, (exs_not (a := A 4 0) (b := A 4 1) (c := A 4 2) (P := A 6) c_71).2] at hn; first | (rw [if_pos c_89] at hn; exact V.lc rfl hn) | (rw [if_neg c_89] at hn; exact V.lc rfl hn)) | (rw [(exs_bin c_27 c_71).1, (exs_bin (a := A 4 0) (b := A 4 1) (c := A 4 2) (P := A 6) c_27 c_71).2] at hn; exact V.lc rfl hn)
      · skip
        refine V.aload_n d_Mo_worked_30 rfl ?_
        refine V.get d_Mo_worked_31 f_Mo_28_Mo mo_o rfl ?_
        refine V.iload_n d_Mo_worked_34 rfl ?_
        refine V.iload d_Mo_worked_35 rfl ?_
        refine V.sipush_ (nI 10000) d_Mo_worked_37 (by decide +kernel) ?_
        refine V.geN (tgt := 48) d_Mo_worked_40 (by decide) (by omega) (by omega) (fun c_40 => ?_) (fun c_40 => ?_)
        · skip
          have o1' := o1 c_27
          have hnm : vnm (A 4 0) (A 4 1) (A 4 2) (W k - 10000) = uA A 6 (exs (A 4 0) (A 4 1) (A 4 2) W k (A 6)).2 4 (W k - 10000) := by
            rw [uA_n (by decide)]
            rcases (show W k - 10000 = 0 ∨ W k - 10000 = 1 ∨ W k - 10000 = 2 by omega) with e | e | e <;> rw [e] <;> rfl
          refine V.aload_n d_Mo_worked_48 rfl ?_
          refine V.get d_Mo_worked_49 f_Mo_22_Mo mo_o rfl ?_
          refine V.iload d_Mo_worked_52 rfl ?_
          refine V.sipush_ (nI 10000) d_Mo_worked_54 (by decide +kernel) ?_
          refine V.subN d_Mo_worked_57 (by omega) ?_
          refine V.mlda 4 (by decide) (by decide) d_Mo_worked_58 (by first | omega | (show _ < 3; omega)) ?_
          refine V.msta 6 (by decide) (by decide) d_Mo_worked_59 (by first | omega | (show _ < 60; omega)) ?_
          refine V.incN d_Mo_worked_60 rfl (by decide) ?_
          refine V.goto (tgt := 135) d_Mo_worked_63 (by decide) ?_
          refine V.incN d_Mo_worked_135 rfl (by decide) ?_
          refine V.goto (tgt := 5) d_Mo_worked_138 (by decide) ?_
          simp only [uA_uu, uA_s]
          first | (rw [(exs_num c_40).1, (exs_num (a := A 4 0) (b := A 4 1) (c := A 4 2) (P := A 6) c_40).2] at hn; exact V.lc rfl hn) | (rw [(exs_nam c_40 c_27).1, (exs_nam (a := A 4 0) (b := A 4 1) (c := A 4 2) (P := A 6) c_40 c_27).2] at hn; rw [hnm] at hn; exact V.lc rfl hn) | (rw [(exs_not c_71).1, (exs_not (a := A 4 0) (b := A 4 1) (c := A 4 2) (P := A 6) c_71).2] at hn; first | (rw [if_pos c_89] at hn; exact V.lc rfl hn) | (rw [if_neg c_89] at hn; exact V.lc rfl hn)) | (rw [(exs_bin c_27 c_71).1, (exs_bin (a := A 4 0) (b := A 4 1) (c := A 4 2) (P := A 6) c_27 c_71).2] at hn; exact V.lc rfl hn)
        · skip
          refine V.iload d_Mo_worked_43 rfl ?_
          refine V.goto (tgt := 59) d_Mo_worked_45 (by decide) ?_
          refine V.msta 6 (by decide) (by decide) d_Mo_worked_59 (by first | omega | (show _ < 60; omega)) ?_
          refine V.incN d_Mo_worked_60 rfl (by decide) ?_
          refine V.goto (tgt := 135) d_Mo_worked_63 (by decide) ?_
          refine V.incN d_Mo_worked_135 rfl (by decide) ?_
          refine V.goto (tgt := 5) d_Mo_worked_138 (by decide) ?_
          simp only [uA_uu, uA_s]
          first | (rw [(exs_num c_40).1, (exs_num (a := A 4 0) (b := A 4 1) (c := A 4 2) (P := A 6) c_40).2] at hn; exact V.lc rfl hn) | (rw [(exs_nam c_40 c_27).1, (exs_nam (a := A 4 0) (b := A 4 1) (c := A 4 2) (P := A 6) c_40 c_27).2] at hn; rw [hnm] at hn; exact V.lc rfl hn) | (rw [(exs_not c_71).1, (exs_not (a := A 4 0) (b := A 4 1) (c := A 4 2) (P := A 6) c_71).2] at hn; first | (rw [if_pos c_89] at hn; exact V.lc rfl hn) | (rw [if_neg c_89] at hn; exact V.lc rfl hn)) | (rw [(exs_bin c_27 c_71).1, (exs_bin (a := A 4 0) (b := A 4 1) (c := A 4 2) (P := A 6) c_27 c_71).2] at hn; exact V.lc rfl hn)
end
section
def Cd (D : Nat → Int32) (u : Nat) (W : Nat → Nat) (len : Nat) : Prop := D (106 + u) = nI len ∧ (∀ k, k < len → D (128 + 50 * u + k) = nI (W k)) ∧ (len = 0 ∨ Wf W len) ∧ len ≤ 50
def tgv (u : Nat) (W : Nat → Nat) (len : Nat) (a b c : Int32) : Int32 := if u = 0 then hld (if len = 0 then -b else evc a b c W len) (-9) (nI 9) else hld (if len = 0 then a else evc a b c W len) (nI 0) (nI 99)
def gdn (wv : Int32 → Int32 → Int32 → Int32) (D : Nat → Int32) (i : Nat) : Nat → Int32 :=
  upd (upd (upd D 4 (hld (D 4 + wv (D (50 + 7 * i + 5)) (D (50 + 7 * i + 1)) (D (50 + 7 * i + 4))) (nI 0) (nI 99999))) 3 (hld (D 3 + (if wi (D 2 - D (50 + 7 * i + 4)) (nI 1) (rch D i) = true then nI 1 else nI 0)) (nI 0) (nI 999))) (50 + 7 * i + 6) (nI 0)
theorem rch_u {D : Nat → Int32} {j i : Nat} {x : Int32} (hj : j < 50) : rch (upd D j x) i = rch D i := by
  unfold rch
  rw [pk_un (by omega), pk_un (by omega)]
/-- the row of those that fell, m ahead of them -/
def wrf (f : Nat → Int32) (m : Nat) (t : Nat) : Nat → Int32 := if m < 8 then upd f m (nI t) else f
abbrev M_Mo_textGives : MD := (⟨"FelledByNamesModel", "textGives", "(IIII)I"⟩, prog_14_method_31_code, 6, (some .int), fun _ => True)
theorem d_Mo_textGives_0 : decode prog_14_method_31_code 0 = .ok (.iload_n 1, 1) := by decide +kernel
theorem d_Mo_textGives_1 : decode prog_14_method_31_code 1 = .ok (.ifCond .ne 8, 3) := by decide +kernel
theorem d_Mo_textGives_9 : decode prog_14_method_31_code 9 = .ok (.iload_n 2, 1) := by decide +kernel
theorem d_Mo_textGives_10 : decode prog_14_method_31_code 10 = .ok (.istore 5, 2) := by decide +kernel
theorem d_Mo_textGives_12 : decode prog_14_method_31_code 12 = .ok (.aload_n 0, 1) := by decide +kernel
theorem d_Mo_textGives_13 : decode prog_14_method_31_code 13 = .ok (.getfield 7, 3) := by decide +kernel
theorem d_Mo_textGives_16 : decode prog_14_method_31_code 16 = .ok (.bipush 106, 2) := by decide +kernel
theorem d_Mo_textGives_18 : decode prog_14_method_31_code 18 = .ok (.iload_n 1, 1) := by decide +kernel
theorem d_Mo_textGives_19 : decode prog_14_method_31_code 19 = .ok (.iadd, 1) := by decide +kernel
theorem d_Mo_textGives_20 : decode prog_14_method_31_code 20 = .ok (.iaload, 1) := by decide +kernel
theorem d_Mo_textGives_21 : decode prog_14_method_31_code 21 = .ok (.ifCond .le 48, 3) := by decide +kernel
theorem d_Mo_textGives_69 : decode prog_14_method_31_code 69 = .ok (.iload_n 1, 1) := by decide +kernel
theorem d_Mo_textGives_70 : decode prog_14_method_31_code 70 = .ok (.ifCond .ne 15, 3) := by decide +kernel
theorem d_Mo_textGives_85 : decode prog_14_method_31_code 85 = .ok (.iload 5, 2) := by decide +kernel
theorem d_Mo_textGives_87 : decode prog_14_method_31_code 87 = .ok (.iconst 0, 1) := by decide +kernel
theorem d_Mo_textGives_88 : decode prog_14_method_31_code 88 = .ok (.bipush 99, 2) := by decide +kernel
theorem d_Mo_textGives_90 : decode prog_14_method_31_code 90 = .ok (.invokestatic 151, 3) := by decide +kernel
theorem kB_Mo_held : kB M_Mo_held 3 := ⟨tm 15 (by decide +kernel) rfl, tm 1227 (by decide +kernel) rfl, ⟨by decide, by decide, by decide +kernel⟩, by decide⟩
theorem k_Mo_151_Mo_heldS : kS "FelledByNamesModel" 151 M_Mo_held 3 := ⟨kB_Mo_held, tm 1225 (by decide +kernel) rfl, tm 1226 (by decide +kernel) rfl⟩
theorem d_Mo_textGives_93 : decode prog_14_method_31_code 93 = .ok (.ireturn, 1) := by decide +kernel
theorem d_Mo_textGives_73 : decode prog_14_method_31_code 73 = .ok (.iload 5, 2) := by decide +kernel
theorem d_Mo_textGives_75 : decode prog_14_method_31_code 75 = .ok (.bipush (-9), 2) := by decide +kernel
theorem d_Mo_textGives_77 : decode prog_14_method_31_code 77 = .ok (.bipush 9, 2) := by decide +kernel
theorem d_Mo_textGives_79 : decode prog_14_method_31_code 79 = .ok (.invokestatic 151, 3) := by decide +kernel
theorem d_Mo_textGives_82 : decode prog_14_method_31_code 82 = .ok (.goto 11, 3) := by decide +kernel
theorem d_Mo_textGives_24 : decode prog_14_method_31_code 24 = .ok (.aload_n 0, 1) := by decide +kernel
theorem d_Mo_textGives_25 : decode prog_14_method_31_code 25 = .ok (.getfield 22, 3) := by decide +kernel
theorem d_Mo_textGives_28 : decode prog_14_method_31_code 28 = .ok (.iconst 0, 1) := by decide +kernel
theorem d_Mo_textGives_29 : decode prog_14_method_31_code 29 = .ok (.iload_n 2, 1) := by decide +kernel
theorem d_Mo_textGives_30 : decode prog_14_method_31_code 30 = .ok (.iastore, 1) := by decide +kernel
theorem d_Mo_textGives_31 : decode prog_14_method_31_code 31 = .ok (.aload_n 0, 1) := by decide +kernel
theorem d_Mo_textGives_32 : decode prog_14_method_31_code 32 = .ok (.getfield 22, 3) := by decide +kernel
theorem d_Mo_textGives_35 : decode prog_14_method_31_code 35 = .ok (.iconst 1, 1) := by decide +kernel
theorem d_Mo_textGives_36 : decode prog_14_method_31_code 36 = .ok (.iload_n 3, 1) := by decide +kernel
theorem d_Mo_textGives_37 : decode prog_14_method_31_code 37 = .ok (.iastore, 1) := by decide +kernel
theorem d_Mo_textGives_38 : decode prog_14_method_31_code 38 = .ok (.aload_n 0, 1) := by decide +kernel
theorem d_Mo_textGives_39 : decode prog_14_method_31_code 39 = .ok (.getfield 22, 3) := by decide +kernel
theorem d_Mo_textGives_42 : decode prog_14_method_31_code 42 = .ok (.iconst 2, 1) := by decide +kernel
theorem d_Mo_textGives_43 : decode prog_14_method_31_code 43 = .ok (.iload 4, 2) := by decide +kernel
theorem d_Mo_textGives_45 : decode prog_14_method_31_code 45 = .ok (.iastore, 1) := by decide +kernel
theorem d_Mo_textGives_46 : decode prog_14_method_31_code 46 = .ok (.aload_n 0, 1) := by decide +kernel
theorem d_Mo_textGives_47 : decode prog_14_method_31_code 47 = .ok (.sipush 128, 3) := by decide +kernel
theorem d_Mo_textGives_50 : decode prog_14_method_31_code 50 = .ok (.bipush 50, 2) := by decide +kernel
theorem d_Mo_textGives_52 : decode prog_14_method_31_code 52 = .ok (.iload_n 1, 1) := by decide +kernel
theorem d_Mo_textGives_53 : decode prog_14_method_31_code 53 = .ok (.imul, 1) := by decide +kernel
theorem d_Mo_textGives_54 : decode prog_14_method_31_code 54 = .ok (.iadd, 1) := by decide +kernel
theorem d_Mo_textGives_55 : decode prog_14_method_31_code 55 = .ok (.aload_n 0, 1) := by decide +kernel
theorem d_Mo_textGives_56 : decode prog_14_method_31_code 56 = .ok (.getfield 7, 3) := by decide +kernel
theorem d_Mo_textGives_59 : decode prog_14_method_31_code 59 = .ok (.bipush 106, 2) := by decide +kernel
theorem d_Mo_textGives_61 : decode prog_14_method_31_code 61 = .ok (.iload_n 1, 1) := by decide +kernel
theorem d_Mo_textGives_62 : decode prog_14_method_31_code 62 = .ok (.iadd, 1) := by decide +kernel
theorem d_Mo_textGives_63 : decode prog_14_method_31_code 63 = .ok (.iaload, 1) := by decide +kernel
theorem d_Mo_textGives_64 : decode prog_14_method_31_code 64 = .ok (.invokevirtual 147, 3) := by decide +kernel
theorem kB_Mo_worked : kB M_Mo_worked 2 := ⟨tm 15 (by decide +kernel) rfl, tm 1221 (by decide +kernel) rfl, ⟨by decide, by decide, by decide +kernel⟩, by decide⟩
theorem k_Mo_147_Mo_worked_MoV : kV "FelledByNamesModel" 147 5 M_Mo_worked 2 := ⟨kB_Mo_worked, tm 1218 (by decide +kernel) rfl, tm 1220 (by decide +kernel) rfl, tp 28 (by decide +kernel) rfl, _, rfl, rfl⟩
theorem d_Mo_textGives_67 : decode prog_14_method_31_code 67 = .ok (.istore 5, 2) := by decide +kernel
theorem d_Mo_textGives_4 : decode prog_14_method_31_code 4 = .ok (.iload_n 3, 1) := by decide +kernel
theorem d_Mo_textGives_5 : decode prog_14_method_31_code 5 = .ok (.ineg, 1) := by decide +kernel
theorem d_Mo_textGives_6 : decode prog_14_method_31_code 6 = .ok (.goto 4, 3) := by decide +kernel
set_option maxRecDepth 100000 in
theorem c_Mo_textGives {u len : Nat} {W : Nat → Nat} {a b c : Int32} {l : Launch} {d q n : Nat} {D : Nat → Int32} {A : Nat → Nat → Int32} {S : Nat → Int32} {h0 : HP} {Q : QT} (hu : u = 0 ∨ u = 1) (hCd : Cd D u W len) (hQ : ∀ (A1 : Nat → Nat → Int32) (r : Int32), (∀ k, k ≠ 4 → k ≠ 6 → A1 k = A k) → r = tgv u W len a b c → Q (some (.int r)) n (mo q D A1 S h0)) : Ct l M_Mo_textGives (d + 2) 0 0 [.ref q, .int (nI u), .int a, .int b, .int c] n (mo q D A S h0) Q := by
  refine Ct.of (fun _ => trivial) (by decide) (Nat.le_of_ble_eq_true rfl) ?_
  obtain ⟨elen, hC, hW0, h50⟩ := hCd
  have hz : ∀ u : Nat, (u = 0 ∨ u = 1) → (nI u = 0 ↔ u = 0) := by intro u hu; rcases hu with rfl | rfl <;> decide +kernel
  have hu2 := hu
  refine V.iload_n d_Mo_textGives_0 rfl ?_
  refine V.if_ne (tgt := 9) d_Mo_textGives_1 (by decide) (fun c_1 => ?_) (fun c_1 => ?_)
  · skip
    refine V.iload_n d_Mo_textGives_9 rfl ?_
    refine V.istore d_Mo_textGives_10 (by decide) ?_
    refine V.aload_n d_Mo_textGives_12 rfl ?_
    refine V.get d_Mo_textGives_13 f_Mo_7_Mo mo_o rfl ?_
    refine V.bipush_ (nI 106) d_Mo_textGives_16 (by decide +kernel) ?_
    refine V.iload_n d_Mo_textGives_18 rfl ?_
    refine V.addN d_Mo_textGives_19 ?_
    refine V.mldd d_Mo_textGives_20 (by omega) ?_
    refine V.top elen ?_
    refine V.if_le (tgt := 69) d_Mo_textGives_21 (by decide) (fun c_21 => ?_) (fun c_21 => ?_)
    · have hlen0 : len = 0 := Classical.byContradiction fun z => nI_nle (Nat.pos_of_ne_zero z) (by omega) c_21
      refine V.iload_n d_Mo_textGives_69 rfl ?_
      refine V.if_ne (tgt := 85) d_Mo_textGives_70 (by decide) (fun c_70 => ?_) (fun c_70 => ?_)
      · skip
        refine V.iload d_Mo_textGives_85 rfl ?_
        refine V.iconst_ (nI 0) d_Mo_textGives_87 (by decide +kernel) ?_
        refine V.bipush_ (nI 99) d_Mo_textGives_88 (by decide +kernel) ?_
        refine V.callS3 d_Mo_textGives_90 k_Mo_151_Mo_heldS (Nat.le_of_ble_eq_true rfl) (by omega) (by omega) (c_Mo_held ?_)
        refine V.iret d_Mo_textGives_93 rfl (Nat.le_of_ble_eq_true rfl) (Nat.le_of_ble_eq_true rfl) ?_
        first
          | exact absurd c_1 c_70
          | exact absurd c_70 c_1
          | (refine hQ _ _ (fun k h1 h2 => by first | rfl | simp only [uA, h1, h2, if_false]) ?_
             unfold tgv
             first
             | (rw [if_pos ((hz u hu2).mp c_70), if_pos hlen0]; done)
             | (rw [if_neg (fun z => c_70 ((hz u hu2).mpr z)), if_pos hlen0]; done)
             | (rw [if_pos ((hz u hu2).mp c_70), if_neg hlen1]; rfl)
             | (rw [if_neg (fun z => c_70 ((hz u hu2).mpr z)), if_neg hlen1]; rfl))
      · skip
        refine V.iload d_Mo_textGives_73 rfl ?_
        refine V.bipush_ (-9) d_Mo_textGives_75 (by decide +kernel) ?_
        refine V.bipush_ (nI 9) d_Mo_textGives_77 (by decide +kernel) ?_
        refine V.callS3 d_Mo_textGives_79 k_Mo_151_Mo_heldS (Nat.le_of_ble_eq_true rfl) (by omega) (by omega) (c_Mo_held ?_)
        refine V.goto (tgt := 93) d_Mo_textGives_82 (by decide) ?_
        refine V.iret d_Mo_textGives_93 rfl (Nat.le_of_ble_eq_true rfl) (Nat.le_of_ble_eq_true rfl) ?_
        first
          | exact absurd c_1 c_70
          | exact absurd c_70 c_1
          | (refine hQ _ _ (fun k h1 h2 => by first | rfl | simp only [uA, h1, h2, if_false]) ?_
             unfold tgv
             first
             | (rw [if_pos ((hz u hu2).mp c_70), if_pos hlen0]; done)
             | (rw [if_neg (fun z => c_70 ((hz u hu2).mpr z)), if_pos hlen0]; done)
             | (rw [if_pos ((hz u hu2).mp c_70), if_neg hlen1]; rfl)
             | (rw [if_neg (fun z => c_70 ((hz u hu2).mpr z)), if_neg hlen1]; rfl))
    · skip
      have hlen1 : ¬ len = 0 := fun z => c_21 (by rw [z]; decide +kernel)
      have hW : Wf W len := hW0.resolve_left hlen1
      refine V.aload_n d_Mo_textGives_24 rfl ?_
      refine V.get d_Mo_textGives_25 f_Mo_22_Mo mo_o rfl ?_
      refine V.iconst_ (nI 0) d_Mo_textGives_28 (by decide +kernel) ?_
      refine V.iload_n d_Mo_textGives_29 rfl ?_
      refine V.msta 4 (by decide) (by decide) d_Mo_textGives_30 (by first | omega | (show _ < 3; omega)) ?_
      refine V.aload_n d_Mo_textGives_31 rfl ?_
      refine V.get d_Mo_textGives_32 f_Mo_22_Mo mo_o rfl ?_
      refine V.iconst_ (nI 1) d_Mo_textGives_35 (by decide +kernel) ?_
      refine V.iload_n d_Mo_textGives_36 rfl ?_
      refine V.msta 4 (by decide) (by decide) d_Mo_textGives_37 (by first | omega | (show _ < 3; omega)) ?_
      refine V.aload_n d_Mo_textGives_38 rfl ?_
      refine V.get d_Mo_textGives_39 f_Mo_22_Mo mo_o rfl ?_
      refine V.iconst_ (nI 2) d_Mo_textGives_42 (by decide +kernel) ?_
      refine V.iload d_Mo_textGives_43 rfl ?_
      refine V.msta 4 (by decide) (by decide) d_Mo_textGives_45 (by first | omega | (show _ < 3; omega)) ?_
      refine V.aload_n d_Mo_textGives_46 rfl ?_
      refine V.sipush_ (nI 128) d_Mo_textGives_47 (by decide +kernel) ?_
      refine V.bipush_ (nI 50) d_Mo_textGives_50 (by decide +kernel) ?_
      refine V.iload_n d_Mo_textGives_52 rfl ?_
      refine V.mulN d_Mo_textGives_53 ?_
      refine V.addN d_Mo_textGives_54 ?_
      refine V.aload_n d_Mo_textGives_55 rfl ?_
      refine V.get d_Mo_textGives_56 f_Mo_7_Mo mo_o rfl ?_
      refine V.bipush_ (nI 106) d_Mo_textGives_59 (by decide +kernel) ?_
      refine V.iload_n d_Mo_textGives_61 rfl ?_
      refine V.addN d_Mo_textGives_62 ?_
      refine V.mldd d_Mo_textGives_63 (by omega) ?_
      refine V.top elen ?_
      simp only [uA_uu, uA_s]
      refine V.callV2 d_Mo_textGives_64 k_Mo_147_Mo_worked_MoV mo_o (Nat.le_of_ble_eq_true rfl) (by omega) (by omega) (c_Mo_worked (by omega) hC hW ?_)
      refine V.istore d_Mo_textGives_67 (by decide) ?_
      refine V.iload_n d_Mo_textGives_69 rfl ?_
      refine V.if_ne (tgt := 85) d_Mo_textGives_70 (by decide) (fun c_70 => ?_) (fun c_70 => ?_)
      · skip
        refine V.iload d_Mo_textGives_85 rfl ?_
        refine V.iconst_ (nI 0) d_Mo_textGives_87 (by decide +kernel) ?_
        refine V.bipush_ (nI 99) d_Mo_textGives_88 (by decide +kernel) ?_
        refine V.callS3 d_Mo_textGives_90 k_Mo_151_Mo_heldS (Nat.le_of_ble_eq_true rfl) (by omega) (by omega) (c_Mo_held ?_)
        refine V.iret d_Mo_textGives_93 rfl (Nat.le_of_ble_eq_true rfl) (Nat.le_of_ble_eq_true rfl) ?_
        first
          | exact absurd c_1 c_70
          | exact absurd c_70 c_1
          | (refine hQ _ _ (fun k h1 h2 => by first | rfl | simp only [uA, h1, h2, if_false]) ?_
             unfold tgv
             first
             | (rw [if_pos ((hz u hu2).mp c_70), if_pos hlen0]; done)
             | (rw [if_neg (fun z => c_70 ((hz u hu2).mpr z)), if_pos hlen0]; done)
             | (rw [if_pos ((hz u hu2).mp c_70), if_neg hlen1]; rfl)
             | (rw [if_neg (fun z => c_70 ((hz u hu2).mpr z)), if_neg hlen1]; rfl))
      · skip
        refine V.iload d_Mo_textGives_73 rfl ?_
        refine V.bipush_ (-9) d_Mo_textGives_75 (by decide +kernel) ?_
        refine V.bipush_ (nI 9) d_Mo_textGives_77 (by decide +kernel) ?_
        refine V.callS3 d_Mo_textGives_79 k_Mo_151_Mo_heldS (Nat.le_of_ble_eq_true rfl) (by omega) (by omega) (c_Mo_held ?_)
        refine V.goto (tgt := 93) d_Mo_textGives_82 (by decide) ?_
        refine V.iret d_Mo_textGives_93 rfl (Nat.le_of_ble_eq_true rfl) (Nat.le_of_ble_eq_true rfl) ?_
        first
          | exact absurd c_1 c_70
          | exact absurd c_70 c_1
          | (refine hQ _ _ (fun k h1 h2 => by first | rfl | simp only [uA, h1, h2, if_false]) ?_
             unfold tgv
             first
             | (rw [if_pos ((hz u hu2).mp c_70), if_pos hlen0]; done)
             | (rw [if_neg (fun z => c_70 ((hz u hu2).mpr z)), if_pos hlen0]; done)
             | (rw [if_pos ((hz u hu2).mp c_70), if_neg hlen1]; rfl)
             | (rw [if_neg (fun z => c_70 ((hz u hu2).mpr z)), if_neg hlen1]; rfl))
  · skip
    refine V.iload_n d_Mo_textGives_4 rfl ?_
    refine V.ineg d_Mo_textGives_5 ?_
    refine V.goto (tgt := 10) d_Mo_textGives_6 (by decide) ?_
    refine V.istore d_Mo_textGives_10 (by decide) ?_
    refine V.aload_n d_Mo_textGives_12 rfl ?_
    refine V.get d_Mo_textGives_13 f_Mo_7_Mo mo_o rfl ?_
    refine V.bipush_ (nI 106) d_Mo_textGives_16 (by decide +kernel) ?_
    refine V.iload_n d_Mo_textGives_18 rfl ?_
    refine V.addN d_Mo_textGives_19 ?_
    refine V.mldd d_Mo_textGives_20 (by omega) ?_
    refine V.top elen ?_
    refine V.if_le (tgt := 69) d_Mo_textGives_21 (by decide) (fun c_21 => ?_) (fun c_21 => ?_)
    · have hlen0 : len = 0 := Classical.byContradiction fun z => nI_nle (Nat.pos_of_ne_zero z) (by omega) c_21
      refine V.iload_n d_Mo_textGives_69 rfl ?_
      refine V.if_ne (tgt := 85) d_Mo_textGives_70 (by decide) (fun c_70 => ?_) (fun c_70 => ?_)
      · skip
        refine V.iload d_Mo_textGives_85 rfl ?_
        refine V.iconst_ (nI 0) d_Mo_textGives_87 (by decide +kernel) ?_
        refine V.bipush_ (nI 99) d_Mo_textGives_88 (by decide +kernel) ?_
        refine V.callS3 d_Mo_textGives_90 k_Mo_151_Mo_heldS (Nat.le_of_ble_eq_true rfl) (by omega) (by omega) (c_Mo_held ?_)
        refine V.iret d_Mo_textGives_93 rfl (Nat.le_of_ble_eq_true rfl) (Nat.le_of_ble_eq_true rfl) ?_
        first
          | exact absurd c_1 c_70
          | exact absurd c_70 c_1
          | (refine hQ _ _ (fun k h1 h2 => by first | rfl | simp only [uA, h1, h2, if_false]) ?_
             unfold tgv
             first
             | (rw [if_pos ((hz u hu2).mp c_70), if_pos hlen0]; done)
             | (rw [if_neg (fun z => c_70 ((hz u hu2).mpr z)), if_pos hlen0]; done)
             | (rw [if_pos ((hz u hu2).mp c_70), if_neg hlen1]; rfl)
             | (rw [if_neg (fun z => c_70 ((hz u hu2).mpr z)), if_neg hlen1]; rfl))
      · skip
        refine V.iload d_Mo_textGives_73 rfl ?_
        refine V.bipush_ (-9) d_Mo_textGives_75 (by decide +kernel) ?_
        refine V.bipush_ (nI 9) d_Mo_textGives_77 (by decide +kernel) ?_
        refine V.callS3 d_Mo_textGives_79 k_Mo_151_Mo_heldS (Nat.le_of_ble_eq_true rfl) (by omega) (by omega) (c_Mo_held ?_)
        refine V.goto (tgt := 93) d_Mo_textGives_82 (by decide) ?_
        refine V.iret d_Mo_textGives_93 rfl (Nat.le_of_ble_eq_true rfl) (Nat.le_of_ble_eq_true rfl) ?_
        first
          | exact absurd c_1 c_70
          | exact absurd c_70 c_1
          | (refine hQ _ _ (fun k h1 h2 => by first | rfl | simp only [uA, h1, h2, if_false]) ?_
             unfold tgv
             first
             | (rw [if_pos ((hz u hu2).mp c_70), if_pos hlen0]; done)
             | (rw [if_neg (fun z => c_70 ((hz u hu2).mpr z)), if_pos hlen0]; done)
             | (rw [if_pos ((hz u hu2).mp c_70), if_neg hlen1]; rfl)
             | (rw [if_neg (fun z => c_70 ((hz u hu2).mpr z)), if_neg hlen1]; rfl))
    · skip
      have hlen1 : ¬ len = 0 := fun z => c_21 (by rw [z]; decide +kernel)
      have hW : Wf W len := hW0.resolve_left hlen1
      refine V.aload_n d_Mo_textGives_24 rfl ?_
      refine V.get d_Mo_textGives_25 f_Mo_22_Mo mo_o rfl ?_
      refine V.iconst_ (nI 0) d_Mo_textGives_28 (by decide +kernel) ?_
      refine V.iload_n d_Mo_textGives_29 rfl ?_
      refine V.msta 4 (by decide) (by decide) d_Mo_textGives_30 (by first | omega | (show _ < 3; omega)) ?_
      refine V.aload_n d_Mo_textGives_31 rfl ?_
      refine V.get d_Mo_textGives_32 f_Mo_22_Mo mo_o rfl ?_
      refine V.iconst_ (nI 1) d_Mo_textGives_35 (by decide +kernel) ?_
      refine V.iload_n d_Mo_textGives_36 rfl ?_
      refine V.msta 4 (by decide) (by decide) d_Mo_textGives_37 (by first | omega | (show _ < 3; omega)) ?_
      refine V.aload_n d_Mo_textGives_38 rfl ?_
      refine V.get d_Mo_textGives_39 f_Mo_22_Mo mo_o rfl ?_
      refine V.iconst_ (nI 2) d_Mo_textGives_42 (by decide +kernel) ?_
      refine V.iload d_Mo_textGives_43 rfl ?_
      refine V.msta 4 (by decide) (by decide) d_Mo_textGives_45 (by first | omega | (show _ < 3; omega)) ?_
      refine V.aload_n d_Mo_textGives_46 rfl ?_
      refine V.sipush_ (nI 128) d_Mo_textGives_47 (by decide +kernel) ?_
      refine V.bipush_ (nI 50) d_Mo_textGives_50 (by decide +kernel) ?_
      refine V.iload_n d_Mo_textGives_52 rfl ?_
      refine V.mulN d_Mo_textGives_53 ?_
      refine V.addN d_Mo_textGives_54 ?_
      refine V.aload_n d_Mo_textGives_55 rfl ?_
      refine V.get d_Mo_textGives_56 f_Mo_7_Mo mo_o rfl ?_
      refine V.bipush_ (nI 106) d_Mo_textGives_59 (by decide +kernel) ?_
      refine V.iload_n d_Mo_textGives_61 rfl ?_
      refine V.addN d_Mo_textGives_62 ?_
      refine V.mldd d_Mo_textGives_63 (by omega) ?_
      refine V.top elen ?_
      simp only [uA_uu, uA_s]
      refine V.callV2 d_Mo_textGives_64 k_Mo_147_Mo_worked_MoV mo_o (Nat.le_of_ble_eq_true rfl) (by omega) (by omega) (c_Mo_worked (by omega) hC hW ?_)
      refine V.istore d_Mo_textGives_67 (by decide) ?_
      refine V.iload_n d_Mo_textGives_69 rfl ?_
      refine V.if_ne (tgt := 85) d_Mo_textGives_70 (by decide) (fun c_70 => ?_) (fun c_70 => ?_)
      · skip
        refine V.iload d_Mo_textGives_85 rfl ?_
        refine V.iconst_ (nI 0) d_Mo_textGives_87 (by decide +kernel) ?_
        refine V.bipush_ (nI 99) d_Mo_textGives_88 (by decide +kernel) ?_
        refine V.callS3 d_Mo_textGives_90 k_Mo_151_Mo_heldS (Nat.le_of_ble_eq_true rfl) (by omega) (by omega) (c_Mo_held ?_)
        refine V.iret d_Mo_textGives_93 rfl (Nat.le_of_ble_eq_true rfl) (Nat.le_of_ble_eq_true rfl) ?_
        first
          | exact absurd c_1 c_70
          | exact absurd c_70 c_1
          | (refine hQ _ _ (fun k h1 h2 => by first | rfl | simp only [uA, h1, h2, if_false]) ?_
             unfold tgv
             first
             | (rw [if_pos ((hz u hu2).mp c_70), if_pos hlen0]; done)
             | (rw [if_neg (fun z => c_70 ((hz u hu2).mpr z)), if_pos hlen0]; done)
             | (rw [if_pos ((hz u hu2).mp c_70), if_neg hlen1]; rfl)
             | (rw [if_neg (fun z => c_70 ((hz u hu2).mpr z)), if_neg hlen1]; rfl))
      · skip
        refine V.iload d_Mo_textGives_73 rfl ?_
        refine V.bipush_ (-9) d_Mo_textGives_75 (by decide +kernel) ?_
        refine V.bipush_ (nI 9) d_Mo_textGives_77 (by decide +kernel) ?_
        refine V.callS3 d_Mo_textGives_79 k_Mo_151_Mo_heldS (Nat.le_of_ble_eq_true rfl) (by omega) (by omega) (c_Mo_held ?_)
        refine V.goto (tgt := 93) d_Mo_textGives_82 (by decide) ?_
        refine V.iret d_Mo_textGives_93 rfl (Nat.le_of_ble_eq_true rfl) (Nat.le_of_ble_eq_true rfl) ?_
        first
          | exact absurd c_1 c_70
          | exact absurd c_70 c_1
          | (refine hQ _ _ (fun k h1 h2 => by first | rfl | simp only [uA, h1, h2, if_false]) ?_
             unfold tgv
             first
             | (rw [if_pos ((hz u hu2).mp c_70), if_pos hlen0]; done)
             | (rw [if_neg (fun z => c_70 ((hz u hu2).mpr z)), if_pos hlen0]; done)
             | (rw [if_pos ((hz u hu2).mp c_70), if_neg hlen1]; rfl)
             | (rw [if_neg (fun z => c_70 ((hz u hu2).mpr z)), if_neg hlen1]; rfl))
abbrev M_Mo_goesDown : MD := (⟨"FelledByNamesModel", "goesDown", "(I)V"⟩, prog_14_method_38_code, 3, none, fun _ => True)
theorem d_Mo_goesDown_0 : decode prog_14_method_38_code 0 = .ok (.aload_n 0, 1) := by decide +kernel
theorem d_Mo_goesDown_1 : decode prog_14_method_38_code 1 = .ok (.getfield 7, 3) := by decide +kernel
theorem d_Mo_goesDown_4 : decode prog_14_method_38_code 4 = .ok (.iconst 2, 1) := by decide +kernel
theorem d_Mo_goesDown_5 : decode prog_14_method_38_code 5 = .ok (.iaload, 1) := by decide +kernel
theorem d_Mo_goesDown_6 : decode prog_14_method_38_code 6 = .ok (.aload_n 0, 1) := by decide +kernel
theorem d_Mo_goesDown_7 : decode prog_14_method_38_code 7 = .ok (.iload_n 1, 1) := by decide +kernel
theorem d_Mo_goesDown_8 : decode prog_14_method_38_code 8 = .ok (.iconst 4, 1) := by decide +kernel
theorem d_Mo_goesDown_9 : decode prog_14_method_38_code 9 = .ok (.invokevirtual 158, 3) := by decide +kernel
theorem d_Mo_goesDown_12 : decode prog_14_method_38_code 12 = .ok (.isub, 1) := by decide +kernel
theorem d_Mo_goesDown_13 : decode prog_14_method_38_code 13 = .ok (.istore_n 2, 1) := by decide +kernel
theorem d_Mo_goesDown_14 : decode prog_14_method_38_code 14 = .ok (.aload_n 0, 1) := by decide +kernel
theorem d_Mo_goesDown_15 : decode prog_14_method_38_code 15 = .ok (.getfield 7, 3) := by decide +kernel
theorem d_Mo_goesDown_18 : decode prog_14_method_38_code 18 = .ok (.iconst 4, 1) := by decide +kernel
theorem d_Mo_goesDown_19 : decode prog_14_method_38_code 19 = .ok (.aload_n 0, 1) := by decide +kernel
theorem d_Mo_goesDown_20 : decode prog_14_method_38_code 20 = .ok (.getfield 7, 3) := by decide +kernel
theorem d_Mo_goesDown_23 : decode prog_14_method_38_code 23 = .ok (.iconst 4, 1) := by decide +kernel
theorem d_Mo_goesDown_24 : decode prog_14_method_38_code 24 = .ok (.iaload, 1) := by decide +kernel
theorem d_Mo_goesDown_25 : decode prog_14_method_38_code 25 = .ok (.aload_n 0, 1) := by decide +kernel
theorem d_Mo_goesDown_26 : decode prog_14_method_38_code 26 = .ok (.iconst 1, 1) := by decide +kernel
theorem d_Mo_goesDown_27 : decode prog_14_method_38_code 27 = .ok (.aload_n 0, 1) := by decide +kernel
theorem d_Mo_goesDown_28 : decode prog_14_method_38_code 28 = .ok (.iload_n 1, 1) := by decide +kernel
theorem d_Mo_goesDown_29 : decode prog_14_method_38_code 29 = .ok (.iconst 5, 1) := by decide +kernel
theorem d_Mo_goesDown_30 : decode prog_14_method_38_code 30 = .ok (.invokevirtual 158, 3) := by decide +kernel
theorem d_Mo_goesDown_33 : decode prog_14_method_38_code 33 = .ok (.aload_n 0, 1) := by decide +kernel
theorem d_Mo_goesDown_34 : decode prog_14_method_38_code 34 = .ok (.iload_n 1, 1) := by decide +kernel
theorem d_Mo_goesDown_35 : decode prog_14_method_38_code 35 = .ok (.iconst 1, 1) := by decide +kernel
theorem d_Mo_goesDown_36 : decode prog_14_method_38_code 36 = .ok (.invokevirtual 158, 3) := by decide +kernel
theorem d_Mo_goesDown_39 : decode prog_14_method_38_code 39 = .ok (.aload_n 0, 1) := by decide +kernel
theorem d_Mo_goesDown_40 : decode prog_14_method_38_code 40 = .ok (.iload_n 1, 1) := by decide +kernel
theorem d_Mo_goesDown_41 : decode prog_14_method_38_code 41 = .ok (.iconst 4, 1) := by decide +kernel
theorem d_Mo_goesDown_42 : decode prog_14_method_38_code 42 = .ok (.invokevirtual 158, 3) := by decide +kernel
theorem d_Mo_goesDown_45 : decode prog_14_method_38_code 45 = .ok (.invokevirtual 154, 3) := by decide +kernel
theorem kB_Mo_textGives : kB M_Mo_textGives 4 := ⟨tm 15 (by decide +kernel) rfl, tm 1217 (by decide +kernel) rfl, ⟨by decide, by decide, by decide +kernel⟩, by decide⟩
theorem k_Mo_154_Mo_textGives_MoV : kV "FelledByNamesModel" 154 5 M_Mo_textGives 4 := ⟨kB_Mo_textGives, tm 1214 (by decide +kernel) rfl, tm 1216 (by decide +kernel) rfl, tp 27 (by decide +kernel) rfl, _, rfl, rfl⟩
theorem d_Mo_goesDown_48 : decode prog_14_method_38_code 48 = .ok (.iadd, 1) := by decide +kernel
theorem d_Mo_goesDown_49 : decode prog_14_method_38_code 49 = .ok (.iconst 0, 1) := by decide +kernel
theorem d_Mo_goesDown_50 : decode prog_14_method_38_code 50 = .ok (.ldc 161, 2) := by decide +kernel
theorem d_Mo_goesDown_52 : decode prog_14_method_38_code 52 = .ok (.invokestatic 151, 3) := by decide +kernel
theorem d_Mo_goesDown_55 : decode prog_14_method_38_code 55 = .ok (.iastore, 1) := by decide +kernel
theorem d_Mo_goesDown_56 : decode prog_14_method_38_code 56 = .ok (.aload_n 0, 1) := by decide +kernel
theorem d_Mo_goesDown_57 : decode prog_14_method_38_code 57 = .ok (.getfield 7, 3) := by decide +kernel
theorem d_Mo_goesDown_60 : decode prog_14_method_38_code 60 = .ok (.iconst 3, 1) := by decide +kernel
theorem d_Mo_goesDown_61 : decode prog_14_method_38_code 61 = .ok (.aload_n 0, 1) := by decide +kernel
theorem d_Mo_goesDown_62 : decode prog_14_method_38_code 62 = .ok (.getfield 7, 3) := by decide +kernel
theorem d_Mo_goesDown_65 : decode prog_14_method_38_code 65 = .ok (.iconst 3, 1) := by decide +kernel
theorem d_Mo_goesDown_66 : decode prog_14_method_38_code 66 = .ok (.iaload, 1) := by decide +kernel
theorem d_Mo_goesDown_67 : decode prog_14_method_38_code 67 = .ok (.iload_n 2, 1) := by decide +kernel
theorem d_Mo_goesDown_68 : decode prog_14_method_38_code 68 = .ok (.i2l, 1) := by decide +kernel
theorem d_Mo_goesDown_69 : decode prog_14_method_38_code 69 = .ok (.lconst 1, 1) := by decide +kernel
theorem d_Mo_goesDown_70 : decode prog_14_method_38_code 70 = .ok (.aload_n 0, 1) := by decide +kernel
theorem d_Mo_goesDown_71 : decode prog_14_method_38_code 71 = .ok (.iload_n 1, 1) := by decide +kernel
theorem d_Mo_goesDown_72 : decode prog_14_method_38_code 72 = .ok (.invokevirtual 162, 3) := by decide +kernel
theorem kB_Mo_reaches : kB M_Mo_reaches 1 := ⟨tm 15 (by decide +kernel) rfl, tm 1294 (by decide +kernel) rfl, ⟨by decide, by decide, by decide +kernel⟩, by decide⟩
theorem k_Mo_162_Mo_reaches_MoV : kV "FelledByNamesModel" 162 5 M_Mo_reaches 1 := ⟨kB_Mo_reaches, tm 1291 (by decide +kernel) rfl, tm 1293 (by decide +kernel) rfl, tp 34 (by decide +kernel) rfl, _, rfl, rfl⟩
theorem d_Mo_goesDown_75 : decode prog_14_method_38_code 75 = .ok (.i2l, 1) := by decide +kernel
theorem d_Mo_goesDown_76 : decode prog_14_method_38_code 76 = .ok (.invokestatic 56, 3) := by decide +kernel
theorem d_Mo_goesDown_79 : decode prog_14_method_38_code 79 = .ok (.ifCond .eq 7, 3) := by decide +kernel
theorem d_Mo_goesDown_86 : decode prog_14_method_38_code 86 = .ok (.iconst 0, 1) := by decide +kernel
theorem d_Mo_goesDown_87 : decode prog_14_method_38_code 87 = .ok (.iadd, 1) := by decide +kernel
theorem d_Mo_goesDown_88 : decode prog_14_method_38_code 88 = .ok (.iconst 0, 1) := by decide +kernel
theorem d_Mo_goesDown_89 : decode prog_14_method_38_code 89 = .ok (.sipush 999, 3) := by decide +kernel
theorem d_Mo_goesDown_92 : decode prog_14_method_38_code 92 = .ok (.invokestatic 151, 3) := by decide +kernel
theorem d_Mo_goesDown_95 : decode prog_14_method_38_code 95 = .ok (.iastore, 1) := by decide +kernel
theorem d_Mo_goesDown_96 : decode prog_14_method_38_code 96 = .ok (.aload_n 0, 1) := by decide +kernel
theorem d_Mo_goesDown_97 : decode prog_14_method_38_code 97 = .ok (.iload_n 1, 1) := by decide +kernel
theorem d_Mo_goesDown_98 : decode prog_14_method_38_code 98 = .ok (.bipush 6, 2) := by decide +kernel
theorem d_Mo_goesDown_100 : decode prog_14_method_38_code 100 = .ok (.iconst 0, 1) := by decide +kernel
theorem d_Mo_goesDown_101 : decode prog_14_method_38_code 101 = .ok (.invokevirtual 165, 3) := by decide +kernel
theorem kB_Mo_sets : kB M_Mo_sets 3 := ⟨tm 15 (by decide +kernel) rfl, tm 1273 (by decide +kernel) rfl, ⟨by decide, by decide, by decide +kernel⟩, by decide⟩
theorem k_Mo_165_Mo_sets_MoV : kV "FelledByNamesModel" 165 5 M_Mo_sets 3 := ⟨kB_Mo_sets, tm 1270 (by decide +kernel) rfl, tm 1272 (by decide +kernel) rfl, tp 30 (by decide +kernel) rfl, _, rfl, rfl⟩
theorem d_Mo_goesDown_104 : decode prog_14_method_38_code 104 = .ok (.aload_n 0, 1) := by decide +kernel
theorem d_Mo_goesDown_105 : decode prog_14_method_38_code 105 = .ok (.getfield 168, 3) := by decide +kernel
theorem f_Mo_168_Mo : fok "FelledByNamesModel" 168 5 18 := ⟨R_Mo, F_Mo, 26, "FelledByNamesModel", rfl, i_Mo, by decide, tm 1077 (by decide +kernel) rfl, Or.inl rfl, t_Mo, t_Mo_ok, n_Mo⟩
theorem d_Mo_goesDown_108 : decode prog_14_method_38_code 108 = .ok (.bipush 8, 2) := by decide +kernel
theorem d_Mo_goesDown_110 : decode prog_14_method_38_code 110 = .ok (.if_icmp .ge 13, 3) := by decide +kernel
theorem d_Mo_goesDown_123 : decode prog_14_method_38_code 123 = .ok (.aload_n 0, 1) := by decide +kernel
theorem d_Mo_goesDown_124 : decode prog_14_method_38_code 124 = .ok (.dup, 1) := by decide +kernel
theorem d_Mo_goesDown_125 : decode prog_14_method_38_code 125 = .ok (.getfield 168, 3) := by decide +kernel
theorem d_Mo_goesDown_128 : decode prog_14_method_38_code 128 = .ok (.iconst 1, 1) := by decide +kernel
theorem d_Mo_goesDown_129 : decode prog_14_method_38_code 129 = .ok (.iadd, 1) := by decide +kernel
theorem d_Mo_goesDown_130 : decode prog_14_method_38_code 130 = .ok (.putfield 168, 3) := by decide +kernel
theorem fp_Mo_18 : fpk 5 18 (.int) := ⟨_, _, _, rfl, rfl, by decide +kernel⟩
theorem d_Mo_goesDown_133 : decode prog_14_method_38_code 133 = .ok (.return_, 1) := by decide +kernel
theorem d_Mo_goesDown_113 : decode prog_14_method_38_code 113 = .ok (.aload_n 0, 1) := by decide +kernel
theorem d_Mo_goesDown_114 : decode prog_14_method_38_code 114 = .ok (.getfield 37, 3) := by decide +kernel
theorem f_Mo_37_Mo : fok "FelledByNamesModel" 37 5 17 := ⟨R_Mo, F_Mo, 26, "FelledByNamesModel", rfl, i_Mo, by decide, tm 1076 (by decide +kernel) rfl, Or.inl rfl, t_Mo, t_Mo_ok, n_Mo⟩
theorem d_Mo_goesDown_117 : decode prog_14_method_38_code 117 = .ok (.aload_n 0, 1) := by decide +kernel
theorem d_Mo_goesDown_118 : decode prog_14_method_38_code 118 = .ok (.getfield 168, 3) := by decide +kernel
theorem d_Mo_goesDown_121 : decode prog_14_method_38_code 121 = .ok (.iload_n 1, 1) := by decide +kernel
theorem d_Mo_goesDown_122 : decode prog_14_method_38_code 122 = .ok (.iastore, 1) := by decide +kernel
theorem d_Mo_goesDown_82 : decode prog_14_method_38_code 82 = .ok (.iconst 1, 1) := by decide +kernel
theorem d_Mo_goesDown_83 : decode prog_14_method_38_code 83 = .ok (.goto 4, 3) := by decide +kernel
set_option maxRecDepth 100000 in
theorem c_Mo_goesDown {i fm len : Nat} {W : Nat → Nat} {l : Launch} {d q n : Nat} {D : Nat → Int32} {A : Nat → Nat → Int32} {S : Nat → Int32} {h0 : HP} {Q : QT} (hi : i < 8) (hC1 : Cd D 1 W len) (hf : fm < 2 ^ 30) (ef : S 18 = nI fm) (hQ : ∀ (A1 : Nat → Nat → Int32), (∀ k, k ≠ 4 → k ≠ 6 → k ≠ 9 → A1 k = A k) → A1 9 = wrf (A 9) fm i → Q none n (mo q (gdn (tgv 1 W len) D i) A1 (uS S 18 (nI (fm + 1))) h0)) : Ct l M_Mo_goesDown (d + 3) 0 0 [.ref q, .int (nI i)] n (mo q D A S h0) Q := by
  refine Ct.of (fun _ => trivial) (by decide) (Nat.le_of_ble_eq_true rfl) ?_
  have hQ' : ∀ (D' : Nat → Int32) (A1 : Nat → Nat → Int32), D' = gdn (tgv 1 W len) D i → (∀ k, k ≠ 4 → k ≠ 6 → k ≠ 9 → A1 k = A k) → A1 9 = wrf (A 9) fm i → Q none n (mo q D' A1 (uS S 18 (nI (fm + 1))) h0) := fun D' A1 e h1 h2 => e ▸ hQ A1 h1 h2
  refine V.aload_n d_Mo_goesDown_0 rfl ?_
  refine V.get d_Mo_goesDown_1 f_Mo_7_Mo mo_o rfl ?_
  refine V.iconst_ (nI 2) d_Mo_goesDown_4 (by decide +kernel) ?_
  refine V.mldd d_Mo_goesDown_5 (by omega) ?_
  refine V.aload_n d_Mo_goesDown_6 rfl ?_
  refine V.iload_n d_Mo_goesDown_7 rfl ?_
  refine V.iconst_ (nI 4) d_Mo_goesDown_8 (by decide +kernel) ?_
  refine V.callV2 d_Mo_goesDown_9 k_Mo_158_Mo_of_MoV mo_o (Nat.le_of_ble_eq_true rfl) (by omega) (by omega) (c_Mo_of (by omega) ?_)
  refine V.isub d_Mo_goesDown_12 ?_
  refine V.istore_n d_Mo_goesDown_13 (by decide) ?_
  refine V.aload_n d_Mo_goesDown_14 rfl ?_
  refine V.get d_Mo_goesDown_15 f_Mo_7_Mo mo_o rfl ?_
  refine V.iconst_ (nI 4) d_Mo_goesDown_18 (by decide +kernel) ?_
  refine V.aload_n d_Mo_goesDown_19 rfl ?_
  refine V.get d_Mo_goesDown_20 f_Mo_7_Mo mo_o rfl ?_
  refine V.iconst_ (nI 4) d_Mo_goesDown_23 (by decide +kernel) ?_
  refine V.mldd d_Mo_goesDown_24 (by omega) ?_
  refine V.aload_n d_Mo_goesDown_25 rfl ?_
  refine V.iconst_ (nI 1) d_Mo_goesDown_26 (by decide +kernel) ?_
  refine V.aload_n d_Mo_goesDown_27 rfl ?_
  refine V.iload_n d_Mo_goesDown_28 rfl ?_
  refine V.iconst_ (nI 5) d_Mo_goesDown_29 (by decide +kernel) ?_
  refine V.callV2 d_Mo_goesDown_30 k_Mo_158_Mo_of_MoV mo_o (Nat.le_of_ble_eq_true rfl) (by omega) (by omega) (c_Mo_of (by omega) ?_)
  refine V.aload_n d_Mo_goesDown_33 rfl ?_
  refine V.iload_n d_Mo_goesDown_34 rfl ?_
  refine V.iconst_ (nI 1) d_Mo_goesDown_35 (by decide +kernel) ?_
  refine V.callV2 d_Mo_goesDown_36 k_Mo_158_Mo_of_MoV mo_o (Nat.le_of_ble_eq_true rfl) (by omega) (by omega) (c_Mo_of (by omega) ?_)
  refine V.aload_n d_Mo_goesDown_39 rfl ?_
  refine V.iload_n d_Mo_goesDown_40 rfl ?_
  refine V.iconst_ (nI 4) d_Mo_goesDown_41 (by decide +kernel) ?_
  refine V.callV2 d_Mo_goesDown_42 k_Mo_158_Mo_of_MoV mo_o (Nat.le_of_ble_eq_true rfl) (by omega) (by omega) (c_Mo_of (by omega) ?_)
  refine V.callV4 d_Mo_goesDown_45 k_Mo_154_Mo_textGives_MoV mo_o (Nat.le_of_ble_eq_true rfl) (by omega) (by omega) (c_Mo_textGives (Or.inr rfl) hC1 (fun A1 r1 hA1 er1 => ?_))
  refine V.iadd d_Mo_goesDown_48 ?_
  refine V.iconst_ (nI 0) d_Mo_goesDown_49 (by decide +kernel) ?_
  refine V.ldc (v := 99999) d_Mo_goesDown_50 (tm 1336 (by decide +kernel) rfl) ?_
  refine V.top (y := nI 99999) rfl ?_
  refine V.callS3 d_Mo_goesDown_52 k_Mo_151_Mo_heldS (Nat.le_of_ble_eq_true rfl) (by omega) (by omega) (c_Mo_held ?_)
  refine V.mstd d_Mo_goesDown_55 (by omega) ?_
  refine V.aload_n d_Mo_goesDown_56 rfl ?_
  refine V.get d_Mo_goesDown_57 f_Mo_7_Mo mo_o rfl ?_
  refine V.iconst_ (nI 3) d_Mo_goesDown_60 (by decide +kernel) ?_
  refine V.aload_n d_Mo_goesDown_61 rfl ?_
  refine V.get d_Mo_goesDown_62 f_Mo_7_Mo mo_o rfl ?_
  refine V.iconst_ (nI 3) d_Mo_goesDown_65 (by decide +kernel) ?_
  refine V.mldd d_Mo_goesDown_66 (by omega) ?_
  refine V.iload_n d_Mo_goesDown_67 rfl ?_
  refine V.i2l d_Mo_goesDown_68 ?_
  refine V.lconst_ ((nI 1).toInt64) d_Mo_goesDown_69 (by decide +kernel) ?_
  refine V.aload_n d_Mo_goesDown_70 rfl ?_
  refine V.iload_n d_Mo_goesDown_71 rfl ?_
  refine V.callV1 d_Mo_goesDown_72 k_Mo_162_Mo_reaches_MoV mo_o (Nat.le_of_ble_eq_true rfl) (by omega) (by omega) (c_Mo_reaches (by omega) ?_)
  refine V.i2l d_Mo_goesDown_75 ?_
  refine V.callS3 d_Mo_goesDown_76 k_Mo_56_Mo_inS (Nat.le_of_ble_eq_true rfl) (by omega) (by omega) (c_Mo_in ?_)
  refine V.ifeqB (tgt := 86) d_Mo_goesDown_79 (by decide) (fun c_79 => ?_) (fun c_79 => ?_)
  · skip
    refine V.iconst_ (nI 0) d_Mo_goesDown_86 (by decide +kernel) ?_
    refine V.iadd d_Mo_goesDown_87 ?_
    refine V.iconst_ (nI 0) d_Mo_goesDown_88 (by decide +kernel) ?_
    refine V.sipush_ (nI 999) d_Mo_goesDown_89 (by decide +kernel) ?_
    refine V.callS3 d_Mo_goesDown_92 k_Mo_151_Mo_heldS (Nat.le_of_ble_eq_true rfl) (by omega) (by omega) (c_Mo_held ?_)
    refine V.mstd d_Mo_goesDown_95 (by omega) ?_
    refine V.aload_n d_Mo_goesDown_96 rfl ?_
    refine V.iload_n d_Mo_goesDown_97 rfl ?_
    refine V.bipush_ (nI 6) d_Mo_goesDown_98 (by decide +kernel) ?_
    refine V.iconst_ (nI 0) d_Mo_goesDown_100 (by decide +kernel) ?_
    refine V.callV3 d_Mo_goesDown_101 k_Mo_165_Mo_sets_MoV mo_o (Nat.le_of_ble_eq_true rfl) (by omega) (by omega) (c_Mo_sets (by omega) ?_)
    refine V.aload_n d_Mo_goesDown_104 rfl ?_
    refine V.get d_Mo_goesDown_105 f_Mo_168_Mo mo_o rfl ?_
    refine V.top ef ?_
    refine V.bipush_ (nI 8) d_Mo_goesDown_108 (by decide +kernel) ?_
    refine V.geN (tgt := 123) d_Mo_goesDown_110 (by decide) (by omega) (by omega) (fun c_110 => ?_) (fun c_110 => ?_)
    · skip
      refine V.aload_n d_Mo_goesDown_123 rfl ?_
      refine V.dup rfl d_Mo_goesDown_124 ?_
      refine V.get d_Mo_goesDown_125 f_Mo_168_Mo mo_o rfl ?_
      refine V.top ef ?_
      refine V.iconst_ (nI 1) d_Mo_goesDown_128 (by decide +kernel) ?_
      refine V.addN d_Mo_goesDown_129 ?_
      refine V.mput d_Mo_goesDown_130 f_Mo_168_Mo fp_Mo_18 rfl (by decide) ?_
      refine V.vret d_Mo_goesDown_133 rfl (Nat.le_of_ble_eq_true rfl) (Nat.le_of_ble_eq_true rfl) ?_
      subst er1
      refine hQ' _ _ ?_ ?_ ?_
      · rw [rch_u (by omega)] at c_79
        unfold gdn
        first | (rw [if_pos c_79]; rfl) | (rw [if_neg (by rw [c_79]; decide)]; rfl)
      · intro k h1 h2 h3
        first | exact hA1 k h1 h2 | (rw [uA_n h3]; exact hA1 k h1 h2)
      · unfold wrf
        first | (rw [if_pos c_110, uA_s, hA1 9 (by decide) (by decide)]; done) | (rw [if_neg (by omega)]; exact hA1 9 (by decide) (by decide))
    · skip
      refine V.aload_n d_Mo_goesDown_113 rfl ?_
      refine V.get d_Mo_goesDown_114 f_Mo_37_Mo mo_o rfl ?_
      refine V.aload_n d_Mo_goesDown_117 rfl ?_
      refine V.get d_Mo_goesDown_118 f_Mo_168_Mo mo_o rfl ?_
      refine V.top ef ?_
      refine V.iload_n d_Mo_goesDown_121 rfl ?_
      refine V.msta 9 (by decide) (by decide) d_Mo_goesDown_122 (by first | omega | (show _ < 8; omega)) ?_
      refine V.aload_n d_Mo_goesDown_123 rfl ?_
      refine V.dup rfl d_Mo_goesDown_124 ?_
      refine V.get d_Mo_goesDown_125 f_Mo_168_Mo mo_o rfl ?_
      refine V.top ef ?_
      refine V.iconst_ (nI 1) d_Mo_goesDown_128 (by decide +kernel) ?_
      refine V.addN d_Mo_goesDown_129 ?_
      refine V.mput d_Mo_goesDown_130 f_Mo_168_Mo fp_Mo_18 rfl (by decide) ?_
      refine V.vret d_Mo_goesDown_133 rfl (Nat.le_of_ble_eq_true rfl) (Nat.le_of_ble_eq_true rfl) ?_
      subst er1
      refine hQ' _ _ ?_ ?_ ?_
      · rw [rch_u (by omega)] at c_79
        unfold gdn
        first | (rw [if_pos c_79]; rfl) | (rw [if_neg (by rw [c_79]; decide)]; rfl)
      · intro k h1 h2 h3
        first | exact hA1 k h1 h2 | (rw [uA_n h3]; exact hA1 k h1 h2)
      · unfold wrf
        first | (rw [if_pos c_110, uA_s, hA1 9 (by decide) (by decide)]; done) | (rw [if_neg (by omega)]; exact hA1 9 (by decide) (by decide))
  · skip
    refine V.iconst_ (nI 1) d_Mo_goesDown_82 (by decide +kernel) ?_
    refine V.goto (tgt := 87) d_Mo_goesDown_83 (by decide) ?_
    refine V.iadd d_Mo_goesDown_87 ?_
    refine V.iconst_ (nI 0) d_Mo_goesDown_88 (by decide +kernel) ?_
    refine V.sipush_ (nI 999) d_Mo_goesDown_89 (by decide +kernel) ?_
    refine V.callS3 d_Mo_goesDown_92 k_Mo_151_Mo_heldS (Nat.le_of_ble_eq_true rfl) (by omega) (by omega) (c_Mo_held ?_)
    refine V.mstd d_Mo_goesDown_95 (by omega) ?_
    refine V.aload_n d_Mo_goesDown_96 rfl ?_
    refine V.iload_n d_Mo_goesDown_97 rfl ?_
    refine V.bipush_ (nI 6) d_Mo_goesDown_98 (by decide +kernel) ?_
    refine V.iconst_ (nI 0) d_Mo_goesDown_100 (by decide +kernel) ?_
    refine V.callV3 d_Mo_goesDown_101 k_Mo_165_Mo_sets_MoV mo_o (Nat.le_of_ble_eq_true rfl) (by omega) (by omega) (c_Mo_sets (by omega) ?_)
    refine V.aload_n d_Mo_goesDown_104 rfl ?_
    refine V.get d_Mo_goesDown_105 f_Mo_168_Mo mo_o rfl ?_
    refine V.top ef ?_
    refine V.bipush_ (nI 8) d_Mo_goesDown_108 (by decide +kernel) ?_
    refine V.geN (tgt := 123) d_Mo_goesDown_110 (by decide) (by omega) (by omega) (fun c_110 => ?_) (fun c_110 => ?_)
    · skip
      refine V.aload_n d_Mo_goesDown_123 rfl ?_
      refine V.dup rfl d_Mo_goesDown_124 ?_
      refine V.get d_Mo_goesDown_125 f_Mo_168_Mo mo_o rfl ?_
      refine V.top ef ?_
      refine V.iconst_ (nI 1) d_Mo_goesDown_128 (by decide +kernel) ?_
      refine V.addN d_Mo_goesDown_129 ?_
      refine V.mput d_Mo_goesDown_130 f_Mo_168_Mo fp_Mo_18 rfl (by decide) ?_
      refine V.vret d_Mo_goesDown_133 rfl (Nat.le_of_ble_eq_true rfl) (Nat.le_of_ble_eq_true rfl) ?_
      subst er1
      refine hQ' _ _ ?_ ?_ ?_
      · rw [rch_u (by omega)] at c_79
        unfold gdn
        first | (rw [if_pos c_79]; rfl) | (rw [if_neg (by rw [c_79]; decide)]; rfl)
      · intro k h1 h2 h3
        first | exact hA1 k h1 h2 | (rw [uA_n h3]; exact hA1 k h1 h2)
      · unfold wrf
        first | (rw [if_pos c_110, uA_s, hA1 9 (by decide) (by decide)]; done) | (rw [if_neg (by omega)]; exact hA1 9 (by decide) (by decide))
    · skip
      refine V.aload_n d_Mo_goesDown_113 rfl ?_
      refine V.get d_Mo_goesDown_114 f_Mo_37_Mo mo_o rfl ?_
      refine V.aload_n d_Mo_goesDown_117 rfl ?_
      refine V.get d_Mo_goesDown_118 f_Mo_168_Mo mo_o rfl ?_
      refine V.top ef ?_
      refine V.iload_n d_Mo_goesDown_121 rfl ?_
      refine V.msta 9 (by decide) (by decide) d_Mo_goesDown_122 (by first | omega | (show _ < 8; omega)) ?_
      refine V.aload_n d_Mo_goesDown_123 rfl ?_
      refine V.dup rfl d_Mo_goesDown_124 ?_
      refine V.get d_Mo_goesDown_125 f_Mo_168_Mo mo_o rfl ?_
      refine V.top ef ?_
      refine V.iconst_ (nI 1) d_Mo_goesDown_128 (by decide +kernel) ?_
      refine V.addN d_Mo_goesDown_129 ?_
      refine V.mput d_Mo_goesDown_130 f_Mo_168_Mo fp_Mo_18 rfl (by decide) ?_
      refine V.vret d_Mo_goesDown_133 rfl (Nat.le_of_ble_eq_true rfl) (Nat.le_of_ble_eq_true rfl) ?_
      subst er1
      refine hQ' _ _ ?_ ?_ ?_
      · rw [rch_u (by omega)] at c_79
        unfold gdn
        first | (rw [if_pos c_79]; rfl) | (rw [if_neg (by rw [c_79]; decide)]; rfl)
      · intro k h1 h2 h3
        first | exact hA1 k h1 h2 | (rw [uA_n h3]; exact hA1 k h1 h2)
      · unfold wrf
        first | (rw [if_pos c_110, uA_s, hA1 9 (by decide) (by decide)]; done) | (rw [if_neg (by omega)]; exact hA1 9 (by decide) (by decide))
end
section
abbrev XX : Type := (Nat → Int32) × List Nat
def cnd (D : Nat → Int32) (t k : Nat) : Bool := decide (D (50 + 7 * k + 6) = nI 1) && wi (D (50 + 7 * k + 4) - D (50 + 7 * t + 4)) (nI 1) (rch D t) && decide (D (50 + 7 * k + 5) < D (50 + 7 * t + 5))
def itf {α : Type} (g : Nat → α → α) : Nat → Nat → α → α
  | 0, _, x => x
  | m + 1, k, x => itf g m (k + 1) (g k x)
/-- a tree falls, and all that falls by it: the depth, the tree -/
def fl (wv : Int32 → Int32 → Int32 → Int32) (N : Nat) : Nat → Nat → XX → XX
  | 0, t, x => (gdn wv x.1 t, x.2 ++ [t])
  | f + 1, t, x => itf (fun k y => if cnd y.1 t k = true then fl wv N f k y else y) N 0 (gdn wv x.1 t, x.2 ++ [t])
def gst (wv : Int32 → Int32 → Int32 → Int32) (N f t : Nat) : Nat → XX → XX := fun k y => if cnd y.1 t k = true then fl wv N f k y else y
def ctn (wv : Int32 → Int32 → Int32 → Int32) (N : Nat) (P K : Nat → Nat) : Nat → XX → XX
  | 0, x => x
  | j + 1, x => ctn wv N P K j (itf (gst wv N (6 - j) (P j)) (N - K j) (K j) x)
def cst (D : Nat → Int32) : Nat → Nat
  | 0 => 0
  | N + 1 => cst D N + (if D (50 + 7 * N + 6) = nI 1 then 1 else 0)
def sk (N : Nat) (K : Nat → Nat) : Nat → Nat
  | 0 => 0
  | j + 1 => sk N K j + (N + 1 - K j)
theorem cst_0 {D : Nat → Int32} : ∀ {N : Nat}, cst D N = 0 → ∀ k, k < N → ¬ D (50 + 7 * k + 6) = nI 1 := by
  intro N
  induction N with
  | zero => intro _ k hk; omega
  | succ N ih =>
    intro h k hk e
    simp only [cst] at h
    by_cases hkN : k = N
    · subst hkN; rw [if_pos e] at h; omega
    · exact ih (by omega) k (by omega) e
theorem cst_le {D : Nat → Int32} : ∀ N : Nat, cst D N ≤ N := by
  intro N
  induction N with
  | zero => exact Nat.le_refl _
  | succ N ih => simp only [cst]; split <;> omega
theorem cst_pos {D : Nat → Int32} : ∀ {N k : Nat}, k < N → D (50 + 7 * k + 6) = nI 1 → 0 < cst D N := by
  intro N k hk e
  rcases Nat.eq_zero_or_pos (cst D N) with h | h
  · exact absurd e (cst_0 h k hk)
  · exact h
theorem gdn_st {wv : Int32 → Int32 → Int32 → Int32} {D : Nat → Int32} {i j : Nat} : gdn wv D i (50 + 7 * j + 6) = if j = i then nI 0 else D (50 + 7 * j + 6) := by
  unfold gdn
  by_cases h : j = i
  · subst h; rw [pk_us, if_pos rfl]
  · rw [pk_un (by omega), pk_un (by omega), pk_un (by omega), if_neg h]
theorem cst_gdn {wv : Int32 → Int32 → Int32 → Int32} {D : Nat → Int32} {k : Nat} (e : D (50 + 7 * k + 6) = nI 1) : ∀ N, cst (gdn wv D k) N + (if k < N then 1 else 0) = cst D N := by
  intro N
  induction N with
  | zero => rfl
  | succ N ih =>
    simp only [cst, gdn_st]
    by_cases h : N = k
    · subst h
      rw [if_neg (Nat.lt_irrefl N)] at ih
      rw [if_pos rfl, if_neg (show ¬ nI 0 = nI 1 by decide +kernel), if_pos (show N < N + 1 by omega), if_pos e]
      omega
    · rw [if_neg h]
      by_cases h2 : k < N
      · rw [if_pos h2] at ih; rw [if_pos (show k < N + 1 by omega)]; omega
      · rw [if_neg h2] at ih; rw [if_neg (show ¬ k < N + 1 by omega)]; omega
theorem ctn_congr {wv : Int32 → Int32 → Int32 → Int32} {N : Nat} {P K P' K' : Nat → Nat} : ∀ {c : Nat}, (∀ j, j < c → P j = P' j ∧ K j = K' j) → ∀ x, ctn wv N P K c x = ctn wv N P' K' c x := by
  intro c
  induction c with
  | zero => intro _ x; rfl
  | succ c ih =>
    intro h x
    simp only [ctn]
    rw [(h c (by omega)).1, (h c (by omega)).2]
    exact ih (fun j hj => h j (by omega)) _
theorem sk_congr {N : Nat} {K K' : Nat → Nat} : ∀ {c : Nat}, (∀ j, j < c → K j = K' j) → sk N K c = sk N K' c := by
  intro c
  induction c with
  | zero => intro _; rfl
  | succ c ih =>
    intro h
    simp only [sk]
    rw [h c (by omega), ih (fun j hj => h j (by omega))]
theorem itf_id {wv : Int32 → Int32 → Int32 → Int32} {N f t : Nat} {x : XX} : ∀ (m k : Nat), (∀ j, k ≤ j → j < k + m → cnd x.1 t j = false) → itf (gst wv N f t) m k x = x := by
  intro m
  induction m with
  | zero => intro k _; rfl
  | succ m ih =>
    intro k h
    simp only [itf]
    have e : gst wv N f t k x = x := by
      unfold gst
      rw [if_neg (by rw [h k (Nat.le_refl _) (by omega)]; decide)]
    rw [e]
    exact ih (k + 1) (fun j h1 h2 => h j (by omega) (by omega))
def wrl (f : Nat → Int32) : Nat → List Nat → Nat → Int32
  | _, [] => f
  | m, t :: ts => wrl (wrf f m t) (m + 1) ts
theorem wrl_app (f : Nat → Int32) (t : Nat) : ∀ (ts : List Nat) (m : Nat), wrf (wrl f m ts) (m + ts.length) t = wrl f m (ts ++ [t]) := by
  intro ts
  induction ts generalizing f with
  | nil => intro m; rfl
  | cons a ts ih =>
    intro m
    show wrf (wrl (wrf f m a) (m + 1) ts) (m + (ts.length + 1)) t = wrl (wrf f m a) (m + 1) (ts ++ [t])
    rw [← ih (wrf f m a) (m + 1), show m + 1 + ts.length = m + (ts.length + 1) by omega]
theorem gdn_lo {wv : Int32 → Int32 → Int32 → Int32} {D : Nat → Int32} {i j : Nat} (h1 : j < 3 ∨ (4 < j ∧ j < 50) ∨ 106 ≤ j) (hi : i < 8) : gdn wv D i j = D j := by
  unfold gdn
  rw [pk_un (by omega), pk_un (by omega), pk_un (by omega)]
theorem Cd.same {D D' : Nat → Int32} {u len : Nat} {W : Nat → Nat} (h : Cd D u W len) (he : ∀ j, 106 ≤ j → D' j = D j) : Cd D' u W len := by
  obtain ⟨h1, h2, h3, h4⟩ := h
  exact ⟨by rw [he _ (by omega)]; exact h1, fun k hk => by rw [he _ (by omega)]; exact h2 k hk, h3, h4⟩
def tpv (c : Nat) : Int32 := if c = 0 then -1 else nI (c - 1)
theorem tpv_dec (c : Nat) : nI c + Int32.ofInt (-1) = tpv c := by
  unfold tpv
  by_cases h : c = 0
  · subst h; decide +kernel
  · rw [if_neg h]; exact sb_m1 (by omega)
/-- the frames of the reference's fall: their trees, their looks, what comes of all of them -/
def FI (N c : Nat) (P K : Nat → Nat) (X : XX) (A : Nat → Nat → Int32) : Prop := c ≤ 8 ∧ cst X.1 N + c ≤ 8 ∧ (∀ j, j < c → P j < N ∧ K j ≤ N) ∧ ∀ j, j < c → A 7 j = nI (P j) ∧ A 8 j = nI (K j)
theorem ctn_skip {wv : Int32 → Int32 → Int32 → Int32} {N c : Nat} {P K : Nat → Nat} {X : XX} (hK : K c < N) (hc : cnd X.1 (P c) (K c) = false) : ctn wv N P (fun j => if j = c then K c + 1 else K j) (c + 1) X = ctn wv N P K (c + 1) X := by
  have e1 : ctn wv N P (fun j => if j = c then K c + 1 else K j) (c + 1) X = ctn wv N P K c (itf (gst wv N (6 - c) (P c)) (N - (K c + 1)) (K c + 1) X) := by
    show ctn wv N P (fun j => if j = c then K c + 1 else K j) c (itf (gst wv N (6 - c) (P c)) (N - (if c = c then K c + 1 else K c)) (if c = c then K c + 1 else K c) X) = _
    rw [if_pos rfl]
    exact ctn_congr (fun j hj => ⟨rfl, if_neg (by omega)⟩) _
  rw [e1]
  show _ = ctn wv N P K c (itf (gst wv N (6 - c) (P c)) (N - K c) (K c) X)
  congr 1
  rw [show N - K c = (N - (K c + 1)) + 1 by omega]
  show _ = itf (gst wv N (6 - c) (P c)) (N - (K c + 1)) (K c + 1) (gst wv N (6 - c) (P c) (K c) X)
  congr 1
  unfold gst
  rw [if_neg (by rw [hc]; decide)]
theorem ctn_push {wv : Int32 → Int32 → Int32 → Int32} {N c : Nat} {P K : Nat → Nat} {X : XX} (hK : K c < N) (hc : cnd X.1 (P c) (K c) = true) (h6 : c ≤ 6) (h0 : c = 6 → cst (gdn wv X.1 (K c)) N = 0) : ctn wv N (fun j => if j = c + 1 then K c else P j) (fun j => if j = c + 1 then 0 else if j = c then K c + 1 else K j) (c + 2) (gdn wv X.1 (K c), X.2 ++ [K c]) = ctn wv N P K (c + 1) X := by
  have e0 : itf (gst wv N (6 - (c + 1)) (K c)) (N - 0) 0 (gdn wv X.1 (K c), X.2 ++ [K c]) = fl wv N (6 - c) (K c) X := by
    by_cases h : c = 6
    · subst h
      rw [itf_id]
      · rfl
      · intro j _ hj
        have := cst_0 (h0 rfl) j (by omega)
        unfold cnd
        rw [decide_eq_false this]
        rfl
    · rw [show 6 - c = (6 - (c + 1)) + 1 by omega]
      rfl
  have e1 : ctn wv N (fun j => if j = c + 1 then K c else P j) (fun j => if j = c + 1 then 0 else if j = c then K c + 1 else K j) (c + 2) (gdn wv X.1 (K c), X.2 ++ [K c]) = ctn wv N P K c (itf (gst wv N (6 - c) (P c)) (N - (K c + 1)) (K c + 1) (fl wv N (6 - c) (K c) X)) := by
    simp only [ctn]
    simp only [if_true, show (c = c + 1) = False from eq_false (by omega), if_false]
    rw [e0]
    exact ctn_congr (fun j hj => ⟨if_neg (by omega), by rw [if_neg (by omega), if_neg (by omega)]⟩) _
  rw [e1]
  show _ = ctn wv N P K c (itf (gst wv N (6 - c) (P c)) (N - K c) (K c) X)
  congr 1
  rw [show N - K c = (N - (K c + 1)) + 1 by omega]
  show _ = itf (gst wv N (6 - c) (P c)) (N - (K c + 1)) (K c + 1) (gst wv N (6 - c) (P c) (K c) X)
  congr 1
  unfold gst
  rw [if_pos hc]
theorem ctn_pop {wv : Int32 → Int32 → Int32 → Int32} {N c : Nat} {P K : Nat → Nat} {X : XX} (hK : K c = N) : ctn wv N P K (c + 1) X = ctn wv N P K c X := by
  simp only [ctn]
  rw [hK, Nat.sub_self]
  rfl
abbrev M_Mo_falls : MD := (⟨"FelledByNamesModel", "falls", "(I)V"⟩, prog_14_method_39_code, 5, none, fun _ => True)
theorem d_Mo_falls_22 : decode prog_14_method_39_code 22 = .ok (.ifCond .lt 128, 3) := by decide +kernel
theorem d_Mo_falls_21 : decode prog_14_method_39_code 21 = .ok (.iload_n 2, 1) := by decide +kernel
theorem d_Mo_falls_25 : decode prog_14_method_39_code 25 = .ok (.aload_n 0, 1) := by decide +kernel
theorem d_Mo_falls_26 : decode prog_14_method_39_code 26 = .ok (.getfield 31, 3) := by decide +kernel
theorem f_Mo_31_Mo : fok "FelledByNamesModel" 31 5 15 := ⟨R_Mo, F_Mo, 26, "FelledByNamesModel", rfl, i_Mo, by decide, tm 1074 (by decide +kernel) rfl, Or.inl rfl, t_Mo, t_Mo_ok, n_Mo⟩
theorem d_Mo_falls_29 : decode prog_14_method_39_code 29 = .ok (.iload_n 2, 1) := by decide +kernel
theorem d_Mo_falls_30 : decode prog_14_method_39_code 30 = .ok (.iaload, 1) := by decide +kernel
theorem d_Mo_falls_31 : decode prog_14_method_39_code 31 = .ok (.istore_n 3, 1) := by decide +kernel
theorem d_Mo_falls_32 : decode prog_14_method_39_code 32 = .ok (.aload_n 0, 1) := by decide +kernel
theorem d_Mo_falls_33 : decode prog_14_method_39_code 33 = .ok (.getfield 34, 3) := by decide +kernel
theorem f_Mo_34_Mo : fok "FelledByNamesModel" 34 5 16 := ⟨R_Mo, F_Mo, 26, "FelledByNamesModel", rfl, i_Mo, by decide, tm 1075 (by decide +kernel) rfl, Or.inl rfl, t_Mo, t_Mo_ok, n_Mo⟩
theorem d_Mo_falls_36 : decode prog_14_method_39_code 36 = .ok (.iload_n 2, 1) := by decide +kernel
theorem d_Mo_falls_37 : decode prog_14_method_39_code 37 = .ok (.iaload, 1) := by decide +kernel
theorem d_Mo_falls_38 : decode prog_14_method_39_code 38 = .ok (.istore 4, 2) := by decide +kernel
theorem d_Mo_falls_40 : decode prog_14_method_39_code 40 = .ok (.aload_n 0, 1) := by decide +kernel
theorem d_Mo_falls_41 : decode prog_14_method_39_code 41 = .ok (.getfield 34, 3) := by decide +kernel
theorem d_Mo_falls_44 : decode prog_14_method_39_code 44 = .ok (.iload_n 2, 1) := by decide +kernel
theorem d_Mo_falls_45 : decode prog_14_method_39_code 45 = .ok (.dup2, 1) := by decide +kernel
theorem d_Mo_falls_46 : decode prog_14_method_39_code 46 = .ok (.iaload, 1) := by decide +kernel
theorem d_Mo_falls_47 : decode prog_14_method_39_code 47 = .ok (.iconst 1, 1) := by decide +kernel
theorem d_Mo_falls_48 : decode prog_14_method_39_code 48 = .ok (.iadd, 1) := by decide +kernel
theorem d_Mo_falls_49 : decode prog_14_method_39_code 49 = .ok (.iastore, 1) := by decide +kernel
theorem d_Mo_falls_50 : decode prog_14_method_39_code 50 = .ok (.iload 4, 2) := by decide +kernel
theorem d_Mo_falls_52 : decode prog_14_method_39_code 52 = .ok (.aload_n 0, 1) := by decide +kernel
theorem d_Mo_falls_53 : decode prog_14_method_39_code 53 = .ok (.getfield 7, 3) := by decide +kernel
theorem d_Mo_falls_56 : decode prog_14_method_39_code 56 = .ok (.iconst 0, 1) := by decide +kernel
theorem d_Mo_falls_57 : decode prog_14_method_39_code 57 = .ok (.iaload, 1) := by decide +kernel
theorem d_Mo_falls_58 : decode prog_14_method_39_code 58 = .ok (.if_icmp .ne 9, 3) := by decide +kernel
theorem d_Mo_falls_67 : decode prog_14_method_39_code 67 = .ok (.aload_n 0, 1) := by decide +kernel
theorem d_Mo_falls_68 : decode prog_14_method_39_code 68 = .ok (.iload 4, 2) := by decide +kernel
theorem d_Mo_falls_70 : decode prog_14_method_39_code 70 = .ok (.bipush 6, 2) := by decide +kernel
theorem d_Mo_falls_72 : decode prog_14_method_39_code 72 = .ok (.invokevirtual 158, 3) := by decide +kernel
theorem d_Mo_falls_75 : decode prog_14_method_39_code 75 = .ok (.iconst 1, 1) := by decide +kernel
theorem d_Mo_falls_76 : decode prog_14_method_39_code 76 = .ok (.if_icmp .ne 71, 3) := by decide +kernel
theorem d_Mo_falls_147 : decode prog_14_method_39_code 147 = .ok (.goto (-126), 3) := by decide +kernel
theorem d_Mo_falls_79 : decode prog_14_method_39_code 79 = .ok (.aload_n 0, 1) := by decide +kernel
theorem d_Mo_falls_80 : decode prog_14_method_39_code 80 = .ok (.iload 4, 2) := by decide +kernel
theorem d_Mo_falls_82 : decode prog_14_method_39_code 82 = .ok (.iconst 4, 1) := by decide +kernel
theorem d_Mo_falls_83 : decode prog_14_method_39_code 83 = .ok (.invokevirtual 158, 3) := by decide +kernel
theorem d_Mo_falls_86 : decode prog_14_method_39_code 86 = .ok (.aload_n 0, 1) := by decide +kernel
theorem d_Mo_falls_87 : decode prog_14_method_39_code 87 = .ok (.iload_n 3, 1) := by decide +kernel
theorem d_Mo_falls_88 : decode prog_14_method_39_code 88 = .ok (.iconst 4, 1) := by decide +kernel
theorem d_Mo_falls_89 : decode prog_14_method_39_code 89 = .ok (.invokevirtual 158, 3) := by decide +kernel
theorem d_Mo_falls_92 : decode prog_14_method_39_code 92 = .ok (.isub, 1) := by decide +kernel
theorem d_Mo_falls_93 : decode prog_14_method_39_code 93 = .ok (.i2l, 1) := by decide +kernel
theorem d_Mo_falls_94 : decode prog_14_method_39_code 94 = .ok (.lconst 1, 1) := by decide +kernel
theorem d_Mo_falls_95 : decode prog_14_method_39_code 95 = .ok (.aload_n 0, 1) := by decide +kernel
theorem d_Mo_falls_96 : decode prog_14_method_39_code 96 = .ok (.iload_n 3, 1) := by decide +kernel
theorem d_Mo_falls_97 : decode prog_14_method_39_code 97 = .ok (.invokevirtual 162, 3) := by decide +kernel
theorem d_Mo_falls_100 : decode prog_14_method_39_code 100 = .ok (.i2l, 1) := by decide +kernel
theorem d_Mo_falls_101 : decode prog_14_method_39_code 101 = .ok (.invokestatic 56, 3) := by decide +kernel
theorem d_Mo_falls_104 : decode prog_14_method_39_code 104 = .ok (.ifCond .eq 43, 3) := by decide +kernel
theorem d_Mo_falls_107 : decode prog_14_method_39_code 107 = .ok (.aload_n 0, 1) := by decide +kernel
theorem d_Mo_falls_108 : decode prog_14_method_39_code 108 = .ok (.iload 4, 2) := by decide +kernel
theorem d_Mo_falls_110 : decode prog_14_method_39_code 110 = .ok (.iconst 5, 1) := by decide +kernel
theorem d_Mo_falls_111 : decode prog_14_method_39_code 111 = .ok (.invokevirtual 158, 3) := by decide +kernel
theorem d_Mo_falls_114 : decode prog_14_method_39_code 114 = .ok (.aload_n 0, 1) := by decide +kernel
theorem d_Mo_falls_115 : decode prog_14_method_39_code 115 = .ok (.iload_n 3, 1) := by decide +kernel
theorem d_Mo_falls_116 : decode prog_14_method_39_code 116 = .ok (.iconst 5, 1) := by decide +kernel
theorem d_Mo_falls_117 : decode prog_14_method_39_code 117 = .ok (.invokevirtual 158, 3) := by decide +kernel
theorem d_Mo_falls_120 : decode prog_14_method_39_code 120 = .ok (.if_icmp .ge 27, 3) := by decide +kernel
theorem d_Mo_falls_123 : decode prog_14_method_39_code 123 = .ok (.iinc 2 1, 3) := by decide +kernel
theorem d_Mo_falls_126 : decode prog_14_method_39_code 126 = .ok (.aload_n 0, 1) := by decide +kernel
theorem d_Mo_falls_127 : decode prog_14_method_39_code 127 = .ok (.getfield 31, 3) := by decide +kernel
theorem d_Mo_falls_130 : decode prog_14_method_39_code 130 = .ok (.iload_n 2, 1) := by decide +kernel
theorem d_Mo_falls_131 : decode prog_14_method_39_code 131 = .ok (.iload 4, 2) := by decide +kernel
theorem d_Mo_falls_133 : decode prog_14_method_39_code 133 = .ok (.iastore, 1) := by decide +kernel
theorem d_Mo_falls_134 : decode prog_14_method_39_code 134 = .ok (.aload_n 0, 1) := by decide +kernel
theorem d_Mo_falls_135 : decode prog_14_method_39_code 135 = .ok (.getfield 34, 3) := by decide +kernel
theorem d_Mo_falls_138 : decode prog_14_method_39_code 138 = .ok (.iload_n 2, 1) := by decide +kernel
theorem d_Mo_falls_139 : decode prog_14_method_39_code 139 = .ok (.iconst 0, 1) := by decide +kernel
theorem d_Mo_falls_140 : decode prog_14_method_39_code 140 = .ok (.iastore, 1) := by decide +kernel
theorem d_Mo_falls_141 : decode prog_14_method_39_code 141 = .ok (.aload_n 0, 1) := by decide +kernel
theorem d_Mo_falls_142 : decode prog_14_method_39_code 142 = .ok (.iload 4, 2) := by decide +kernel
theorem d_Mo_falls_144 : decode prog_14_method_39_code 144 = .ok (.invokevirtual 171, 3) := by decide +kernel
theorem kB_Mo_goesDown : kB M_Mo_goesDown 1 := ⟨tm 15 (by decide +kernel) rfl, tm 1335 (by decide +kernel) rfl, ⟨by decide, by decide, by decide +kernel⟩, by decide⟩
theorem k_Mo_171_Mo_goesDown_MoV : kV "FelledByNamesModel" 171 5 M_Mo_goesDown 1 := ⟨kB_Mo_goesDown, tm 1332 (by decide +kernel) rfl, tm 1334 (by decide +kernel) rfl, tp 39 (by decide +kernel) rfl, _, rfl, rfl⟩
theorem d_Mo_falls_61 : decode prog_14_method_39_code 61 = .ok (.iinc 2 (-1), 3) := by decide +kernel
theorem d_Mo_falls_64 : decode prog_14_method_39_code 64 = .ok (.goto 83, 3) := by decide +kernel
theorem d_Mo_falls_150 : decode prog_14_method_39_code 150 = .ok (.return_, 1) := by decide +kernel
set_option maxRecDepth 100000 in
theorem falls_loop {l : Launch} {d q n i N fm len : Nat} {W : Nat → Nat} {A : Nat → Nat → Int32} {S : Nat → Int32} {h0 : HP} {Q : QT} {Y : XX} (hN : N ≤ 8) (hf : fm < 2 ^ 29) (hQ : ∀ (A1 : Nat → Nat → Int32), (∀ k, k ≠ 4 → k ≠ 6 → k ≠ 7 → k ≠ 8 → k ≠ 9 → A1 k = A k) → A1 9 = wrl (A 9) fm Y.2 → Q none n (mo q Y.1 A1 (uS S 18 (nI (fm + Y.2.length))) h0)) :
    ∀ (m c : Nat) (P K : Nat → Nat) (X : XX) (A1 : Nat → Nat → Int32), cst X.1 N * (N + 2) + sk N K c < m → ctn (tgv 1 W len) N P K c X = Y → FI N c P K X A1 → Cd X.1 1 W len → X.1 0 = nI N → A1 9 = wrl (A 9) fm X.2 → X.2.length + cst X.1 N ≤ 8 → (∀ k, k ≠ 4 → k ≠ 6 → k ≠ 7 → k ≠ 8 → k ≠ 9 → A1 k = A k) → V l M_Mo_falls (d + 4) 0 0 21 [(0, .ref q), (1, .int (nI i)), (2, .int (tpv c))] [] n (mo q X.1 A1 (uS S 18 (nI (fm + X.2.length))) h0) 0 0 Q := by
  intro m
  induction m with
  | zero => intro c P K X A1 hm; exact absurd hm (by omega)
  | succ m ih =>
    intro c P K X A1 hm hfin hF hC1 e0 h9 hlen hA
    cases c with
    | zero =>
      have hXY : X = Y := hfin
      subst hXY
      refine V.iload_n d_Mo_falls_21 rfl ?_
      refine V.if_lt (tgt := 150) d_Mo_falls_22 (by decide) (fun c_22 => ?_) (fun c_22 => absurd (by decide +kernel) c_22)
      refine V.vret d_Mo_falls_150 rfl (Nat.le_of_ble_eq_true rfl) (Nat.le_of_ble_eq_true rfl) ?_
      refine hQ A1 ?_ ?_
      · exact hA
      · exact h9
    | succ c =>
      have hPK := hF.2.2.1 c (by omega)
      have hc8 := hF.1
      have hcs := hF.2.1
      refine V.lc (ls' := [(0, .ref q), (1, .int (nI i)), (2, .int (nI c))]) rfl ?_
      refine V.iload_n d_Mo_falls_21 rfl ?_
      refine V.if_lt (tgt := 150) d_Mo_falls_22 (by decide) (fun c_22 => absurd c_22 (nI_pos (by omega))) (fun c_22 => ?_)
      refine V.aload_n d_Mo_falls_25 rfl ?_
      refine V.get d_Mo_falls_26 f_Mo_31_Mo mo_o rfl ?_
      refine V.iload_n d_Mo_falls_29 rfl ?_
      refine V.mlda 7 (by decide) (by decide) d_Mo_falls_30 (by first | omega | (show _ < 9; omega)) ?_
      refine V.top ((hF.2.2.2 c (by omega)).1) ?_
      refine V.istore_n d_Mo_falls_31 (by decide) ?_
      refine V.aload_n d_Mo_falls_32 rfl ?_
      refine V.get d_Mo_falls_33 f_Mo_34_Mo mo_o rfl ?_
      refine V.iload_n d_Mo_falls_36 rfl ?_
      refine V.mlda 8 (by decide) (by decide) d_Mo_falls_37 (by first | omega | (show _ < 9; omega)) ?_
      refine V.top ((hF.2.2.2 c (by omega)).2) ?_
      refine V.istore d_Mo_falls_38 (by decide) ?_
      refine V.aload_n d_Mo_falls_40 rfl ?_
      refine V.get d_Mo_falls_41 f_Mo_34_Mo mo_o rfl ?_
      refine V.iload_n d_Mo_falls_44 rfl ?_
      refine V.dup2 rfl rfl d_Mo_falls_45 ?_
      refine V.mlda 8 (by decide) (by decide) d_Mo_falls_46 (by first | omega | (show _ < 9; omega)) ?_
      refine V.top ((hF.2.2.2 c (by omega)).2) ?_
      refine V.iconst_ (nI 1) d_Mo_falls_47 (by decide +kernel) ?_
      refine V.addN d_Mo_falls_48 ?_
      refine V.msta 8 (by decide) (by decide) d_Mo_falls_49 (by first | omega | (show _ < 9; omega)) ?_
      refine V.iload d_Mo_falls_50 rfl ?_
      refine V.aload_n d_Mo_falls_52 rfl ?_
      refine V.get d_Mo_falls_53 f_Mo_7_Mo mo_o rfl ?_
      refine V.iconst_ (nI 0) d_Mo_falls_56 (by decide +kernel) ?_
      refine V.mldd d_Mo_falls_57 (by omega) ?_
      refine V.top (e0) ?_
      refine V.neN (tgt := 67) d_Mo_falls_58 (by decide) (by omega) (by omega) (fun c_58 => ?_) (fun c_58 => ?_)
      · skip
        refine V.aload_n d_Mo_falls_67 rfl ?_
        refine V.iload d_Mo_falls_68 rfl ?_
        refine V.bipush_ (nI 6) d_Mo_falls_70 (by decide +kernel) ?_
        refine V.callV2 d_Mo_falls_72 k_Mo_158_Mo_of_MoV mo_o (Nat.le_of_ble_eq_true rfl) (by omega) (by omega) (c_Mo_of (by omega) ?_)
        refine V.iconst_ (nI 1) d_Mo_falls_75 (by decide +kernel) ?_
        refine V.icmp_ne (tgt := 147) d_Mo_falls_76 (by decide) (fun c_76 => ?_) (fun c_76 => ?_)
        · skip
          refine V.goto (tgt := 21) d_Mo_falls_147 (by decide) ?_
          have hcf : cnd X.1 (P c) (K c) = false := by
            unfold cnd
            first
            | (rw [decide_eq_false c_76]; rfl)
            | (rw [c_104, Bool.and_false]; rfl)
            | (rw [decide_eq_false (Int32.not_lt.mpr c_120), Bool.and_false])
          refine V.lc (ls' := [(0, .ref q), (1, .int (nI i)), (2, .int (tpv (c + 1)))]) rfl (ih (c + 1) P (fun j => if j = c then K c + 1 else K j) X _ ?_ ?_ ?_ hC1 e0 ?_ hlen ?_)
          · have h1 := sk_congr (N := N) (K := fun j => if j = c then K c + 1 else K j) (K' := K) (c := c) (fun j hj => if_neg (by omega))
            simp only [sk] at hm ⊢
            rw [if_true, h1]; omega
          · rw [ctn_skip (by omega) hcf]; exact hfin
          · refine ⟨by omega, by omega, fun j hj => ⟨(hF.2.2.1 j hj).1, ?_⟩, fun j hj => ⟨?_, ?_⟩⟩
            · show (if j = c then K c + 1 else K j) ≤ N
              split
              · omega
              · exact (hF.2.2.1 j hj).2
            · rw [uA_n (by decide)]; exact (hF.2.2.2 j hj).1
            · show _ = nI (if j = c then K c + 1 else K j)
              rw [uA_s]
              by_cases hjc : j = c
              · subst hjc; rw [pk_us, if_pos rfl]
              · rw [pk_un hjc, if_neg hjc]; exact (hF.2.2.2 j hj).2
          · rw [uA_n (by decide)]; exact h9
          · intro k h1 h2 h3 h4 h5
            rw [uA_n h4]; exact hA k h1 h2 h3 h4 h5
        · skip
          refine V.aload_n d_Mo_falls_79 rfl ?_
          refine V.iload d_Mo_falls_80 rfl ?_
          refine V.iconst_ (nI 4) d_Mo_falls_82 (by decide +kernel) ?_
          refine V.callV2 d_Mo_falls_83 k_Mo_158_Mo_of_MoV mo_o (Nat.le_of_ble_eq_true rfl) (by omega) (by omega) (c_Mo_of (by omega) ?_)
          refine V.aload_n d_Mo_falls_86 rfl ?_
          refine V.iload_n d_Mo_falls_87 rfl ?_
          refine V.iconst_ (nI 4) d_Mo_falls_88 (by decide +kernel) ?_
          refine V.callV2 d_Mo_falls_89 k_Mo_158_Mo_of_MoV mo_o (Nat.le_of_ble_eq_true rfl) (by omega) (by omega) (c_Mo_of (by omega) ?_)
          refine V.isub d_Mo_falls_92 ?_
          refine V.i2l d_Mo_falls_93 ?_
          refine V.lconst_ ((nI 1).toInt64) d_Mo_falls_94 (by decide +kernel) ?_
          refine V.aload_n d_Mo_falls_95 rfl ?_
          refine V.iload_n d_Mo_falls_96 rfl ?_
          refine V.callV1 d_Mo_falls_97 k_Mo_162_Mo_reaches_MoV mo_o (Nat.le_of_ble_eq_true rfl) (by omega) (by omega) (c_Mo_reaches (by omega) ?_)
          refine V.i2l d_Mo_falls_100 ?_
          refine V.callS3 d_Mo_falls_101 k_Mo_56_Mo_inS (Nat.le_of_ble_eq_true rfl) (by omega) (by omega) (c_Mo_in ?_)
          refine V.ifeqB (tgt := 147) d_Mo_falls_104 (by decide) (fun c_104 => ?_) (fun c_104 => ?_)
          · skip
            refine V.goto (tgt := 21) d_Mo_falls_147 (by decide) ?_
            have hcf : cnd X.1 (P c) (K c) = false := by
              unfold cnd
              first
              | (rw [decide_eq_false c_76]; rfl)
              | (rw [c_104, Bool.and_false]; rfl)
              | (rw [decide_eq_false (Int32.not_lt.mpr c_120), Bool.and_false])
            refine V.lc (ls' := [(0, .ref q), (1, .int (nI i)), (2, .int (tpv (c + 1)))]) rfl (ih (c + 1) P (fun j => if j = c then K c + 1 else K j) X _ ?_ ?_ ?_ hC1 e0 ?_ hlen ?_)
            · have h1 := sk_congr (N := N) (K := fun j => if j = c then K c + 1 else K j) (K' := K) (c := c) (fun j hj => if_neg (by omega))
              simp only [sk] at hm ⊢
              rw [if_true, h1]; omega
            · rw [ctn_skip (by omega) hcf]; exact hfin
            · refine ⟨by omega, by omega, fun j hj => ⟨(hF.2.2.1 j hj).1, ?_⟩, fun j hj => ⟨?_, ?_⟩⟩
              · show (if j = c then K c + 1 else K j) ≤ N
                split
                · omega
                · exact (hF.2.2.1 j hj).2
              · rw [uA_n (by decide)]; exact (hF.2.2.2 j hj).1
              · show _ = nI (if j = c then K c + 1 else K j)
                rw [uA_s]
                by_cases hjc : j = c
                · subst hjc; rw [pk_us, if_pos rfl]
                · rw [pk_un hjc, if_neg hjc]; exact (hF.2.2.2 j hj).2
            · rw [uA_n (by decide)]; exact h9
            · intro k h1 h2 h3 h4 h5
              rw [uA_n h4]; exact hA k h1 h2 h3 h4 h5
          · skip
            refine V.aload_n d_Mo_falls_107 rfl ?_
            refine V.iload d_Mo_falls_108 rfl ?_
            refine V.iconst_ (nI 5) d_Mo_falls_110 (by decide +kernel) ?_
            refine V.callV2 d_Mo_falls_111 k_Mo_158_Mo_of_MoV mo_o (Nat.le_of_ble_eq_true rfl) (by omega) (by omega) (c_Mo_of (by omega) ?_)
            refine V.aload_n d_Mo_falls_114 rfl ?_
            refine V.iload_n d_Mo_falls_115 rfl ?_
            refine V.iconst_ (nI 5) d_Mo_falls_116 (by decide +kernel) ?_
            refine V.callV2 d_Mo_falls_117 k_Mo_158_Mo_of_MoV mo_o (Nat.le_of_ble_eq_true rfl) (by omega) (by omega) (c_Mo_of (by omega) ?_)
            refine V.icmp_ge (tgt := 147) d_Mo_falls_120 (by decide) (fun c_120 => ?_) (fun c_120 => ?_)
            · skip
              refine V.goto (tgt := 21) d_Mo_falls_147 (by decide) ?_
              have hcf : cnd X.1 (P c) (K c) = false := by
                unfold cnd
                first
                | (rw [decide_eq_false c_76]; rfl)
                | (rw [c_104, Bool.and_false]; rfl)
                | (rw [decide_eq_false (Int32.not_lt.mpr c_120), Bool.and_false])
              refine V.lc (ls' := [(0, .ref q), (1, .int (nI i)), (2, .int (tpv (c + 1)))]) rfl (ih (c + 1) P (fun j => if j = c then K c + 1 else K j) X _ ?_ ?_ ?_ hC1 e0 ?_ hlen ?_)
              · have h1 := sk_congr (N := N) (K := fun j => if j = c then K c + 1 else K j) (K' := K) (c := c) (fun j hj => if_neg (by omega))
                simp only [sk] at hm ⊢
                rw [if_true, h1]; omega
              · rw [ctn_skip (by omega) hcf]; exact hfin
              · refine ⟨by omega, by omega, fun j hj => ⟨(hF.2.2.1 j hj).1, ?_⟩, fun j hj => ⟨?_, ?_⟩⟩
                · show (if j = c then K c + 1 else K j) ≤ N
                  split
                  · omega
                  · exact (hF.2.2.1 j hj).2
                · rw [uA_n (by decide)]; exact (hF.2.2.2 j hj).1
                · show _ = nI (if j = c then K c + 1 else K j)
                  rw [uA_s]
                  by_cases hjc : j = c
                  · subst hjc; rw [pk_us, if_pos rfl]
                  · rw [pk_un hjc, if_neg hjc]; exact (hF.2.2.2 j hj).2
              · rw [uA_n (by decide)]; exact h9
              · intro k h1 h2 h3 h4 h5
                rw [uA_n h4]; exact hA k h1 h2 h3 h4 h5
            · skip
              refine V.incN d_Mo_falls_123 rfl (by decide) ?_
              have hct : cnd X.1 (P c) (K c) = true := by
                unfold cnd
                rw [decide_eq_true c_76, c_104, decide_eq_true (Int32.not_le.mp c_120)]
                rfl
              have hcg := cst_gdn (wv := tgv 1 W len) c_76 N
              rw [if_pos (show K c < N by omega)] at hcg
              refine V.aload_n d_Mo_falls_126 rfl ?_
              refine V.get d_Mo_falls_127 f_Mo_31_Mo mo_o rfl ?_
              refine V.iload_n d_Mo_falls_130 rfl ?_
              refine V.iload d_Mo_falls_131 rfl ?_
              refine V.msta 7 (by decide) (by decide) d_Mo_falls_133 (by first | omega | (show _ < 9; omega)) ?_
              refine V.aload_n d_Mo_falls_134 rfl ?_
              refine V.get d_Mo_falls_135 f_Mo_34_Mo mo_o rfl ?_
              refine V.iload_n d_Mo_falls_138 rfl ?_
              refine V.iconst_ (nI 0) d_Mo_falls_139 (by decide +kernel) ?_
              refine V.msta 8 (by decide) (by decide) d_Mo_falls_140 (by first | omega | (show _ < 9; omega)) ?_
              refine V.aload_n d_Mo_falls_141 rfl ?_
              refine V.iload d_Mo_falls_142 rfl ?_
              refine V.eqS (st' := [.int (nI (K c)), .ref q]) rfl ?_
              refine V.callV1 d_Mo_falls_144 k_Mo_171_Mo_goesDown_MoV mo_o (Nat.le_of_ble_eq_true rfl) (by omega) (by omega) (c_Mo_goesDown (by omega) hC1 (by omega) uS_s (fun A2 hA2 hA9 => ?_))
              refine V.goto (tgt := 21) d_Mo_falls_147 (by decide) ?_
              refine V.lc (ls' := [(0, .ref q), (1, .int (nI i)), (2, .int (tpv (c + 2)))]) rfl ?_
              refine V.eqH (h' := mo q (gdn (tgv 1 W len) X.1 (K c)) A2 (uS S 18 (nI (fm + (X.2 ++ [K c]).length))) h0) (by rw [uS_uu, List.length_append]; rfl) ?_
              refine ih (c + 2) (fun j => if j = c + 1 then K c else P j) (fun j => if j = c + 1 then 0 else if j = c then K c + 1 else K j) (gdn (tgv 1 W len) X.1 (K c), X.2 ++ [K c]) A2 ?_ ?_ ?_ ?_ ?_ ?_ ?_ ?_
              · have h1 := sk_congr (N := N) (K := fun j => if j = c + 1 then 0 else if j = c then K c + 1 else K j) (K' := K) (c := c) (fun j hj => by rw [if_neg (by omega), if_neg (by omega)])
                simp only [sk] at hm ⊢
                simp only [if_true, show (c = c + 1) = False from eq_false (by omega), if_false]
                rw [h1]
                have h2 : cst X.1 N * (N + 2) = cst (gdn (tgv 1 W len) X.1 (K c)) N * (N + 2) + (N + 2) := by rw [← hcg, Nat.add_mul, Nat.one_mul]
                omega
              · rw [ctn_push (by omega) hct (by omega) (fun h => by omega)]; exact hfin
              · refine ⟨by omega, by show cst (gdn (tgv 1 W len) X.1 (K c)) N + (c + 2) ≤ 8; omega, fun j hj => ⟨?_, ?_⟩, fun j hj => ⟨?_, ?_⟩⟩
                · show (if j = c + 1 then K c else P j) < N
                  split
                  · omega
                  · exact (hF.2.2.1 j (by omega)).1
                · show (if j = c + 1 then 0 else if j = c then K c + 1 else K j) ≤ N
                  split
                  · omega
                  · split
                    · omega
                    · exact (hF.2.2.1 j (by omega)).2
                · show A2 7 j = nI (if j = c + 1 then K c else P j)
                  rw [hA2 7 (by decide) (by decide) (by decide), uA_n (by decide), uA_s]
                  by_cases hj1 : j = c + 1
                  · subst hj1; rw [pk_us, if_pos rfl]
                  · rw [pk_un hj1, if_neg hj1, uA_n (by decide)]; exact (hF.2.2.2 j (by omega)).1
                · show A2 8 j = nI (if j = c + 1 then 0 else if j = c then K c + 1 else K j)
                  rw [hA2 8 (by decide) (by decide) (by decide), uA_s]
                  by_cases hj1 : j = c + 1
                  · subst hj1; rw [pk_us, if_pos rfl]
                  · rw [pk_un hj1, if_neg hj1, uA_n (by decide), uA_s]
                    by_cases hjc : j = c
                    · subst hjc; rw [pk_us, if_pos rfl]
                    · rw [pk_un hjc, if_neg hjc]; exact (hF.2.2.2 j (by omega)).2
              · exact hC1.same (fun j hj => gdn_lo (by omega) (by omega))
              · show gdn (tgv 1 W len) X.1 (K c) 0 = nI N
                rw [gdn_lo (by omega) (by omega)]; exact e0
              · show A2 9 = wrl (A 9) fm (X.2 ++ [K c])
                rw [hA9, uA_n (by decide), uA_n (by decide), uA_n (by decide), h9, wrl_app]
              · show (X.2 ++ [K c]).length + cst (gdn (tgv 1 W len) X.1 (K c)) N ≤ 8
                rw [List.length_append]; show X.2.length + 1 + _ ≤ 8; omega
              · intro k h1 h2 h3 h4 h5
                rw [hA2 k h1 h2 h5, uA_n h4, uA_n h3, uA_n h4]; exact hA k h1 h2 h3 h4 h5
      · skip
        refine V.iinc d_Mo_falls_61 rfl (tpv_dec c) (by decide) ?_
        refine V.goto (tgt := 147) d_Mo_falls_64 (by decide) ?_
        refine V.goto (tgt := 21) d_Mo_falls_147 (by decide) ?_
        refine V.lc (ls' := [(0, .ref q), (1, .int (nI i)), (2, .int (tpv c))]) rfl (ih c P K X _ ?_ ?_ ?_ hC1 e0 ?_ hlen ?_)
        · have := sk_congr (N := N) (K := K) (K' := K) (c := c) (fun j _ => rfl); simp only [sk] at hm; omega
        · rw [← ctn_pop c_58]; exact hfin
        · exact ⟨by omega, by omega, fun j hj => hF.2.2.1 j (by omega), fun j hj => by
            rw [uA_n (by decide), uA_s, pk_un (by omega)]
            exact hF.2.2.2 j (by omega)⟩
        · rw [uA_n (by decide)]; exact h9
        · intro k h1 h2 h3 h4 h5
          rw [uA_n h4]; exact hA k h1 h2 h3 h4 h5
theorem d_Mo_falls_0 : decode prog_14_method_39_code 0 = .ok (.iconst 0, 1) := by decide +kernel
theorem d_Mo_falls_1 : decode prog_14_method_39_code 1 = .ok (.istore_n 2, 1) := by decide +kernel
theorem d_Mo_falls_2 : decode prog_14_method_39_code 2 = .ok (.aload_n 0, 1) := by decide +kernel
theorem d_Mo_falls_3 : decode prog_14_method_39_code 3 = .ok (.getfield 31, 3) := by decide +kernel
theorem d_Mo_falls_6 : decode prog_14_method_39_code 6 = .ok (.iconst 0, 1) := by decide +kernel
theorem d_Mo_falls_7 : decode prog_14_method_39_code 7 = .ok (.iload_n 1, 1) := by decide +kernel
theorem d_Mo_falls_8 : decode prog_14_method_39_code 8 = .ok (.iastore, 1) := by decide +kernel
theorem d_Mo_falls_9 : decode prog_14_method_39_code 9 = .ok (.aload_n 0, 1) := by decide +kernel
theorem d_Mo_falls_10 : decode prog_14_method_39_code 10 = .ok (.getfield 34, 3) := by decide +kernel
theorem d_Mo_falls_13 : decode prog_14_method_39_code 13 = .ok (.iconst 0, 1) := by decide +kernel
theorem d_Mo_falls_14 : decode prog_14_method_39_code 14 = .ok (.iconst 0, 1) := by decide +kernel
theorem d_Mo_falls_15 : decode prog_14_method_39_code 15 = .ok (.iastore, 1) := by decide +kernel
theorem d_Mo_falls_16 : decode prog_14_method_39_code 16 = .ok (.aload_n 0, 1) := by decide +kernel
theorem d_Mo_falls_17 : decode prog_14_method_39_code 17 = .ok (.iload_n 1, 1) := by decide +kernel
theorem d_Mo_falls_18 : decode prog_14_method_39_code 18 = .ok (.invokevirtual 171, 3) := by decide +kernel
set_option maxRecDepth 100000 in
theorem c_Mo_falls {i N fm len : Nat} {W : Nat → Nat} {l : Launch} {d q n : Nat} {D : Nat → Int32} {A : Nat → Nat → Int32} {S : Nat → Int32} {h0 : HP} {Q : QT} (hi : i < N) (hN : N ≤ 8) (e0 : D 0 = nI N) (hst : D (50 + 7 * i + 6) = nI 1) (hC1 : Cd D 1 W len) (hf : fm < 2 ^ 29) (ef : S 18 = nI fm) (hQ : ∀ (A1 : Nat → Nat → Int32), (∀ k, k ≠ 4 → k ≠ 6 → k ≠ 7 → k ≠ 8 → k ≠ 9 → A1 k = A k) → A1 9 = wrl (A 9) fm (fl (tgv 1 W len) N 7 i (D, [])).2 → Q none n (mo q (fl (tgv 1 W len) N 7 i (D, [])).1 A1 (uS S 18 (nI (fm + (fl (tgv 1 W len) N 7 i (D, [])).2.length))) h0)) : Ct l M_Mo_falls (d + 4) 0 0 [.ref q, .int (nI i)] n (mo q D A S h0) Q := by
  refine Ct.of (fun _ => trivial) (by decide) (Nat.le_of_ble_eq_true rfl) ?_
  refine V.iconst_ (nI 0) d_Mo_falls_0 (by decide +kernel) ?_
  refine V.istore_n d_Mo_falls_1 (by decide) ?_
  refine V.aload_n d_Mo_falls_2 rfl ?_
  refine V.get d_Mo_falls_3 f_Mo_31_Mo mo_o rfl ?_
  refine V.iconst_ (nI 0) d_Mo_falls_6 (by decide +kernel) ?_
  refine V.iload_n d_Mo_falls_7 rfl ?_
  refine V.msta 7 (by decide) (by decide) d_Mo_falls_8 (by first | omega | (show _ < 9; omega)) ?_
  refine V.aload_n d_Mo_falls_9 rfl ?_
  refine V.get d_Mo_falls_10 f_Mo_34_Mo mo_o rfl ?_
  refine V.iconst_ (nI 0) d_Mo_falls_13 (by decide +kernel) ?_
  refine V.iconst_ (nI 0) d_Mo_falls_14 (by decide +kernel) ?_
  refine V.msta 8 (by decide) (by decide) d_Mo_falls_15 (by first | omega | (show _ < 9; omega)) ?_
  refine V.aload_n d_Mo_falls_16 rfl ?_
  refine V.iload_n d_Mo_falls_17 rfl ?_
  refine V.callV1 d_Mo_falls_18 k_Mo_171_Mo_goesDown_MoV mo_o (Nat.le_of_ble_eq_true rfl) (by omega) (by omega) (c_Mo_goesDown (by omega) hC1 (by omega) ef (fun A2 hA2 hA9 => ?_))
  have hcg := cst_gdn (wv := tgv 1 W len) hst N
  rw [if_pos hi] at hcg
  have hcl := cst_le (D := D) N
  refine V.lc (ls' := [(0, .ref q), (1, .int (nI i)), (2, .int (tpv 1))]) rfl ?_
  refine falls_loop (W := W) (len := len) (Y := fl (tgv 1 W len) N 7 i (D, [])) hN hf hQ _ 1 (fun _ => i) (fun _ => 0) (gdn (tgv 1 W len) D i, [i]) A2 (Nat.lt_succ_self _) ?_ ?_ ?_ ?_ ?_ ?_ ?_
  · rfl
  · refine ⟨by omega, by show cst (gdn (tgv 1 W len) D i) N + 1 ≤ 8; omega, fun j _ => ⟨hi, Nat.zero_le _⟩, fun j hj => ?_⟩
    rw [show j = 0 by omega, hA2 7 (by decide) (by decide) (by decide), hA2 8 (by decide) (by decide) (by decide), uA_n (by decide), uA_s, uA_s, pk_us, pk_us]
    exact ⟨rfl, rfl⟩
  · exact hC1.same (fun j hj => gdn_lo (by omega) (by omega))
  · show gdn (tgv 1 W len) D i 0 = nI N
    rw [gdn_lo (by omega) (by omega)]; exact e0
  · rw [hA9, uA_n (by decide), uA_n (by decide)]; rfl
  · show 1 + cst (gdn (tgv 1 W len) D i) N ≤ 8; omega
  · intro k h1 h2 h3 h4 h5
    rw [hA2 k h1 h2 h5, uA_n h4, uA_n h3]
end
section
def tN (D : Nat → Int32) (j : Nat) : Nat := (D j).toNatClampNeg
def dc1 (cv : Int32 → Int32 → Int32 → Int32) (D : Nat → Int32) (k : Nat) : Nat → Int32 := fun j => if 8 ≤ j ∧ j < 8 + k ∧ j < 44 ∧ ¬ (j - 8) / 6 = (j - 8) % 6 then hld (D j + cv (D j) (D (44 + (j - 8) / 6) + D (44 + (j - 8) % 6)) (irm (D 1) (nI 7))) (nI 0) (nI 99) else D j
def dg2 (D : Nat → Int32) (k : Nat) : Nat → Int32 := fun j => if 50 ≤ j ∧ (j - 50) / 7 < k ∧ (j - 50) % 7 = 5 ∧ D (50 + 7 * ((j - 50) / 7) + 6) = nI 1 then hld (D j + grw D ((j - 50) / 7)) (nI 0) (nI 99) else D j
def ovr (D : Nat → Int32) (t : Nat) : Bool := decide (D (50 + 7 * t + 6) = nI 1) && decide (D (8 + 6 * tN D (50 + 7 * t + 2) + tN D (50 + 7 * t + 3)) ≤ lim D t) && decide (D (8 + 6 * tN D (50 + 7 * t + 3) + tN D (50 + 7 * t + 2)) ≤ lim D t)
def fst3 (wv : Int32 → Int32 → Int32 → Int32) (N : Nat) : Nat → XX → XX := fun t X => if ovr X.1 t = true then fl wv N 7 t X else X
def dayD (cv wv : Int32 → Int32 → Int32 → Int32) (N : Nat) (D : Nat → Int32) : XX := (upd (itr (fst3 wv N) N (dg2 (dc1 cv D 36) N, [])).1 1 ((itr (fst3 wv N) N (dg2 (dc1 cv D 36) N, [])).1 1 + nI 1), (itr (fst3 wv N) N (dg2 (dc1 cv D 36) N, [])).2)
def dsD (cv wv : Int32 → Int32 → Int32 → Int32) (N n : Nat) (D : Nat → Int32) : XX := itr (fun _ X => ((dayD cv wv N X.1).1, X.2 ++ (dayD cv wv N X.1).2)) n (D, [])
def TS (D : Nat → Int32) (N : Nat) : Prop := ∀ t, t < N → NB D (50 + 7 * t + 0) 6 ∧ NB D (50 + 7 * t + 2) 5 ∧ NB D (50 + 7 * t + 3) 5
theorem TS.same {D D' : Nat → Int32} {N : Nat} (h : TS D N) (he : ∀ t, t < N → D' (50 + 7 * t + 0) = D (50 + 7 * t + 0) ∧ D' (50 + 7 * t + 2) = D (50 + 7 * t + 2) ∧ D' (50 + 7 * t + 3) = D (50 + 7 * t + 3)) : TS D' N := by
  intro t ht
  obtain ⟨e1, e2, e3⟩ := he t ht
  obtain ⟨h1, h2, h3⟩ := h t ht
  unfold NB at *
  rw [e1, e2, e3]
  exact ⟨h1, h2, h3⟩
theorem dc1_x {cv : Int32 → Int32 → Int32 → Int32} {D : Nat → Int32} {k j : Nat} (hj : j < 8 ∨ 8 + k ≤ j ∨ 44 ≤ j) : dc1 cv D k j = D j := by
  unfold dc1
  rw [if_neg (by omega)]
theorem dc1_0 {cv : Int32 → Int32 → Int32 → Int32} {D : Nat → Int32} : dc1 cv D 0 = D := by
  funext j
  exact dc1_x (by omega)
theorem dc1_s {cv : Int32 → Int32 → Int32 → Int32} {D : Nat → Int32} {k : Nat} (hk : k < 36) (hab : ¬ k / 6 = k % 6) : upd (dc1 cv D k) (8 + k) (hld (D (8 + k) + cv (D (8 + k)) (D (44 + k / 6) + D (44 + k % 6)) (irm (D 1) (nI 7))) (nI 0) (nI 99)) = dc1 cv D (k + 1) := by
  funext j
  by_cases hj : j = 8 + k
  · subst hj
    rw [pk_us]
    unfold dc1
    rw [if_pos ⟨by omega, by omega, by omega, by rw [show 8 + k - 8 = k by omega]; exact hab⟩, show 8 + k - 8 = k by omega]
  · rw [pk_un hj]
    unfold dc1
    by_cases hc : 8 ≤ j ∧ j < 8 + k ∧ j < 44 ∧ ¬ (j - 8) / 6 = (j - 8) % 6
    · rw [if_pos hc, if_pos ⟨hc.1, by omega, hc.2.2⟩]
    · rw [if_neg hc, if_neg (fun z => hc ⟨z.1, by omega, z.2.2⟩)]
theorem dc1_e {cv : Int32 → Int32 → Int32 → Int32} {D : Nat → Int32} {k : Nat} (hab : k / 6 = k % 6) : dc1 cv D (k + 1) = dc1 cv D k := by
  funext j
  unfold dc1
  by_cases hc : 8 ≤ j ∧ j < 8 + k ∧ j < 44 ∧ ¬ (j - 8) / 6 = (j - 8) % 6
  · rw [if_pos ⟨hc.1, by omega, hc.2.2⟩, if_pos hc]
  · rw [if_neg hc, if_neg (fun z => hc ⟨z.1, (by
      rcases Nat.lt_or_ge j (8 + k) with h | h
      · exact h
      · exact absurd hab (by have : j - 8 = k := by omega
                             rw [← this]; exact z.2.2.2)), z.2.2⟩)]
theorem dg2_x {D : Nat → Int32} {k j : Nat} (hj : j < 50 ∨ 50 + 7 * k ≤ j ∨ ¬ (j - 50) % 7 = 5) : dg2 D k j = D j := by
  unfold dg2
  rw [if_neg (by omega)]
theorem dg2_0 {D : Nat → Int32} : dg2 D 0 = D := by
  funext j
  exact dg2_x (by omega)
theorem dg2_s {D : Nat → Int32} {k : Nat} (hs : D (50 + 7 * k + 6) = nI 1) : upd (dg2 D k) (50 + 7 * k + 5) (hld (D (50 + 7 * k + 5) + grw D k) (nI 0) (nI 99)) = dg2 D (k + 1) := by
  funext j
  by_cases hj : j = 50 + 7 * k + 5
  · subst hj
    rw [pk_us]
    unfold dg2
    have e : (50 + 7 * k + 5 - 50) / 7 = k := by omega
    rw [if_pos ⟨by omega, by omega, by omega, by rw [e]; exact hs⟩, e]
  · rw [pk_un hj]
    unfold dg2
    by_cases hc : 50 ≤ j ∧ (j - 50) / 7 < k ∧ (j - 50) % 7 = 5 ∧ D (50 + 7 * ((j - 50) / 7) + 6) = nI 1
    · rw [if_pos hc, if_pos ⟨hc.1, by omega, hc.2.2⟩]
    · rw [if_neg hc, if_neg (fun z => hc ⟨z.1, by omega, z.2.2⟩)]
theorem dg2_e {D : Nat → Int32} {k : Nat} (hs : ¬ D (50 + 7 * k + 6) = nI 1) : dg2 D (k + 1) = dg2 D k := by
  funext j
  unfold dg2
  by_cases hc : 50 ≤ j ∧ (j - 50) / 7 < k ∧ (j - 50) % 7 = 5 ∧ D (50 + 7 * ((j - 50) / 7) + 6) = nI 1
  · rw [if_pos hc, if_pos ⟨hc.1, by omega, hc.2.2⟩]
  · rw [if_neg hc, if_neg (fun z => hc ⟨z.1, (by
      rcases Nat.lt_or_ge ((j - 50) / 7) k with h | h
      · exact h
      · exact absurd z.2.2.2 (by rw [show (j - 50) / 7 = k by omega]; exact hs)), z.2.2⟩)]
theorem grw_u {D D' : Nat → Int32} {t : Nat} (h1 : D' 1 = D 1) (h2 : D' (50 + 7 * t + 0) = D (50 + 7 * t + 0)) : grw D' t = grw D t := by
  unfold grw
  rw [h1, h2]
/-- what a fall leaves -/
theorem itf_keep {α : Type} {P : α → Prop} {g : Nat → α → α} (hg : ∀ k x, P x → P (g k x)) : ∀ (m k : Nat) (x : α), P x → P (itf g m k x) := by
  intro m
  induction m with
  | zero => intro k x h; exact h
  | succ m ih => intro k x h; exact ih (k + 1) _ (hg k x h)
theorem fl_keep {wv : Int32 → Int32 → Int32 → Int32} {N j : Nat} (h3 : ¬ j = 3) (h4 : ¬ j = 4) (hj : j < 50 ∨ ¬ (j - 50) % 7 = 6) : ∀ (f t : Nat) (x : XX), (fl wv N f t x).1 j = x.1 j := by
  have hg : ∀ (t : Nat) (x : XX), gdn wv x.1 t j = x.1 j := by
    intro t x
    unfold gdn
    rw [pk_un (by omega), pk_un h3, pk_un h4]
  intro f
  induction f with
  | zero => intro t x; exact hg t x
  | succ f ih =>
    intro t x
    refine (itf_keep (P := fun y : XX => y.1 j = x.1 j) (fun k y hy => ?_) N 0 _ (hg t x))
    show (if cnd y.1 t k = true then fl wv N f k y else y).1 j = x.1 j
    split
    · rw [ih]; exact hy
    · exact hy
theorem fl_keep8 {wv : Int32 → Int32 → Int32 → Int32} {N j : Nat} (hN : N ≤ 8) (hj : 106 ≤ j) : ∀ (f t : Nat) (x : XX), t < N → (fl wv N f t x).1 j = x.1 j := by
  have hg : ∀ (t : Nat) (x : XX), t < N → gdn wv x.1 t j = x.1 j := fun t x ht => gdn_lo (by omega) (by omega)
  intro f
  induction f with
  | zero => intro t x ht; exact hg t x ht
  | succ f ih =>
    intro t x ht
    have key : ∀ (m k : Nat) (y : XX), k + m ≤ N → y.1 j = x.1 j → (itf (fun k y => if cnd y.1 t k = true then fl wv N f k y else y) m k y).1 j = x.1 j := by
      intro m
      induction m with
      | zero => intro k y _ hy; exact hy
      | succ m ihm =>
        intro k y hk hy
        refine ihm (k + 1) _ (by omega) ?_
        show (if cnd y.1 t k = true then fl wv N f k y else y).1 j = x.1 j
        split
        · rw [ih k y (by omega)]; exact hy
        · exact hy
    exact key N 0 _ (by omega) (hg t x ht)
theorem fl_cnt {wv : Int32 → Int32 → Int32 → Int32} {N : Nat} : ∀ (f t : Nat) (x : XX), t < N → x.1 (50 + 7 * t + 6) = nI 1 → (fl wv N f t x).2.length + cst (fl wv N f t x).1 N = x.2.length + cst x.1 N := by
  have hg : ∀ (t : Nat) (x : XX), t < N → x.1 (50 + 7 * t + 6) = nI 1 → (x.2 ++ [t]).length + cst (gdn wv x.1 t) N = x.2.length + cst x.1 N := by
    intro t x ht hs
    have := cst_gdn (wv := wv) hs N
    rw [if_pos ht] at this
    rw [List.length_append]
    show x.2.length + 1 + _ = _
    omega
  intro f
  induction f with
  | zero => intro t x ht hs; exact hg t x ht hs
  | succ f ih =>
    intro t x ht hs
    have key : ∀ (m k : Nat) (y : XX), k + m ≤ N → y.2.length + cst y.1 N = x.2.length + cst x.1 N → (itf (fun k y => if cnd y.1 t k = true then fl wv N f k y else y) m k y).2.length + cst (itf (fun k y => if cnd y.1 t k = true then fl wv N f k y else y) m k y).1 N = x.2.length + cst x.1 N := by
      intro m
      induction m with
      | zero => intro k y _ hy; exact hy
      | succ m ihm =>
        intro k y hk hy
        refine ihm (k + 1) _ (by omega) ?_
        show (if cnd y.1 t k = true then fl wv N f k y else y).2.length + cst (if cnd y.1 t k = true then fl wv N f k y else y).1 N = _
        split
        · next h =>
          have hst : y.1 (50 + 7 * k + 6) = nI 1 := by
            unfold cnd at h
            simp only [Bool.and_eq_true, decide_eq_true_eq] at h
            exact h.1.1
          rw [ih k y (by omega) hst]; exact hy
        · exact hy
    exact key N 0 _ (by omega) (hg t x ht hs)
theorem fl_acc {wv : Int32 → Int32 → Int32 → Int32} {N : Nat} : ∀ (f t : Nat) (D : Nat → Int32) (fs gs : List Nat), fl wv N f t (D, fs ++ gs) = ((fl wv N f t (D, gs)).1, fs ++ (fl wv N f t (D, gs)).2) := by
  intro f
  induction f with
  | zero => intro t D fs gs; show (_, _) = (_, _); rw [List.append_assoc]; rfl
  | succ f ih =>
    intro t D fs gs
    have key : ∀ (m k : Nat) (y : XX), itf (fun k y => if cnd y.1 t k = true then fl wv N f k y else y) m k (y.1, fs ++ y.2) = ((itf (fun k y => if cnd y.1 t k = true then fl wv N f k y else y) m k y).1, fs ++ (itf (fun k y => if cnd y.1 t k = true then fl wv N f k y else y) m k y).2) := by
      intro m
      induction m with
      | zero => intro k y; rfl
      | succ m ihm =>
        intro k y
        show itf (fun k y => if cnd y.1 t k = true then fl wv N f k y else y) m (k + 1) (if cnd y.1 t k = true then fl wv N f k (y.1, fs ++ y.2) else (y.1, fs ++ y.2)) = _
        have e : (if cnd y.1 t k = true then fl wv N f k (y.1, fs ++ y.2) else (y.1, fs ++ y.2)) = ((if cnd y.1 t k = true then fl wv N f k y else y).1, fs ++ (if cnd y.1 t k = true then fl wv N f k y else y).2) := by
          split
          · exact ih k y.1 fs y.2
          · rfl
        rw [e]
        exact ihm (k + 1) _
    have := key N 0 (gdn wv D t, gs ++ [t])
    show itf (fun k y => if cnd y.1 t k = true then fl wv N f k y else y) N 0 (gdn wv D t, fs ++ gs ++ [t]) = _
    rw [List.append_assoc]
    exact this
theorem wrl_cat (f : Nat → Int32) : ∀ (a b : List Nat) (m : Nat), wrl f m (a ++ b) = wrl (wrl f m a) (m + a.length) b := by
  intro a
  induction a generalizing f with
  | nil => intro b m; rfl
  | cons t a ih =>
    intro b m
    show wrl (wrf f m t) (m + 1) (a ++ b) = wrl (wrl (wrf f m t) (m + 1) a) (m + (a.length + 1)) b
    rw [ih (wrf f m t) b (m + 1), show m + 1 + a.length = m + (a.length + 1) by omega]
abbrev M_Mo_dayGoes : MD := (⟨"FelledByNamesModel", "dayGoes", "()V"⟩, prog_14_method_41_code, 4, none, fun _ => True)
theorem d_Mo_dayGoes_0 : decode prog_14_method_41_code 0 = .ok (.iconst 0, 1) := by decide +kernel
theorem d_Mo_dayGoes_1 : decode prog_14_method_41_code 1 = .ok (.istore_n 1, 1) := by decide +kernel
theorem d_Mo_dayGoes_2 : decode prog_14_method_41_code 2 = .ok (.iload_n 1, 1) := by decide +kernel
theorem d_Mo_dayGoes_3 : decode prog_14_method_41_code 3 = .ok (.bipush 36, 2) := by decide +kernel
theorem d_Mo_dayGoes_5 : decode prog_14_method_41_code 5 = .ok (.if_icmp .ge 91, 3) := by decide +kernel
theorem d_Mo_dayGoes_96 : decode prog_14_method_41_code 96 = .ok (.iconst 0, 1) := by decide +kernel
theorem d_Mo_dayGoes_97 : decode prog_14_method_41_code 97 = .ok (.istore_n 1, 1) := by decide +kernel
theorem d_Mo_dayGoes_98 : decode prog_14_method_41_code 98 = .ok (.iload_n 1, 1) := by decide +kernel
theorem d_Mo_dayGoes_99 : decode prog_14_method_41_code 99 = .ok (.aload_n 0, 1) := by decide +kernel
theorem d_Mo_dayGoes_100 : decode prog_14_method_41_code 100 = .ok (.getfield 7, 3) := by decide +kernel
theorem d_Mo_dayGoes_103 : decode prog_14_method_41_code 103 = .ok (.iconst 0, 1) := by decide +kernel
theorem d_Mo_dayGoes_104 : decode prog_14_method_41_code 104 = .ok (.iaload, 1) := by decide +kernel
theorem d_Mo_dayGoes_105 : decode prog_14_method_41_code 105 = .ok (.if_icmp .ge 44, 3) := by decide +kernel
theorem d_Mo_dayGoes_149 : decode prog_14_method_41_code 149 = .ok (.iconst 0, 1) := by decide +kernel
theorem d_Mo_dayGoes_150 : decode prog_14_method_41_code 150 = .ok (.istore_n 1, 1) := by decide +kernel
theorem d_Mo_dayGoes_151 : decode prog_14_method_41_code 151 = .ok (.iload_n 1, 1) := by decide +kernel
theorem d_Mo_dayGoes_152 : decode prog_14_method_41_code 152 = .ok (.aload_n 0, 1) := by decide +kernel
theorem d_Mo_dayGoes_153 : decode prog_14_method_41_code 153 = .ok (.getfield 7, 3) := by decide +kernel
theorem d_Mo_dayGoes_156 : decode prog_14_method_41_code 156 = .ok (.iconst 0, 1) := by decide +kernel
theorem d_Mo_dayGoes_157 : decode prog_14_method_41_code 157 = .ok (.iaload, 1) := by decide +kernel
theorem d_Mo_dayGoes_158 : decode prog_14_method_41_code 158 = .ok (.if_icmp .ge 71, 3) := by decide +kernel
theorem d_Mo_dayGoes_229 : decode prog_14_method_41_code 229 = .ok (.aload_n 0, 1) := by decide +kernel
theorem d_Mo_dayGoes_230 : decode prog_14_method_41_code 230 = .ok (.getfield 7, 3) := by decide +kernel
theorem d_Mo_dayGoes_233 : decode prog_14_method_41_code 233 = .ok (.iconst 1, 1) := by decide +kernel
theorem d_Mo_dayGoes_234 : decode prog_14_method_41_code 234 = .ok (.dup2, 1) := by decide +kernel
theorem d_Mo_dayGoes_235 : decode prog_14_method_41_code 235 = .ok (.iaload, 1) := by decide +kernel
theorem d_Mo_dayGoes_236 : decode prog_14_method_41_code 236 = .ok (.iconst 1, 1) := by decide +kernel
theorem d_Mo_dayGoes_237 : decode prog_14_method_41_code 237 = .ok (.iadd, 1) := by decide +kernel
theorem d_Mo_dayGoes_238 : decode prog_14_method_41_code 238 = .ok (.iastore, 1) := by decide +kernel
theorem d_Mo_dayGoes_239 : decode prog_14_method_41_code 239 = .ok (.return_, 1) := by decide +kernel
theorem d_Mo_dayGoes_161 : decode prog_14_method_41_code 161 = .ok (.aload_n 0, 1) := by decide +kernel
theorem d_Mo_dayGoes_162 : decode prog_14_method_41_code 162 = .ok (.iload_n 1, 1) := by decide +kernel
theorem d_Mo_dayGoes_163 : decode prog_14_method_41_code 163 = .ok (.invokevirtual 177, 3) := by decide +kernel
theorem kB_Mo_limit : kB M_Mo_limit 1 := ⟨tm 15 (by decide +kernel) rfl, tm 1290 (by decide +kernel) rfl, ⟨by decide, by decide, by decide +kernel⟩, by decide⟩
theorem k_Mo_177_Mo_limit_MoV : kV "FelledByNamesModel" 177 5 M_Mo_limit 1 := ⟨kB_Mo_limit, tm 1287 (by decide +kernel) rfl, tm 1289 (by decide +kernel) rfl, tp 33 (by decide +kernel) rfl, _, rfl, rfl⟩
theorem d_Mo_dayGoes_166 : decode prog_14_method_41_code 166 = .ok (.istore_n 2, 1) := by decide +kernel
theorem d_Mo_dayGoes_167 : decode prog_14_method_41_code 167 = .ok (.aload_n 0, 1) := by decide +kernel
theorem d_Mo_dayGoes_168 : decode prog_14_method_41_code 168 = .ok (.iload_n 1, 1) := by decide +kernel
theorem d_Mo_dayGoes_169 : decode prog_14_method_41_code 169 = .ok (.bipush 6, 2) := by decide +kernel
theorem d_Mo_dayGoes_171 : decode prog_14_method_41_code 171 = .ok (.invokevirtual 158, 3) := by decide +kernel
theorem d_Mo_dayGoes_174 : decode prog_14_method_41_code 174 = .ok (.iconst 1, 1) := by decide +kernel
theorem d_Mo_dayGoes_175 : decode prog_14_method_41_code 175 = .ok (.if_icmp .ne 48, 3) := by decide +kernel
theorem d_Mo_dayGoes_223 : decode prog_14_method_41_code 223 = .ok (.iinc 1 1, 3) := by decide +kernel
theorem d_Mo_dayGoes_226 : decode prog_14_method_41_code 226 = .ok (.goto (-75), 3) := by decide +kernel
theorem d_Mo_dayGoes_178 : decode prog_14_method_41_code 178 = .ok (.aload_n 0, 1) := by decide +kernel
theorem d_Mo_dayGoes_179 : decode prog_14_method_41_code 179 = .ok (.aload_n 0, 1) := by decide +kernel
theorem d_Mo_dayGoes_180 : decode prog_14_method_41_code 180 = .ok (.iload_n 1, 1) := by decide +kernel
theorem d_Mo_dayGoes_181 : decode prog_14_method_41_code 181 = .ok (.iconst 2, 1) := by decide +kernel
theorem d_Mo_dayGoes_182 : decode prog_14_method_41_code 182 = .ok (.invokevirtual 158, 3) := by decide +kernel
theorem d_Mo_dayGoes_185 : decode prog_14_method_41_code 185 = .ok (.aload_n 0, 1) := by decide +kernel
theorem d_Mo_dayGoes_186 : decode prog_14_method_41_code 186 = .ok (.iload_n 1, 1) := by decide +kernel
theorem d_Mo_dayGoes_187 : decode prog_14_method_41_code 187 = .ok (.iconst 3, 1) := by decide +kernel
theorem d_Mo_dayGoes_188 : decode prog_14_method_41_code 188 = .ok (.invokevirtual 158, 3) := by decide +kernel
theorem d_Mo_dayGoes_191 : decode prog_14_method_41_code 191 = .ok (.invokevirtual 180, 3) := by decide +kernel
theorem kB_Mo_hold0 : kB M_Mo_hold0 2 := ⟨tm 15 (by decide +kernel) rfl, tm 1243 (by decide +kernel) rfl, ⟨by decide, by decide, by decide +kernel⟩, by decide⟩
theorem k_Mo_180_Mo_hold0_MoV : kV "FelledByNamesModel" 180 5 M_Mo_hold0 2 := ⟨kB_Mo_hold0, tm 1240 (by decide +kernel) rfl, tm 1242 (by decide +kernel) rfl, tp 29 (by decide +kernel) rfl, _, rfl, rfl⟩
theorem d_Mo_dayGoes_194 : decode prog_14_method_41_code 194 = .ok (.iload_n 2, 1) := by decide +kernel
theorem d_Mo_dayGoes_195 : decode prog_14_method_41_code 195 = .ok (.if_icmp .gt 28, 3) := by decide +kernel
theorem d_Mo_dayGoes_198 : decode prog_14_method_41_code 198 = .ok (.aload_n 0, 1) := by decide +kernel
theorem d_Mo_dayGoes_199 : decode prog_14_method_41_code 199 = .ok (.aload_n 0, 1) := by decide +kernel
theorem d_Mo_dayGoes_200 : decode prog_14_method_41_code 200 = .ok (.iload_n 1, 1) := by decide +kernel
theorem d_Mo_dayGoes_201 : decode prog_14_method_41_code 201 = .ok (.iconst 3, 1) := by decide +kernel
theorem d_Mo_dayGoes_202 : decode prog_14_method_41_code 202 = .ok (.invokevirtual 158, 3) := by decide +kernel
theorem d_Mo_dayGoes_205 : decode prog_14_method_41_code 205 = .ok (.aload_n 0, 1) := by decide +kernel
theorem d_Mo_dayGoes_206 : decode prog_14_method_41_code 206 = .ok (.iload_n 1, 1) := by decide +kernel
theorem d_Mo_dayGoes_207 : decode prog_14_method_41_code 207 = .ok (.iconst 2, 1) := by decide +kernel
theorem d_Mo_dayGoes_208 : decode prog_14_method_41_code 208 = .ok (.invokevirtual 158, 3) := by decide +kernel
theorem d_Mo_dayGoes_211 : decode prog_14_method_41_code 211 = .ok (.invokevirtual 180, 3) := by decide +kernel
theorem d_Mo_dayGoes_214 : decode prog_14_method_41_code 214 = .ok (.iload_n 2, 1) := by decide +kernel
theorem d_Mo_dayGoes_215 : decode prog_14_method_41_code 215 = .ok (.if_icmp .gt 8, 3) := by decide +kernel
theorem d_Mo_dayGoes_218 : decode prog_14_method_41_code 218 = .ok (.aload_n 0, 1) := by decide +kernel
theorem d_Mo_dayGoes_219 : decode prog_14_method_41_code 219 = .ok (.iload_n 1, 1) := by decide +kernel
theorem d_Mo_dayGoes_220 : decode prog_14_method_41_code 220 = .ok (.invokevirtual 183, 3) := by decide +kernel
theorem kB_Mo_falls : kB M_Mo_falls 1 := ⟨tm 15 (by decide +kernel) rfl, tm 1331 (by decide +kernel) rfl, ⟨by decide, by decide, by decide +kernel⟩, by decide⟩
theorem k_Mo_183_Mo_falls_MoV : kV "FelledByNamesModel" 183 5 M_Mo_falls 1 := ⟨kB_Mo_falls, tm 1328 (by decide +kernel) rfl, tm 1330 (by decide +kernel) rfl, tp 38 (by decide +kernel) rfl, _, rfl, rfl⟩
theorem d_Mo_dayGoes_108 : decode prog_14_method_41_code 108 = .ok (.aload_n 0, 1) := by decide +kernel
theorem d_Mo_dayGoes_109 : decode prog_14_method_41_code 109 = .ok (.iload_n 1, 1) := by decide +kernel
theorem d_Mo_dayGoes_110 : decode prog_14_method_41_code 110 = .ok (.bipush 6, 2) := by decide +kernel
theorem d_Mo_dayGoes_112 : decode prog_14_method_41_code 112 = .ok (.invokevirtual 158, 3) := by decide +kernel
theorem d_Mo_dayGoes_115 : decode prog_14_method_41_code 115 = .ok (.iconst 1, 1) := by decide +kernel
theorem d_Mo_dayGoes_116 : decode prog_14_method_41_code 116 = .ok (.if_icmp .ne 27, 3) := by decide +kernel
theorem d_Mo_dayGoes_143 : decode prog_14_method_41_code 143 = .ok (.iinc 1 1, 3) := by decide +kernel
theorem d_Mo_dayGoes_146 : decode prog_14_method_41_code 146 = .ok (.goto (-48), 3) := by decide +kernel
theorem d_Mo_dayGoes_119 : decode prog_14_method_41_code 119 = .ok (.aload_n 0, 1) := by decide +kernel
theorem d_Mo_dayGoes_120 : decode prog_14_method_41_code 120 = .ok (.iload_n 1, 1) := by decide +kernel
theorem d_Mo_dayGoes_121 : decode prog_14_method_41_code 121 = .ok (.iconst 5, 1) := by decide +kernel
theorem d_Mo_dayGoes_122 : decode prog_14_method_41_code 122 = .ok (.aload_n 0, 1) := by decide +kernel
theorem d_Mo_dayGoes_123 : decode prog_14_method_41_code 123 = .ok (.iload_n 1, 1) := by decide +kernel
theorem d_Mo_dayGoes_124 : decode prog_14_method_41_code 124 = .ok (.iconst 5, 1) := by decide +kernel
theorem d_Mo_dayGoes_125 : decode prog_14_method_41_code 125 = .ok (.invokevirtual 158, 3) := by decide +kernel
theorem d_Mo_dayGoes_128 : decode prog_14_method_41_code 128 = .ok (.aload_n 0, 1) := by decide +kernel
theorem d_Mo_dayGoes_129 : decode prog_14_method_41_code 129 = .ok (.iload_n 1, 1) := by decide +kernel
theorem d_Mo_dayGoes_130 : decode prog_14_method_41_code 130 = .ok (.invokevirtual 174, 3) := by decide +kernel
theorem kB_Mo_grows : kB M_Mo_grows 1 := ⟨tm 15 (by decide +kernel) rfl, tm 1327 (by decide +kernel) rfl, ⟨by decide, by decide, by decide +kernel⟩, by decide⟩
theorem k_Mo_174_Mo_grows_MoV : kV "FelledByNamesModel" 174 5 M_Mo_grows 1 := ⟨kB_Mo_grows, tm 1324 (by decide +kernel) rfl, tm 1326 (by decide +kernel) rfl, tp 37 (by decide +kernel) rfl, _, rfl, rfl⟩
theorem d_Mo_dayGoes_133 : decode prog_14_method_41_code 133 = .ok (.iadd, 1) := by decide +kernel
theorem d_Mo_dayGoes_134 : decode prog_14_method_41_code 134 = .ok (.iconst 0, 1) := by decide +kernel
theorem d_Mo_dayGoes_135 : decode prog_14_method_41_code 135 = .ok (.bipush 99, 2) := by decide +kernel
theorem d_Mo_dayGoes_137 : decode prog_14_method_41_code 137 = .ok (.invokestatic 151, 3) := by decide +kernel
theorem d_Mo_dayGoes_140 : decode prog_14_method_41_code 140 = .ok (.invokevirtual 165, 3) := by decide +kernel
theorem d_Mo_dayGoes_8 : decode prog_14_method_41_code 8 = .ok (.iload_n 1, 1) := by decide +kernel
theorem d_Mo_dayGoes_9 : decode prog_14_method_41_code 9 = .ok (.bipush 6, 2) := by decide +kernel
theorem d_Mo_dayGoes_11 : decode prog_14_method_41_code 11 = .ok (.idiv, 1) := by decide +kernel
theorem d_Mo_dayGoes_12 : decode prog_14_method_41_code 12 = .ok (.istore_n 2, 1) := by decide +kernel
theorem d_Mo_dayGoes_13 : decode prog_14_method_41_code 13 = .ok (.iload_n 1, 1) := by decide +kernel
theorem d_Mo_dayGoes_14 : decode prog_14_method_41_code 14 = .ok (.bipush 6, 2) := by decide +kernel
theorem d_Mo_dayGoes_16 : decode prog_14_method_41_code 16 = .ok (.irem, 1) := by decide +kernel
theorem d_Mo_dayGoes_17 : decode prog_14_method_41_code 17 = .ok (.istore_n 3, 1) := by decide +kernel
theorem d_Mo_dayGoes_18 : decode prog_14_method_41_code 18 = .ok (.iload_n 2, 1) := by decide +kernel
theorem d_Mo_dayGoes_19 : decode prog_14_method_41_code 19 = .ok (.iload_n 3, 1) := by decide +kernel
theorem d_Mo_dayGoes_20 : decode prog_14_method_41_code 20 = .ok (.if_icmp .eq 70, 3) := by decide +kernel
theorem d_Mo_dayGoes_90 : decode prog_14_method_41_code 90 = .ok (.iinc 1 1, 3) := by decide +kernel
theorem d_Mo_dayGoes_93 : decode prog_14_method_41_code 93 = .ok (.goto (-91), 3) := by decide +kernel
theorem d_Mo_dayGoes_23 : decode prog_14_method_41_code 23 = .ok (.aload_n 0, 1) := by decide +kernel
theorem d_Mo_dayGoes_24 : decode prog_14_method_41_code 24 = .ok (.getfield 7, 3) := by decide +kernel
theorem d_Mo_dayGoes_27 : decode prog_14_method_41_code 27 = .ok (.bipush 8, 2) := by decide +kernel
theorem d_Mo_dayGoes_29 : decode prog_14_method_41_code 29 = .ok (.iload_n 1, 1) := by decide +kernel
theorem d_Mo_dayGoes_30 : decode prog_14_method_41_code 30 = .ok (.iadd, 1) := by decide +kernel
theorem d_Mo_dayGoes_31 : decode prog_14_method_41_code 31 = .ok (.aload_n 0, 1) := by decide +kernel
theorem d_Mo_dayGoes_32 : decode prog_14_method_41_code 32 = .ok (.getfield 7, 3) := by decide +kernel
theorem d_Mo_dayGoes_35 : decode prog_14_method_41_code 35 = .ok (.bipush 8, 2) := by decide +kernel
theorem d_Mo_dayGoes_37 : decode prog_14_method_41_code 37 = .ok (.iload_n 1, 1) := by decide +kernel
theorem d_Mo_dayGoes_38 : decode prog_14_method_41_code 38 = .ok (.iadd, 1) := by decide +kernel
theorem d_Mo_dayGoes_39 : decode prog_14_method_41_code 39 = .ok (.iaload, 1) := by decide +kernel
theorem d_Mo_dayGoes_40 : decode prog_14_method_41_code 40 = .ok (.aload_n 0, 1) := by decide +kernel
theorem d_Mo_dayGoes_41 : decode prog_14_method_41_code 41 = .ok (.iconst 0, 1) := by decide +kernel
theorem d_Mo_dayGoes_42 : decode prog_14_method_41_code 42 = .ok (.aload_n 0, 1) := by decide +kernel
theorem d_Mo_dayGoes_43 : decode prog_14_method_41_code 43 = .ok (.getfield 7, 3) := by decide +kernel
theorem d_Mo_dayGoes_46 : decode prog_14_method_41_code 46 = .ok (.bipush 8, 2) := by decide +kernel
theorem d_Mo_dayGoes_48 : decode prog_14_method_41_code 48 = .ok (.iload_n 1, 1) := by decide +kernel
theorem d_Mo_dayGoes_49 : decode prog_14_method_41_code 49 = .ok (.iadd, 1) := by decide +kernel
theorem d_Mo_dayGoes_50 : decode prog_14_method_41_code 50 = .ok (.iaload, 1) := by decide +kernel
theorem d_Mo_dayGoes_51 : decode prog_14_method_41_code 51 = .ok (.aload_n 0, 1) := by decide +kernel
theorem d_Mo_dayGoes_52 : decode prog_14_method_41_code 52 = .ok (.getfield 7, 3) := by decide +kernel
theorem d_Mo_dayGoes_55 : decode prog_14_method_41_code 55 = .ok (.bipush 44, 2) := by decide +kernel
theorem d_Mo_dayGoes_57 : decode prog_14_method_41_code 57 = .ok (.iload_n 2, 1) := by decide +kernel
theorem d_Mo_dayGoes_58 : decode prog_14_method_41_code 58 = .ok (.iadd, 1) := by decide +kernel
theorem d_Mo_dayGoes_59 : decode prog_14_method_41_code 59 = .ok (.iaload, 1) := by decide +kernel
theorem d_Mo_dayGoes_60 : decode prog_14_method_41_code 60 = .ok (.aload_n 0, 1) := by decide +kernel
theorem d_Mo_dayGoes_61 : decode prog_14_method_41_code 61 = .ok (.getfield 7, 3) := by decide +kernel
theorem d_Mo_dayGoes_64 : decode prog_14_method_41_code 64 = .ok (.bipush 44, 2) := by decide +kernel
theorem d_Mo_dayGoes_66 : decode prog_14_method_41_code 66 = .ok (.iload_n 3, 1) := by decide +kernel
theorem d_Mo_dayGoes_67 : decode prog_14_method_41_code 67 = .ok (.iadd, 1) := by decide +kernel
theorem d_Mo_dayGoes_68 : decode prog_14_method_41_code 68 = .ok (.iaload, 1) := by decide +kernel
theorem d_Mo_dayGoes_69 : decode prog_14_method_41_code 69 = .ok (.iadd, 1) := by decide +kernel
theorem d_Mo_dayGoes_70 : decode prog_14_method_41_code 70 = .ok (.aload_n 0, 1) := by decide +kernel
theorem d_Mo_dayGoes_71 : decode prog_14_method_41_code 71 = .ok (.getfield 7, 3) := by decide +kernel
theorem d_Mo_dayGoes_74 : decode prog_14_method_41_code 74 = .ok (.iconst 1, 1) := by decide +kernel
theorem d_Mo_dayGoes_75 : decode prog_14_method_41_code 75 = .ok (.iaload, 1) := by decide +kernel
theorem d_Mo_dayGoes_76 : decode prog_14_method_41_code 76 = .ok (.bipush 7, 2) := by decide +kernel
theorem d_Mo_dayGoes_78 : decode prog_14_method_41_code 78 = .ok (.irem, 1) := by decide +kernel
theorem d_Mo_dayGoes_79 : decode prog_14_method_41_code 79 = .ok (.invokevirtual 154, 3) := by decide +kernel
theorem d_Mo_dayGoes_82 : decode prog_14_method_41_code 82 = .ok (.iadd, 1) := by decide +kernel
theorem d_Mo_dayGoes_83 : decode prog_14_method_41_code 83 = .ok (.iconst 0, 1) := by decide +kernel
theorem d_Mo_dayGoes_84 : decode prog_14_method_41_code 84 = .ok (.bipush 99, 2) := by decide +kernel
theorem d_Mo_dayGoes_86 : decode prog_14_method_41_code 86 = .ok (.invokestatic 151, 3) := by decide +kernel
theorem d_Mo_dayGoes_89 : decode prog_14_method_41_code 89 = .ok (.iastore, 1) := by decide +kernel
set_option maxRecDepth 100000 in
theorem c_Mo_dayGoes {N fm len0 len1 : Nat} {W0 W1 : Nat → Nat} {l : Launch} {d q n : Nat} {D : Nat → Int32} {A : Nat → Nat → Int32} {S : Nat → Int32} {h0 : HP} {Q : QT} (hN : N ≤ 8) (e0 : D 0 = nI N) (hT : TS D N) (hC0 : Cd D 0 W0 len0) (hC1 : Cd D 1 W1 len1) (hf : fm < 2 ^ 28) (ef : S 18 = nI fm) (hQ : ∀ (A1 : Nat → Nat → Int32), (∀ j, j ≠ 4 → j ≠ 6 → j ≠ 7 → j ≠ 8 → j ≠ 9 → A1 j = A j) → A1 9 = wrl (A 9) fm (dayD (tgv 0 W0 len0) (tgv 1 W1 len1) N D).2 → Q none n (mo q (dayD (tgv 0 W0 len0) (tgv 1 W1 len1) N D).1 A1 (uS S 18 (nI (fm + (dayD (tgv 0 W0 len0) (tgv 1 W1 len1) N D).2.length))) h0)) : Ct l M_Mo_dayGoes (d + 5) 0 0 [.ref q] n (mo q D A S h0) Q := by
  refine Ct.of (fun _ => trivial) (by decide) (Nat.le_of_ble_eq_true rfl) ?_
  refine V.iconst_ (nI 0) d_Mo_dayGoes_0 (by decide +kernel) ?_
  refine V.istore_n d_Mo_dayGoes_1 (by decide) ?_
  refine V.eqH (h' := mo q (dc1 (tgv 0 W0 len0) D 0) A S h0) (by rw [dc1_0]) ?_
  refine V.lc (ls' := [(0, .ref q), (1, .int (nI 0))]) rfl ?_
  refine up_to (G := fun k => ∀ A1 : Nat → Nat → Int32, (∀ j, j ≠ 4 → j ≠ 6 → A1 j = A j) → V l M_Mo_dayGoes (d + 5) 0 0 2 [(0, .ref q), (1, .int (nI k))] [] n (mo q (dc1 (tgv 0 W0 len0) D k) A1 S h0) 0 0 Q) (36) ?_ (fun k hk hn => ?_) 0 (by omega) A (fun _ _ _ => rfl)
  · skip
    intro A1 hA1
    refine V.iload_n d_Mo_dayGoes_2 rfl ?_
    refine V.bipush_ (nI 36) d_Mo_dayGoes_3 (by decide +kernel) ?_
    refine V.geN (tgt := 96) d_Mo_dayGoes_5 (by decide) (by omega) (by omega) (fun c_5 => ?_) (fun c_5 => ?_)
    · skip
      refine V.iconst_ (nI 0) d_Mo_dayGoes_96 (by decide +kernel) ?_
      refine V.istore_n d_Mo_dayGoes_97 (by decide) ?_
      have hT1 : TS (dc1 (tgv 0 W0 len0) D 36) N := hT.same (fun t ht => ⟨dc1_x (by omega), dc1_x (by omega), dc1_x (by omega)⟩)
      generalize hD1 : dc1 (tgv 0 W0 len0) D 36 = D1 at hT1 ⊢
      have e01 : D1 0 = nI N := by rw [← hD1, dc1_x (by omega)]; exact e0
      refine V.eqH (h' := mo q (dg2 D1 0) A1 S h0) (by rw [dg2_0]) ?_
      refine V.lc (ls' := [(0, .ref q), (1, .int (nI 0))]) rfl ?_
      refine up_to (G := fun k => V l M_Mo_dayGoes (d + 5) 0 0 98 [(0, .ref q), (1, .int (nI k))] [] n (mo q (dg2 D1 k) A1 S h0) 0 0 Q) (N) ?_ (fun k hk hn => ?_) 0 (by omega)
      · skip
        refine V.iload_n d_Mo_dayGoes_98 rfl ?_
        refine V.aload_n d_Mo_dayGoes_99 rfl ?_
        refine V.get d_Mo_dayGoes_100 f_Mo_7_Mo mo_o rfl ?_
        refine V.iconst_ (nI 0) d_Mo_dayGoes_103 (by decide +kernel) ?_
        refine V.mldd d_Mo_dayGoes_104 (by omega) ?_
        refine V.top (show _ = nI N by rw [dg2_x (by omega)]; exact e01) ?_
        refine V.geN (tgt := 149) d_Mo_dayGoes_105 (by decide) (by omega) (by omega) (fun c_105 => ?_) (fun c_105 => ?_)
        · skip
          refine V.iconst_ (nI 0) d_Mo_dayGoes_149 (by decide +kernel) ?_
          refine V.istore_n d_Mo_dayGoes_150 (by decide) ?_
          have hT2 : TS (dg2 D1 N) N := hT1.same (fun t ht => ⟨dg2_x (by omega), dg2_x (by omega), dg2_x (by omega)⟩)
          have e02 : dg2 D1 N 0 = nI N := by rw [dg2_x (by omega)]; exact e01
          have hC2 : Cd (dg2 D1 N) 1 W1 len1 := hC1.same (fun j hj => by rw [dg2_x (by omega), ← hD1, dc1_x (by omega)])
          have hcl := cst_le (D := dg2 D1 N) N
          refine V.eqH (h' := mo q (itr (fst3 (tgv 1 W1 len1) N) 0 (dg2 D1 N, [])).1 A1 (uS S 18 (nI (fm + (itr (fst3 (tgv 1 W1 len1) N) 0 (dg2 D1 N, [])).2.length))) h0) (by show mo q (dg2 D1 N) A1 S h0 = mo q (dg2 D1 N) A1 (uS S 18 (nI (fm + 0))) h0; rw [Nat.add_zero, ← ef]; congr 1; funext j; unfold uS; split <;> simp_all) ?_
          refine V.lc (ls' := [(0, .ref q), (1, .int (nI 0))]) rfl ?_
          refine up_to (G := fun k => ∀ A2 : Nat → Nat → Int32, (∀ j, j ≠ 4 → j ≠ 6 → j ≠ 7 → j ≠ 8 → j ≠ 9 → A2 j = A j) → A2 9 = wrl (A 9) fm (itr (fst3 (tgv 1 W1 len1) N) k (dg2 D1 N, [])).2 → ((itr (fst3 (tgv 1 W1 len1) N) k (dg2 D1 N, [])).1 0 = nI N ∧ TS (itr (fst3 (tgv 1 W1 len1) N) k (dg2 D1 N, [])).1 N ∧ Cd (itr (fst3 (tgv 1 W1 len1) N) k (dg2 D1 N, [])).1 1 W1 len1 ∧ (itr (fst3 (tgv 1 W1 len1) N) k (dg2 D1 N, [])).2.length + cst (itr (fst3 (tgv 1 W1 len1) N) k (dg2 D1 N, [])).1 N ≤ 8) → V l M_Mo_dayGoes (d + 5) 0 0 151 [(0, .ref q), (1, .int (nI k))] [] n (mo q (itr (fst3 (tgv 1 W1 len1) N) k (dg2 D1 N, [])).1 A2 (uS S 18 (nI (fm + (itr (fst3 (tgv 1 W1 len1) N) k (dg2 D1 N, [])).2.length))) h0) 0 0 Q) (N) ?_ (fun k hk hn => ?_) 0 (by omega) A1 (fun j h1 h2 h3 h4 h5 => hA1 j h1 h2) (hA1 9 (by decide) (by decide)) ⟨e02, hT2, hC2, by show 0 + cst (dg2 D1 N) N ≤ 8; omega⟩
          · skip
            intro A2 hA2 hA9 hX
            obtain ⟨hX0, hXT, hXC, hXL⟩ := hX
            refine V.iload_n d_Mo_dayGoes_151 rfl ?_
            refine V.aload_n d_Mo_dayGoes_152 rfl ?_
            refine V.get d_Mo_dayGoes_153 f_Mo_7_Mo mo_o rfl ?_
            refine V.iconst_ (nI 0) d_Mo_dayGoes_156 (by decide +kernel) ?_
            refine V.mldd d_Mo_dayGoes_157 (by omega) ?_
            refine V.top hX0 ?_
            refine V.geN (tgt := 229) d_Mo_dayGoes_158 (by decide) (by omega) (by omega) (fun c_158 => ?_) (fun c_158 => ?_)
            · skip
              refine V.aload_n d_Mo_dayGoes_229 rfl ?_
              refine V.get d_Mo_dayGoes_230 f_Mo_7_Mo mo_o rfl ?_
              refine V.iconst_ (nI 1) d_Mo_dayGoes_233 (by decide +kernel) ?_
              refine V.dup2 rfl rfl d_Mo_dayGoes_234 ?_
              refine V.mldd d_Mo_dayGoes_235 (by omega) ?_
              refine V.iconst_ (nI 1) d_Mo_dayGoes_236 (by decide +kernel) ?_
              refine V.iadd d_Mo_dayGoes_237 ?_
              refine V.mstd d_Mo_dayGoes_238 (by omega) ?_
              refine V.vret d_Mo_dayGoes_239 rfl (Nat.le_of_ble_eq_true rfl) (Nat.le_of_ble_eq_true rfl) ?_
              subst hD1
              exact hQ A2 hA2 hA9
            · skip
              exact absurd c_158 (by omega)
          · skip
            intro A2 hA2 hA9 hX
            obtain ⟨hX0, hXT, hXC, hXL⟩ := hX
            obtain ⟨ka, hka, eka⟩ := (hXT k hk).2.1
            obtain ⟨kb, hkb, ekb⟩ := (hXT k hk).2.2
            have eS : itr (fst3 (tgv 1 W1 len1) N) (k + 1) (dg2 D1 N, []) = fst3 (tgv 1 W1 len1) N k (itr (fst3 (tgv 1 W1 len1) N) k (dg2 D1 N, [])) := rfl
            rw [eS] at hn
            generalize hXX : (itr (fst3 (tgv 1 W1 len1) N) k (dg2 D1 N, [])) = X at *
            have hta : tN X.1 (50 + 7 * k + 2) = ka := by unfold tN; rw [eka]; exact nI_clamp (by omega)
            have htb : tN X.1 (50 + 7 * k + 3) = kb := by unfold tN; rw [ekb]; exact nI_clamp (by omega)
            refine V.iload_n d_Mo_dayGoes_151 rfl ?_
            refine V.aload_n d_Mo_dayGoes_152 rfl ?_
            refine V.get d_Mo_dayGoes_153 f_Mo_7_Mo mo_o rfl ?_
            refine V.iconst_ (nI 0) d_Mo_dayGoes_156 (by decide +kernel) ?_
            refine V.mldd d_Mo_dayGoes_157 (by omega) ?_
            refine V.top hX0 ?_
            refine V.geN (tgt := 229) d_Mo_dayGoes_158 (by decide) (by omega) (by omega) (fun c_158 => ?_) (fun c_158 => ?_)
            · skip
              exact absurd c_158 (by omega)
            · skip
              refine V.aload_n d_Mo_dayGoes_161 rfl ?_
              refine V.iload_n d_Mo_dayGoes_162 rfl ?_
              refine V.callV1 d_Mo_dayGoes_163 k_Mo_177_Mo_limit_MoV mo_o (Nat.le_of_ble_eq_true rfl) (by omega) (by omega) (c_Mo_limit (by omega) ((hXT k hk).1) ?_)
              refine V.istore_n d_Mo_dayGoes_166 (by decide) ?_
              refine V.aload_n d_Mo_dayGoes_167 rfl ?_
              refine V.iload_n d_Mo_dayGoes_168 rfl ?_
              refine V.bipush_ (nI 6) d_Mo_dayGoes_169 (by decide +kernel) ?_
              refine V.callV2 d_Mo_dayGoes_171 k_Mo_158_Mo_of_MoV mo_o (Nat.le_of_ble_eq_true rfl) (by omega) (by omega) (c_Mo_of (by omega) ?_)
              refine V.iconst_ (nI 1) d_Mo_dayGoes_174 (by decide +kernel) ?_
              refine V.icmp_ne (tgt := 223) d_Mo_dayGoes_175 (by decide) (fun c_175 => ?_) (fun c_175 => ?_)
              · skip
                refine V.incN d_Mo_dayGoes_223 rfl (by decide) ?_
                refine V.goto (tgt := 151) d_Mo_dayGoes_226 (by decide) ?_
                first
                | (have hov : ovr X.1 k = false := by
                     unfold ovr
                     rw [hta, htb]
                     first
                     | (rw [decide_eq_false c_175]; rfl)
                     | (rw [decide_eq_false (Int32.not_le.mpr c_195), Bool.and_false]; rfl)
                     | (rw [decide_eq_false (Int32.not_le.mpr c_215), Bool.and_false])
                   have e3 : fst3 (tgv 1 W1 len1) N k X = X := by unfold fst3; rw [if_neg (by rw [hov]; decide)]
                   rw [e3] at hn
                   exact V.lc rfl (hn A2 hA2 hA9 ⟨hX0, hXT, hXC, hXL⟩))
                | (have hov : ovr X.1 k = true := by
                     unfold ovr
                     rw [hta, htb, decide_eq_true c_175, decide_eq_true (Int32.not_lt.mp c_195), decide_eq_true (Int32.not_lt.mp c_215)]
                     rfl
                   have e3 : fst3 (tgv 1 W1 len1) N k X = ((fl (tgv 1 W1 len1) N 7 k (X.1, [])).1, X.2 ++ (fl (tgv 1 W1 len1) N 7 k (X.1, [])).2) := by
                     unfold fst3; rw [if_pos hov]
                     exact (fl_acc 7 k X.1 X.2 []).symm ▸ by rw [List.append_nil]
                   rw [e3] at hn
                   have hcn := fl_cnt (wv := (tgv 1 W1 len1)) (N := N) 7 k (X.1, []) hk c_175
                   refine V.lc (ls' := [(0, .ref q), (1, .int (nI (k + 1)))]) rfl ?_
                   refine V.eqH ?_ (hn A3 ?_ ?_ ⟨?_, ?_, ?_, ?_⟩)
                   · rw [uS_uu, List.length_append, Nat.add_assoc]
                   · intro j h1 h2 h3 h4 h5; rw [hA3 j h1 h2 h3 h4 h5]; exact hA2 j h1 h2 h3 h4 h5
                   · rw [hA93, hA9, wrl_cat]
                   · show (fl (tgv 1 W1 len1) N 7 k (X.1, [])).1 0 = nI N
                     rw [fl_keep (by decide) (by decide) (by omega)]; exact hX0
                   · exact hXT.same (fun t ht => ⟨fl_keep (by omega) (by omega) (by omega) _ _ _, fl_keep (by omega) (by omega) (by omega) _ _ _, fl_keep (by omega) (by omega) (by omega) _ _ _⟩)
                   · exact hXC.same (fun j hj => fl_keep8 hN hj _ _ _ hk)
                   · show (X.2 ++ (fl (tgv 1 W1 len1) N 7 k (X.1, [])).2).length + cst (fl (tgv 1 W1 len1) N 7 k (X.1, [])).1 N ≤ 8
                     rw [List.length_append]
                     have hcn' : (fl (tgv 1 W1 len1) N 7 k (X.1, [])).2.length + cst (fl (tgv 1 W1 len1) N 7 k (X.1, [])).1 N = 0 + cst X.1 N := hcn
                     omega)
              · skip
                refine V.aload_n d_Mo_dayGoes_178 rfl ?_
                refine V.aload_n d_Mo_dayGoes_179 rfl ?_
                refine V.iload_n d_Mo_dayGoes_180 rfl ?_
                refine V.iconst_ (nI 2) d_Mo_dayGoes_181 (by decide +kernel) ?_
                refine V.callV2 d_Mo_dayGoes_182 k_Mo_158_Mo_of_MoV mo_o (Nat.le_of_ble_eq_true rfl) (by omega) (by omega) (c_Mo_of (by omega) ?_)
                refine V.top eka ?_
                refine V.aload_n d_Mo_dayGoes_185 rfl ?_
                refine V.iload_n d_Mo_dayGoes_186 rfl ?_
                refine V.iconst_ (nI 3) d_Mo_dayGoes_187 (by decide +kernel) ?_
                refine V.callV2 d_Mo_dayGoes_188 k_Mo_158_Mo_of_MoV mo_o (Nat.le_of_ble_eq_true rfl) (by omega) (by omega) (c_Mo_of (by omega) ?_)
                refine V.top ekb ?_
                refine V.callV2 d_Mo_dayGoes_191 k_Mo_180_Mo_hold0_MoV mo_o (Nat.le_of_ble_eq_true rfl) (by omega) (by omega) (c_Mo_hold0 (by omega) ?_)
                refine V.iload_n d_Mo_dayGoes_194 rfl ?_
                refine V.icmp_gt (tgt := 223) d_Mo_dayGoes_195 (by decide) (fun c_195 => ?_) (fun c_195 => ?_)
                · skip
                  refine V.incN d_Mo_dayGoes_223 rfl (by decide) ?_
                  refine V.goto (tgt := 151) d_Mo_dayGoes_226 (by decide) ?_
                  first
                  | (have hov : ovr X.1 k = false := by
                       unfold ovr
                       rw [hta, htb]
                       first
                       | (rw [decide_eq_false c_175]; rfl)
                       | (rw [decide_eq_false (Int32.not_le.mpr c_195), Bool.and_false]; rfl)
                       | (rw [decide_eq_false (Int32.not_le.mpr c_215), Bool.and_false])
                     have e3 : fst3 (tgv 1 W1 len1) N k X = X := by unfold fst3; rw [if_neg (by rw [hov]; decide)]
                     rw [e3] at hn
                     exact V.lc rfl (hn A2 hA2 hA9 ⟨hX0, hXT, hXC, hXL⟩))
                  | (have hov : ovr X.1 k = true := by
                       unfold ovr
                       rw [hta, htb, decide_eq_true c_175, decide_eq_true (Int32.not_lt.mp c_195), decide_eq_true (Int32.not_lt.mp c_215)]
                       rfl
                     have e3 : fst3 (tgv 1 W1 len1) N k X = ((fl (tgv 1 W1 len1) N 7 k (X.1, [])).1, X.2 ++ (fl (tgv 1 W1 len1) N 7 k (X.1, [])).2) := by
                       unfold fst3; rw [if_pos hov]
                       exact (fl_acc 7 k X.1 X.2 []).symm ▸ by rw [List.append_nil]
                     rw [e3] at hn
                     have hcn := fl_cnt (wv := (tgv 1 W1 len1)) (N := N) 7 k (X.1, []) hk c_175
                     refine V.lc (ls' := [(0, .ref q), (1, .int (nI (k + 1)))]) rfl ?_
                     refine V.eqH ?_ (hn A3 ?_ ?_ ⟨?_, ?_, ?_, ?_⟩)
                     · rw [uS_uu, List.length_append, Nat.add_assoc]
                     · intro j h1 h2 h3 h4 h5; rw [hA3 j h1 h2 h3 h4 h5]; exact hA2 j h1 h2 h3 h4 h5
                     · rw [hA93, hA9, wrl_cat]
                     · show (fl (tgv 1 W1 len1) N 7 k (X.1, [])).1 0 = nI N
                       rw [fl_keep (by decide) (by decide) (by omega)]; exact hX0
                     · exact hXT.same (fun t ht => ⟨fl_keep (by omega) (by omega) (by omega) _ _ _, fl_keep (by omega) (by omega) (by omega) _ _ _, fl_keep (by omega) (by omega) (by omega) _ _ _⟩)
                     · exact hXC.same (fun j hj => fl_keep8 hN hj _ _ _ hk)
                     · show (X.2 ++ (fl (tgv 1 W1 len1) N 7 k (X.1, [])).2).length + cst (fl (tgv 1 W1 len1) N 7 k (X.1, [])).1 N ≤ 8
                       rw [List.length_append]
                       have hcn' : (fl (tgv 1 W1 len1) N 7 k (X.1, [])).2.length + cst (fl (tgv 1 W1 len1) N 7 k (X.1, [])).1 N = 0 + cst X.1 N := hcn
                       omega)
                · skip
                  refine V.aload_n d_Mo_dayGoes_198 rfl ?_
                  refine V.aload_n d_Mo_dayGoes_199 rfl ?_
                  refine V.iload_n d_Mo_dayGoes_200 rfl ?_
                  refine V.iconst_ (nI 3) d_Mo_dayGoes_201 (by decide +kernel) ?_
                  refine V.callV2 d_Mo_dayGoes_202 k_Mo_158_Mo_of_MoV mo_o (Nat.le_of_ble_eq_true rfl) (by omega) (by omega) (c_Mo_of (by omega) ?_)
                  refine V.top ekb ?_
                  refine V.aload_n d_Mo_dayGoes_205 rfl ?_
                  refine V.iload_n d_Mo_dayGoes_206 rfl ?_
                  refine V.iconst_ (nI 2) d_Mo_dayGoes_207 (by decide +kernel) ?_
                  refine V.callV2 d_Mo_dayGoes_208 k_Mo_158_Mo_of_MoV mo_o (Nat.le_of_ble_eq_true rfl) (by omega) (by omega) (c_Mo_of (by omega) ?_)
                  refine V.top eka ?_
                  refine V.callV2 d_Mo_dayGoes_211 k_Mo_180_Mo_hold0_MoV mo_o (Nat.le_of_ble_eq_true rfl) (by omega) (by omega) (c_Mo_hold0 (by omega) ?_)
                  refine V.iload_n d_Mo_dayGoes_214 rfl ?_
                  refine V.icmp_gt (tgt := 223) d_Mo_dayGoes_215 (by decide) (fun c_215 => ?_) (fun c_215 => ?_)
                  · skip
                    refine V.incN d_Mo_dayGoes_223 rfl (by decide) ?_
                    refine V.goto (tgt := 151) d_Mo_dayGoes_226 (by decide) ?_
                    first
                    | (have hov : ovr X.1 k = false := by
                         unfold ovr
                         rw [hta, htb]
                         first
                         | (rw [decide_eq_false c_175]; rfl)
                         | (rw [decide_eq_false (Int32.not_le.mpr c_195), Bool.and_false]; rfl)
                         | (rw [decide_eq_false (Int32.not_le.mpr c_215), Bool.and_false])
                       have e3 : fst3 (tgv 1 W1 len1) N k X = X := by unfold fst3; rw [if_neg (by rw [hov]; decide)]
                       rw [e3] at hn
                       exact V.lc rfl (hn A2 hA2 hA9 ⟨hX0, hXT, hXC, hXL⟩))
                    | (have hov : ovr X.1 k = true := by
                         unfold ovr
                         rw [hta, htb, decide_eq_true c_175, decide_eq_true (Int32.not_lt.mp c_195), decide_eq_true (Int32.not_lt.mp c_215)]
                         rfl
                       have e3 : fst3 (tgv 1 W1 len1) N k X = ((fl (tgv 1 W1 len1) N 7 k (X.1, [])).1, X.2 ++ (fl (tgv 1 W1 len1) N 7 k (X.1, [])).2) := by
                         unfold fst3; rw [if_pos hov]
                         exact (fl_acc 7 k X.1 X.2 []).symm ▸ by rw [List.append_nil]
                       rw [e3] at hn
                       have hcn := fl_cnt (wv := (tgv 1 W1 len1)) (N := N) 7 k (X.1, []) hk c_175
                       refine V.lc (ls' := [(0, .ref q), (1, .int (nI (k + 1)))]) rfl ?_
                       refine V.eqH ?_ (hn A3 ?_ ?_ ⟨?_, ?_, ?_, ?_⟩)
                       · rw [uS_uu, List.length_append, Nat.add_assoc]
                       · intro j h1 h2 h3 h4 h5; rw [hA3 j h1 h2 h3 h4 h5]; exact hA2 j h1 h2 h3 h4 h5
                       · rw [hA93, hA9, wrl_cat]
                       · show (fl (tgv 1 W1 len1) N 7 k (X.1, [])).1 0 = nI N
                         rw [fl_keep (by decide) (by decide) (by omega)]; exact hX0
                       · exact hXT.same (fun t ht => ⟨fl_keep (by omega) (by omega) (by omega) _ _ _, fl_keep (by omega) (by omega) (by omega) _ _ _, fl_keep (by omega) (by omega) (by omega) _ _ _⟩)
                       · exact hXC.same (fun j hj => fl_keep8 hN hj _ _ _ hk)
                       · show (X.2 ++ (fl (tgv 1 W1 len1) N 7 k (X.1, [])).2).length + cst (fl (tgv 1 W1 len1) N 7 k (X.1, [])).1 N ≤ 8
                         rw [List.length_append]
                         have hcn' : (fl (tgv 1 W1 len1) N 7 k (X.1, [])).2.length + cst (fl (tgv 1 W1 len1) N 7 k (X.1, [])).1 N = 0 + cst X.1 N := hcn
                         omega)
                  · skip
                    refine V.aload_n d_Mo_dayGoes_218 rfl ?_
                    refine V.iload_n d_Mo_dayGoes_219 rfl ?_
                    refine V.callV1 d_Mo_dayGoes_220 k_Mo_183_Mo_falls_MoV mo_o (Nat.le_of_ble_eq_true rfl) (by omega) (by omega) (c_Mo_falls hk hN hX0 c_175 hXC (by omega) uS_s (fun A3 hA3 hA93 => ?_))
                    refine V.incN d_Mo_dayGoes_223 rfl (by decide) ?_
                    refine V.goto (tgt := 151) d_Mo_dayGoes_226 (by decide) ?_
                    first
                    | (have hov : ovr X.1 k = false := by
                         unfold ovr
                         rw [hta, htb]
                         first
                         | (rw [decide_eq_false c_175]; rfl)
                         | (rw [decide_eq_false (Int32.not_le.mpr c_195), Bool.and_false]; rfl)
                         | (rw [decide_eq_false (Int32.not_le.mpr c_215), Bool.and_false])
                       have e3 : fst3 (tgv 1 W1 len1) N k X = X := by unfold fst3; rw [if_neg (by rw [hov]; decide)]
                       rw [e3] at hn
                       exact V.lc rfl (hn A2 hA2 hA9 ⟨hX0, hXT, hXC, hXL⟩))
                    | (have hov : ovr X.1 k = true := by
                         unfold ovr
                         rw [hta, htb, decide_eq_true c_175, decide_eq_true (Int32.not_lt.mp c_195), decide_eq_true (Int32.not_lt.mp c_215)]
                         rfl
                       have e3 : fst3 (tgv 1 W1 len1) N k X = ((fl (tgv 1 W1 len1) N 7 k (X.1, [])).1, X.2 ++ (fl (tgv 1 W1 len1) N 7 k (X.1, [])).2) := by
                         unfold fst3; rw [if_pos hov]
                         exact (fl_acc 7 k X.1 X.2 []).symm ▸ by rw [List.append_nil]
                       rw [e3] at hn
                       have hcn := fl_cnt (wv := (tgv 1 W1 len1)) (N := N) 7 k (X.1, []) hk c_175
                       refine V.lc (ls' := [(0, .ref q), (1, .int (nI (k + 1)))]) rfl ?_
                       refine V.eqH ?_ (hn A3 ?_ ?_ ⟨?_, ?_, ?_, ?_⟩)
                       · rw [uS_uu, List.length_append, Nat.add_assoc]
                       · intro j h1 h2 h3 h4 h5; rw [hA3 j h1 h2 h3 h4 h5]; exact hA2 j h1 h2 h3 h4 h5
                       · rw [hA93, hA9, wrl_cat]
                       · show (fl (tgv 1 W1 len1) N 7 k (X.1, [])).1 0 = nI N
                         rw [fl_keep (by decide) (by decide) (by omega)]; exact hX0
                       · exact hXT.same (fun t ht => ⟨fl_keep (by omega) (by omega) (by omega) _ _ _, fl_keep (by omega) (by omega) (by omega) _ _ _, fl_keep (by omega) (by omega) (by omega) _ _ _⟩)
                       · exact hXC.same (fun j hj => fl_keep8 hN hj _ _ _ hk)
                       · show (X.2 ++ (fl (tgv 1 W1 len1) N 7 k (X.1, [])).2).length + cst (fl (tgv 1 W1 len1) N 7 k (X.1, [])).1 N ≤ 8
                         rw [List.length_append]
                         have hcn' : (fl (tgv 1 W1 len1) N 7 k (X.1, [])).2.length + cst (fl (tgv 1 W1 len1) N 7 k (X.1, [])).1 N = 0 + cst X.1 N := hcn
                         omega)
        · skip
          exact absurd c_105 (by omega)
      · skip
        refine V.iload_n d_Mo_dayGoes_98 rfl ?_
        refine V.aload_n d_Mo_dayGoes_99 rfl ?_
        refine V.get d_Mo_dayGoes_100 f_Mo_7_Mo mo_o rfl ?_
        refine V.iconst_ (nI 0) d_Mo_dayGoes_103 (by decide +kernel) ?_
        refine V.mldd d_Mo_dayGoes_104 (by omega) ?_
        refine V.top (show _ = nI N by rw [dg2_x (by omega)]; exact e01) ?_
        refine V.geN (tgt := 149) d_Mo_dayGoes_105 (by decide) (by omega) (by omega) (fun c_105 => ?_) (fun c_105 => ?_)
        · skip
          exact absurd c_105 (by omega)
        · skip
          refine V.aload_n d_Mo_dayGoes_108 rfl ?_
          refine V.iload_n d_Mo_dayGoes_109 rfl ?_
          refine V.bipush_ (nI 6) d_Mo_dayGoes_110 (by decide +kernel) ?_
          refine V.callV2 d_Mo_dayGoes_112 k_Mo_158_Mo_of_MoV mo_o (Nat.le_of_ble_eq_true rfl) (by omega) (by omega) (c_Mo_of (by omega) ?_)
          refine V.iconst_ (nI 1) d_Mo_dayGoes_115 (by decide +kernel) ?_
          refine V.icmp_ne (tgt := 143) d_Mo_dayGoes_116 (by decide) (fun c_116 => ?_) (fun c_116 => ?_)
          · skip
            refine V.incN d_Mo_dayGoes_143 rfl (by decide) ?_
            refine V.goto (tgt := 98) d_Mo_dayGoes_146 (by decide) ?_
            first
            | (rw [dg2_e (by rw [dg2_x (by omega)] at c_116; exact c_116)] at hn; exact V.lc rfl hn)
            | (rw [dg2_x (by omega)] at c_116
               rw [← dg2_s c_116] at hn
               simp only [dg2_x (D := D1) (k := k) (j := 50 + 7 * k + 5) (by omega), grw_u (D := D1) (D' := dg2 D1 k) (t := k) (dg2_x (by omega)) (dg2_x (by omega))]
               exact V.lc rfl hn)
          · skip
            refine V.aload_n d_Mo_dayGoes_119 rfl ?_
            refine V.iload_n d_Mo_dayGoes_120 rfl ?_
            refine V.iconst_ (nI 5) d_Mo_dayGoes_121 (by decide +kernel) ?_
            refine V.aload_n d_Mo_dayGoes_122 rfl ?_
            refine V.iload_n d_Mo_dayGoes_123 rfl ?_
            refine V.iconst_ (nI 5) d_Mo_dayGoes_124 (by decide +kernel) ?_
            refine V.callV2 d_Mo_dayGoes_125 k_Mo_158_Mo_of_MoV mo_o (Nat.le_of_ble_eq_true rfl) (by omega) (by omega) (c_Mo_of (by omega) ?_)
            refine V.aload_n d_Mo_dayGoes_128 rfl ?_
            refine V.iload_n d_Mo_dayGoes_129 rfl ?_
            refine V.callV1 d_Mo_dayGoes_130 k_Mo_174_Mo_grows_MoV mo_o (Nat.le_of_ble_eq_true rfl) (by omega) (by omega) (c_Mo_grows (by omega) (by unfold NB; rw [dg2_x (by omega)]; exact (hT1 k hk).1) ?_)
            refine V.iadd d_Mo_dayGoes_133 ?_
            refine V.iconst_ (nI 0) d_Mo_dayGoes_134 (by decide +kernel) ?_
            refine V.bipush_ (nI 99) d_Mo_dayGoes_135 (by decide +kernel) ?_
            refine V.callS3 d_Mo_dayGoes_137 k_Mo_151_Mo_heldS (Nat.le_of_ble_eq_true rfl) (by omega) (by omega) (c_Mo_held ?_)
            refine V.callV3 d_Mo_dayGoes_140 k_Mo_165_Mo_sets_MoV mo_o (Nat.le_of_ble_eq_true rfl) (by omega) (by omega) (c_Mo_sets (by omega) ?_)
            refine V.incN d_Mo_dayGoes_143 rfl (by decide) ?_
            refine V.goto (tgt := 98) d_Mo_dayGoes_146 (by decide) ?_
            first
            | (rw [dg2_e (by rw [dg2_x (by omega)] at c_116; exact c_116)] at hn; exact V.lc rfl hn)
            | (rw [dg2_x (by omega)] at c_116
               rw [← dg2_s c_116] at hn
               simp only [dg2_x (D := D1) (k := k) (j := 50 + 7 * k + 5) (by omega), grw_u (D := D1) (D' := dg2 D1 k) (t := k) (dg2_x (by omega)) (dg2_x (by omega))]
               exact V.lc rfl hn)
    · skip
      exact absurd c_5 (by omega)
  · skip
    intro A1 hA1
    refine V.iload_n d_Mo_dayGoes_2 rfl ?_
    refine V.bipush_ (nI 36) d_Mo_dayGoes_3 (by decide +kernel) ?_
    refine V.geN (tgt := 96) d_Mo_dayGoes_5 (by decide) (by omega) (by omega) (fun c_5 => ?_) (fun c_5 => ?_)
    · skip
      exact absurd c_5 (by omega)
    · skip
      refine V.iload_n d_Mo_dayGoes_8 rfl ?_
      refine V.bipush_ (nI 6) d_Mo_dayGoes_9 (by decide +kernel) ?_
      refine V.divN d_Mo_dayGoes_11 (by omega) (by omega) (by omega) ?_
      refine V.istore_n d_Mo_dayGoes_12 (by decide) ?_
      refine V.iload_n d_Mo_dayGoes_13 rfl ?_
      refine V.bipush_ (nI 6) d_Mo_dayGoes_14 (by decide +kernel) ?_
      refine V.remN d_Mo_dayGoes_16 (by omega) (by omega) (by omega) ?_
      refine V.istore_n d_Mo_dayGoes_17 (by decide) ?_
      refine V.iload_n d_Mo_dayGoes_18 rfl ?_
      refine V.iload_n d_Mo_dayGoes_19 rfl ?_
      refine V.eqN (tgt := 90) d_Mo_dayGoes_20 (by decide) (by omega) (by omega) (fun c_20 => ?_) (fun c_20 => ?_)
      · skip
        refine V.incN d_Mo_dayGoes_90 rfl (by decide) ?_
        refine V.goto (tgt := 2) d_Mo_dayGoes_93 (by decide) ?_
        first
        | (rw [dc1_e c_20] at hn; exact V.lc rfl (hn _ hA1))
        | (rw [← dc1_s hk c_20] at hn
           subst er1
           rw [dc1_x (by omega), dc1_x (by omega), dc1_x (by omega), dc1_x (by omega)]
           exact V.lc rfl (hn _ (fun j h1 h2 => (hB1 j h1 h2).trans (hA1 j h1 h2))))
      · skip
        refine V.aload_n d_Mo_dayGoes_23 rfl ?_
        refine V.get d_Mo_dayGoes_24 f_Mo_7_Mo mo_o rfl ?_
        refine V.bipush_ (nI 8) d_Mo_dayGoes_27 (by decide +kernel) ?_
        refine V.iload_n d_Mo_dayGoes_29 rfl ?_
        refine V.addN d_Mo_dayGoes_30 ?_
        refine V.aload_n d_Mo_dayGoes_31 rfl ?_
        refine V.get d_Mo_dayGoes_32 f_Mo_7_Mo mo_o rfl ?_
        refine V.bipush_ (nI 8) d_Mo_dayGoes_35 (by decide +kernel) ?_
        refine V.iload_n d_Mo_dayGoes_37 rfl ?_
        refine V.addN d_Mo_dayGoes_38 ?_
        refine V.mldd d_Mo_dayGoes_39 (by omega) ?_
        refine V.aload_n d_Mo_dayGoes_40 rfl ?_
        refine V.iconst_ (nI 0) d_Mo_dayGoes_41 (by decide +kernel) ?_
        refine V.aload_n d_Mo_dayGoes_42 rfl ?_
        refine V.get d_Mo_dayGoes_43 f_Mo_7_Mo mo_o rfl ?_
        refine V.bipush_ (nI 8) d_Mo_dayGoes_46 (by decide +kernel) ?_
        refine V.iload_n d_Mo_dayGoes_48 rfl ?_
        refine V.addN d_Mo_dayGoes_49 ?_
        refine V.mldd d_Mo_dayGoes_50 (by omega) ?_
        refine V.aload_n d_Mo_dayGoes_51 rfl ?_
        refine V.get d_Mo_dayGoes_52 f_Mo_7_Mo mo_o rfl ?_
        refine V.bipush_ (nI 44) d_Mo_dayGoes_55 (by decide +kernel) ?_
        refine V.iload_n d_Mo_dayGoes_57 rfl ?_
        refine V.addN d_Mo_dayGoes_58 ?_
        refine V.mldd d_Mo_dayGoes_59 (by omega) ?_
        refine V.aload_n d_Mo_dayGoes_60 rfl ?_
        refine V.get d_Mo_dayGoes_61 f_Mo_7_Mo mo_o rfl ?_
        refine V.bipush_ (nI 44) d_Mo_dayGoes_64 (by decide +kernel) ?_
        refine V.iload_n d_Mo_dayGoes_66 rfl ?_
        refine V.addN d_Mo_dayGoes_67 ?_
        refine V.mldd d_Mo_dayGoes_68 (by omega) ?_
        refine V.iadd d_Mo_dayGoes_69 ?_
        refine V.aload_n d_Mo_dayGoes_70 rfl ?_
        refine V.get d_Mo_dayGoes_71 f_Mo_7_Mo mo_o rfl ?_
        refine V.iconst_ (nI 1) d_Mo_dayGoes_74 (by decide +kernel) ?_
        refine V.mldd d_Mo_dayGoes_75 (by omega) ?_
        refine V.bipush_ (nI 7) d_Mo_dayGoes_76 (by decide +kernel) ?_
        refine V.irem d_Mo_dayGoes_78 (by decide +kernel) ?_
        refine V.callV4 d_Mo_dayGoes_79 k_Mo_154_Mo_textGives_MoV mo_o (Nat.le_of_ble_eq_true rfl) (by omega) (by omega) (c_Mo_textGives (Or.inl rfl) (hC0.same (fun j hj => dc1_x (by omega))) (fun B1 r1 hB1 er1 => ?_))
        refine V.iadd d_Mo_dayGoes_82 ?_
        refine V.iconst_ (nI 0) d_Mo_dayGoes_83 (by decide +kernel) ?_
        refine V.bipush_ (nI 99) d_Mo_dayGoes_84 (by decide +kernel) ?_
        refine V.callS3 d_Mo_dayGoes_86 k_Mo_151_Mo_heldS (Nat.le_of_ble_eq_true rfl) (by omega) (by omega) (c_Mo_held ?_)
        refine V.mstd d_Mo_dayGoes_89 (by omega) ?_
        refine V.incN d_Mo_dayGoes_90 rfl (by decide) ?_
        refine V.goto (tgt := 2) d_Mo_dayGoes_93 (by decide) ?_
        first
        | (rw [dc1_e c_20] at hn; exact V.lc rfl (hn _ hA1))
        | (rw [← dc1_s hk c_20] at hn
           subst er1
           rw [dc1_x (by omega), dc1_x (by omega), dc1_x (by omega), dc1_x (by omega)]
           exact V.lc rfl (hn _ (fun j h1 h2 => (hB1 j h1 h2).trans (hA1 j h1 h2))))
end
section
theorem two_nat {x y : Int32} (h : two x y = true) : ∃ a b, a ≤ 5 ∧ b ≤ 5 ∧ a ≠ b ∧ x = nI a ∧ y = nI b := by
  unfold two at h
  simp only [Bool.and_eq_true, Bool.not_eq_true', decide_eq_false_iff_not] at h
  obtain ⟨⟨h1, h2⟩, h3⟩ := h
  obtain ⟨a, ha, ea⟩ := wi_nat (by decide) h1
  obtain ⟨b, hb, eb⟩ := wi_nat (by decide) h2
  exact ⟨a, b, ha, hb, fun e => h3 (by rw [ea, eb, e]), ea, eb⟩
theorem tre_nat {x : Int32} {N : Nat} (hN : N ≤ 8) (h : wi x (nI 0) (nI N - nI 1) = true) : ∃ i, i < N ∧ x = nI i := by
  by_cases h0 : N = 0
  · subst h0
    obtain ⟨h1, h2⟩ := wi_t h
    have h3 : nI 0 ≤ nI 0 - nI 1 := Int32.le_trans h1 h2
    exact absurd h3 (by decide +kernel)
  · rw [pk_sub (by omega)] at h
    obtain ⟨i, hi, ei⟩ := wi_nat (by omega) h
    exact ⟨i, by omega, ei⟩
abbrev M_Mo_hold : MD := (⟨"FelledByNamesModel", "hold", "(III)I"⟩, prog_14_method_43_code, 5, (some .int), fun _ => True)
theorem d_Mo_hold_0 : decode prog_14_method_43_code 0 = .ok (.iload_n 1, 1) := by decide +kernel
theorem d_Mo_hold_1 : decode prog_14_method_43_code 1 = .ok (.iload_n 2, 1) := by decide +kernel
theorem d_Mo_hold_2 : decode prog_14_method_43_code 2 = .ok (.invokestatic 189, 3) := by decide +kernel
theorem kB_Mo_areTwo : kB M_Mo_areTwo 2 := ⟨tm 15 (by decide +kernel) rfl, tm 1234 (by decide +kernel) rfl, ⟨by decide, by decide, by decide +kernel⟩, by decide⟩
theorem k_Mo_189_Mo_areTwoS : kS "FelledByNamesModel" 189 M_Mo_areTwo 2 := ⟨kB_Mo_areTwo, tm 1232 (by decide +kernel) rfl, tm 1233 (by decide +kernel) rfl⟩
theorem d_Mo_hold_5 : decode prog_14_method_43_code 5 = .ok (.ifCond .eq 15, 3) := by decide +kernel
theorem d_Mo_hold_20 : decode prog_14_method_43_code 20 = .ok (.aload_n 0, 1) := by decide +kernel
theorem d_Mo_hold_21 : decode prog_14_method_43_code 21 = .ok (.iconst 1, 1) := by decide +kernel
theorem d_Mo_hold_22 : decode prog_14_method_43_code 22 = .ok (.invokevirtual 138, 3) := by decide +kernel
theorem kB_Mo_finds : kB M_Mo_finds 1 := ⟨tm 15 (by decide +kernel) rfl, tm 1149 (by decide +kernel) rfl, ⟨by decide, by decide, by decide +kernel⟩, by decide⟩
theorem k_Mo_138_Mo_finds_MoV : kV "FelledByNamesModel" 138 5 M_Mo_finds 1 := ⟨kB_Mo_finds, tm 1146 (by decide +kernel) rfl, tm 1148 (by decide +kernel) rfl, tp 13 (by decide +kernel) rfl, _, rfl, rfl⟩
theorem d_Mo_hold_25 : decode prog_14_method_43_code 25 = .ok (.ireturn, 1) := by decide +kernel
theorem d_Mo_hold_8 : decode prog_14_method_43_code 8 = .ok (.iload_n 3, 1) := by decide +kernel
theorem d_Mo_hold_9 : decode prog_14_method_43_code 9 = .ok (.i2l, 1) := by decide +kernel
theorem d_Mo_hold_10 : decode prog_14_method_43_code 10 = .ok (.lconst 0, 1) := by decide +kernel
theorem d_Mo_hold_11 : decode prog_14_method_43_code 11 = .ok (.ldc2_w 193, 3) := by decide +kernel
theorem d_Mo_hold_14 : decode prog_14_method_43_code 14 = .ok (.invokestatic 56, 3) := by decide +kernel
theorem d_Mo_hold_17 : decode prog_14_method_43_code 17 = .ok (.ifCond .ne 9, 3) := by decide +kernel
theorem d_Mo_hold_26 : decode prog_14_method_43_code 26 = .ok (.aload_n 0, 1) := by decide +kernel
theorem d_Mo_hold_27 : decode prog_14_method_43_code 27 = .ok (.iload_n 1, 1) := by decide +kernel
theorem d_Mo_hold_28 : decode prog_14_method_43_code 28 = .ok (.iload_n 2, 1) := by decide +kernel
theorem d_Mo_hold_29 : decode prog_14_method_43_code 29 = .ok (.invokevirtual 180, 3) := by decide +kernel
theorem d_Mo_hold_32 : decode prog_14_method_43_code 32 = .ok (.istore 4, 2) := by decide +kernel
theorem d_Mo_hold_34 : decode prog_14_method_43_code 34 = .ok (.aload_n 0, 1) := by decide +kernel
theorem d_Mo_hold_35 : decode prog_14_method_43_code 35 = .ok (.getfield 7, 3) := by decide +kernel
theorem d_Mo_hold_38 : decode prog_14_method_43_code 38 = .ok (.bipush 8, 2) := by decide +kernel
theorem d_Mo_hold_40 : decode prog_14_method_43_code 40 = .ok (.bipush 6, 2) := by decide +kernel
theorem d_Mo_hold_42 : decode prog_14_method_43_code 42 = .ok (.iload_n 1, 1) := by decide +kernel
theorem d_Mo_hold_43 : decode prog_14_method_43_code 43 = .ok (.imul, 1) := by decide +kernel
theorem d_Mo_hold_44 : decode prog_14_method_43_code 44 = .ok (.iadd, 1) := by decide +kernel
theorem d_Mo_hold_45 : decode prog_14_method_43_code 45 = .ok (.iload_n 2, 1) := by decide +kernel
theorem d_Mo_hold_46 : decode prog_14_method_43_code 46 = .ok (.iadd, 1) := by decide +kernel
theorem d_Mo_hold_47 : decode prog_14_method_43_code 47 = .ok (.iload_n 3, 1) := by decide +kernel
theorem d_Mo_hold_48 : decode prog_14_method_43_code 48 = .ok (.iastore, 1) := by decide +kernel
theorem d_Mo_hold_49 : decode prog_14_method_43_code 49 = .ok (.iload 4, 2) := by decide +kernel
theorem d_Mo_hold_51 : decode prog_14_method_43_code 51 = .ok (.ireturn, 1) := by decide +kernel
set_option maxRecDepth 100000 in
theorem c_Mo_hold {x y v : Int32} {l : Launch} {d q n : Nat} {D : Nat → Int32} {A : Nat → Nat → Int32} {S : Nat → Int32} {h0 : HP} {Q : QT} (hE : (two x y && wi v (nI 0) (nI 99)) = false → Q (some (.int (-1000000000 - nI 1))) n (mo q D (uA A 3 (upd (A 3) 1 (A 3 1 + nI 1))) S h0)) (hOk : ∀ a b, a ≤ 5 → b ≤ 5 → a ≠ b → x = nI a → y = nI b → wi v (nI 0) (nI 99) = true → Q (some (.int (D (8 + 6 * a + b)))) n (mo q (upd D (8 + 6 * a + b) v) A S h0)) : Ct l M_Mo_hold (d + 3) 0 0 [.ref q, .int x, .int y, .int v] n (mo q D A S h0) Q := by
  refine Ct.of (fun _ => trivial) (by decide) (Nat.le_of_ble_eq_true rfl) ?_
  refine V.iload_n d_Mo_hold_0 rfl ?_
  refine V.iload_n d_Mo_hold_1 rfl ?_
  refine V.callS2 d_Mo_hold_2 k_Mo_189_Mo_areTwoS (Nat.le_of_ble_eq_true rfl) (by omega) (by omega) (c_Mo_areTwo ?_)
  refine V.ifeqB (tgt := 20) d_Mo_hold_5 (by decide) (fun c_5 => ?_) (fun c_5 => ?_)
  · skip
    refine V.aload_n d_Mo_hold_20 rfl ?_
    refine V.iconst_ (nI 1) d_Mo_hold_21 (by decide +kernel) ?_
    refine V.callV1 d_Mo_hold_22 k_Mo_138_Mo_finds_MoV mo_o (Nat.le_of_ble_eq_true rfl) (by omega) (by omega) (c_Mo_finds (by omega) ?_)
    refine V.iret d_Mo_hold_25 rfl (Nat.le_of_ble_eq_true rfl) (Nat.le_of_ble_eq_true rfl) ?_
    exact hE (by simp only [c_5, Bool.and_false, Bool.false_and, Bool.and_true, Bool.true_and])
  · skip
    refine V.iload_n d_Mo_hold_8 rfl ?_
    refine V.i2l d_Mo_hold_9 ?_
    refine V.lconst_ ((nI 0).toInt64) d_Mo_hold_10 (by decide +kernel) ?_
    refine V.ldc2 (v := 99) d_Mo_hold_11 (tm 1239 (by decide +kernel) rfl) ?_
    refine V.eqS (st' := .long ((nI 99).toInt64) :: _) rfl ?_
    refine V.callS3 d_Mo_hold_14 k_Mo_56_Mo_inS (Nat.le_of_ble_eq_true rfl) (by omega) (by omega) (c_Mo_in ?_)
    refine V.ifneB (tgt := 26) d_Mo_hold_17 (by decide) (fun c_17 => ?_) (fun c_17 => ?_)
    · skip
      obtain ⟨a, b, ha, hb, hab, rfl, rfl⟩ := two_nat c_5
      refine V.aload_n d_Mo_hold_26 rfl ?_
      refine V.iload_n d_Mo_hold_27 rfl ?_
      refine V.iload_n d_Mo_hold_28 rfl ?_
      refine V.callV2 d_Mo_hold_29 k_Mo_180_Mo_hold0_MoV mo_o (Nat.le_of_ble_eq_true rfl) (by omega) (by omega) (c_Mo_hold0 (by omega) ?_)
      refine V.istore d_Mo_hold_32 (by decide) ?_
      refine V.aload_n d_Mo_hold_34 rfl ?_
      refine V.get d_Mo_hold_35 f_Mo_7_Mo mo_o rfl ?_
      refine V.bipush_ (nI 8) d_Mo_hold_38 (by decide +kernel) ?_
      refine V.bipush_ (nI 6) d_Mo_hold_40 (by decide +kernel) ?_
      refine V.iload_n d_Mo_hold_42 rfl ?_
      refine V.mulN d_Mo_hold_43 ?_
      refine V.addN d_Mo_hold_44 ?_
      refine V.iload_n d_Mo_hold_45 rfl ?_
      refine V.addN d_Mo_hold_46 ?_
      refine V.iload_n d_Mo_hold_47 rfl ?_
      refine V.mstd d_Mo_hold_48 (by omega) ?_
      refine V.iload d_Mo_hold_49 rfl ?_
      refine V.iret d_Mo_hold_51 rfl (Nat.le_of_ble_eq_true rfl) (Nat.le_of_ble_eq_true rfl) ?_
      exact hOk a b ha hb hab rfl rfl c_17
    · skip
      refine V.aload_n d_Mo_hold_20 rfl ?_
      refine V.iconst_ (nI 1) d_Mo_hold_21 (by decide +kernel) ?_
      refine V.callV1 d_Mo_hold_22 k_Mo_138_Mo_finds_MoV mo_o (Nat.le_of_ble_eq_true rfl) (by omega) (by omega) (c_Mo_finds (by omega) ?_)
      refine V.iret d_Mo_hold_25 rfl (Nat.le_of_ble_eq_true rfl) (Nat.le_of_ble_eq_true rfl) ?_
      exact hE (by simp only [c_5, c_17, Bool.and_false, Bool.false_and, Bool.and_true, Bool.true_and])
abbrev M_Mo_holds : MD := (⟨"FelledByNamesModel", "holds", "(II)I"⟩, prog_14_method_44_code, 3, (some .int), fun _ => True)
theorem d_Mo_holds_0 : decode prog_14_method_44_code 0 = .ok (.iload_n 1, 1) := by decide +kernel
theorem d_Mo_holds_1 : decode prog_14_method_44_code 1 = .ok (.iload_n 2, 1) := by decide +kernel
theorem d_Mo_holds_2 : decode prog_14_method_44_code 2 = .ok (.invokestatic 189, 3) := by decide +kernel
theorem d_Mo_holds_5 : decode prog_14_method_44_code 5 = .ok (.ifCond .eq 12, 3) := by decide +kernel
theorem d_Mo_holds_17 : decode prog_14_method_44_code 17 = .ok (.aload_n 0, 1) := by decide +kernel
theorem d_Mo_holds_18 : decode prog_14_method_44_code 18 = .ok (.iconst 1, 1) := by decide +kernel
theorem d_Mo_holds_19 : decode prog_14_method_44_code 19 = .ok (.invokevirtual 138, 3) := by decide +kernel
theorem d_Mo_holds_22 : decode prog_14_method_44_code 22 = .ok (.ireturn, 1) := by decide +kernel
theorem d_Mo_holds_8 : decode prog_14_method_44_code 8 = .ok (.aload_n 0, 1) := by decide +kernel
theorem d_Mo_holds_9 : decode prog_14_method_44_code 9 = .ok (.iload_n 1, 1) := by decide +kernel
theorem d_Mo_holds_10 : decode prog_14_method_44_code 10 = .ok (.iload_n 2, 1) := by decide +kernel
theorem d_Mo_holds_11 : decode prog_14_method_44_code 11 = .ok (.invokevirtual 180, 3) := by decide +kernel
theorem d_Mo_holds_14 : decode prog_14_method_44_code 14 = .ok (.goto 8, 3) := by decide +kernel
set_option maxRecDepth 100000 in
theorem c_Mo_holds {x y : Int32} {l : Launch} {d q n : Nat} {D : Nat → Int32} {A : Nat → Nat → Int32} {S : Nat → Int32} {h0 : HP} {Q : QT} (hE : two x y = false → Q (some (.int (-1000000000 - nI 1))) n (mo q D (uA A 3 (upd (A 3) 1 (A 3 1 + nI 1))) S h0)) (hOk : ∀ a b, a ≤ 5 → b ≤ 5 → a ≠ b → x = nI a → y = nI b → Q (some (.int (D (8 + 6 * a + b)))) n (mo q D A S h0)) : Ct l M_Mo_holds (d + 3) 0 0 [.ref q, .int x, .int y] n (mo q D A S h0) Q := by
  refine Ct.of (fun _ => trivial) (by decide) (Nat.le_of_ble_eq_true rfl) ?_
  refine V.iload_n d_Mo_holds_0 rfl ?_
  refine V.iload_n d_Mo_holds_1 rfl ?_
  refine V.callS2 d_Mo_holds_2 k_Mo_189_Mo_areTwoS (Nat.le_of_ble_eq_true rfl) (by omega) (by omega) (c_Mo_areTwo ?_)
  refine V.ifeqB (tgt := 17) d_Mo_holds_5 (by decide) (fun c_5 => ?_) (fun c_5 => ?_)
  · skip
    refine V.aload_n d_Mo_holds_17 rfl ?_
    refine V.iconst_ (nI 1) d_Mo_holds_18 (by decide +kernel) ?_
    refine V.callV1 d_Mo_holds_19 k_Mo_138_Mo_finds_MoV mo_o (Nat.le_of_ble_eq_true rfl) (by omega) (by omega) (c_Mo_finds (by omega) ?_)
    refine V.iret d_Mo_holds_22 rfl (Nat.le_of_ble_eq_true rfl) (Nat.le_of_ble_eq_true rfl) ?_
    first | exact hOk a b ha hb hab rfl rfl | exact hE c_5
  · skip
    obtain ⟨a, b, ha, hb, hab, rfl, rfl⟩ := two_nat c_5
    refine V.aload_n d_Mo_holds_8 rfl ?_
    refine V.iload_n d_Mo_holds_9 rfl ?_
    refine V.iload_n d_Mo_holds_10 rfl ?_
    refine V.callV2 d_Mo_holds_11 k_Mo_180_Mo_hold0_MoV mo_o (Nat.le_of_ble_eq_true rfl) (by omega) (by omega) (c_Mo_hold0 (by omega) ?_)
    refine V.goto (tgt := 22) d_Mo_holds_14 (by decide) ?_
    refine V.iret d_Mo_holds_22 rfl (Nat.le_of_ble_eq_true rfl) (Nat.le_of_ble_eq_true rfl) ?_
    first | exact hOk a b ha hb hab rfl rfl | exact hE c_5
abbrev M_Mo_talk : MD := (⟨"FelledByNamesModel", "talk", "(II)I"⟩, prog_14_method_45_code, 4, (some .int), fun _ => True)
theorem d_Mo_talk_0 : decode prog_14_method_45_code 0 = .ok (.iload_n 1, 1) := by decide +kernel
theorem d_Mo_talk_1 : decode prog_14_method_45_code 1 = .ok (.invokestatic 62, 3) := by decide +kernel
theorem d_Mo_talk_4 : decode prog_14_method_45_code 4 = .ok (.ifCond .eq 15, 3) := by decide +kernel
theorem d_Mo_talk_19 : decode prog_14_method_45_code 19 = .ok (.aload_n 0, 1) := by decide +kernel
theorem d_Mo_talk_20 : decode prog_14_method_45_code 20 = .ok (.iconst 1, 1) := by decide +kernel
theorem d_Mo_talk_21 : decode prog_14_method_45_code 21 = .ok (.invokevirtual 138, 3) := by decide +kernel
theorem d_Mo_talk_24 : decode prog_14_method_45_code 24 = .ok (.ireturn, 1) := by decide +kernel
theorem d_Mo_talk_7 : decode prog_14_method_45_code 7 = .ok (.iload_n 2, 1) := by decide +kernel
theorem d_Mo_talk_8 : decode prog_14_method_45_code 8 = .ok (.i2l, 1) := by decide +kernel
theorem d_Mo_talk_9 : decode prog_14_method_45_code 9 = .ok (.lconst 0, 1) := by decide +kernel
theorem d_Mo_talk_10 : decode prog_14_method_45_code 10 = .ok (.ldc2_w 195, 3) := by decide +kernel
theorem d_Mo_talk_13 : decode prog_14_method_45_code 13 = .ok (.invokestatic 56, 3) := by decide +kernel
theorem d_Mo_talk_16 : decode prog_14_method_45_code 16 = .ok (.ifCond .ne 9, 3) := by decide +kernel
theorem d_Mo_talk_25 : decode prog_14_method_45_code 25 = .ok (.aload_n 0, 1) := by decide +kernel
theorem d_Mo_talk_26 : decode prog_14_method_45_code 26 = .ok (.getfield 7, 3) := by decide +kernel
theorem d_Mo_talk_29 : decode prog_14_method_45_code 29 = .ok (.bipush 44, 2) := by decide +kernel
theorem d_Mo_talk_31 : decode prog_14_method_45_code 31 = .ok (.iload_n 1, 1) := by decide +kernel
theorem d_Mo_talk_32 : decode prog_14_method_45_code 32 = .ok (.iadd, 1) := by decide +kernel
theorem d_Mo_talk_33 : decode prog_14_method_45_code 33 = .ok (.iaload, 1) := by decide +kernel
theorem d_Mo_talk_34 : decode prog_14_method_45_code 34 = .ok (.istore_n 3, 1) := by decide +kernel
theorem d_Mo_talk_35 : decode prog_14_method_45_code 35 = .ok (.aload_n 0, 1) := by decide +kernel
theorem d_Mo_talk_36 : decode prog_14_method_45_code 36 = .ok (.getfield 7, 3) := by decide +kernel
theorem d_Mo_talk_39 : decode prog_14_method_45_code 39 = .ok (.bipush 44, 2) := by decide +kernel
theorem d_Mo_talk_41 : decode prog_14_method_45_code 41 = .ok (.iload_n 1, 1) := by decide +kernel
theorem d_Mo_talk_42 : decode prog_14_method_45_code 42 = .ok (.iadd, 1) := by decide +kernel
theorem d_Mo_talk_43 : decode prog_14_method_45_code 43 = .ok (.iload_n 2, 1) := by decide +kernel
theorem d_Mo_talk_44 : decode prog_14_method_45_code 44 = .ok (.iastore, 1) := by decide +kernel
theorem d_Mo_talk_45 : decode prog_14_method_45_code 45 = .ok (.iload_n 3, 1) := by decide +kernel
theorem d_Mo_talk_46 : decode prog_14_method_45_code 46 = .ok (.ireturn, 1) := by decide +kernel
set_option maxRecDepth 100000 in
theorem c_Mo_talk {x v : Int32} {l : Launch} {d q n : Nat} {D : Nat → Int32} {A : Nat → Nat → Int32} {S : Nat → Int32} {h0 : HP} {Q : QT} (hE : (wi x (nI 0) (nI 5) && wi v (nI 0) (nI 9)) = false → Q (some (.int (-1000000000 - nI 1))) n (mo q D (uA A 3 (upd (A 3) 1 (A 3 1 + nI 1))) S h0)) (hOk : ∀ a, a ≤ 5 → x = nI a → wi v (nI 0) (nI 9) = true → Q (some (.int (D (44 + a)))) n (mo q (upd D (44 + a) v) A S h0)) : Ct l M_Mo_talk (d + 2) 0 0 [.ref q, .int x, .int v] n (mo q D A S h0) Q := by
  refine Ct.of (fun _ => trivial) (by decide) (Nat.le_of_ble_eq_true rfl) ?_
  refine V.iload_n d_Mo_talk_0 rfl ?_
  refine V.callS1 d_Mo_talk_1 k_Mo_62_Mo_isPersonS (Nat.le_of_ble_eq_true rfl) (by omega) (by omega) (c_Mo_isPerson ?_)
  refine V.ifeqB (tgt := 19) d_Mo_talk_4 (by decide) (fun c_4 => ?_) (fun c_4 => ?_)
  · skip
    refine V.aload_n d_Mo_talk_19 rfl ?_
    refine V.iconst_ (nI 1) d_Mo_talk_20 (by decide +kernel) ?_
    refine V.callV1 d_Mo_talk_21 k_Mo_138_Mo_finds_MoV mo_o (Nat.le_of_ble_eq_true rfl) (by omega) (by omega) (c_Mo_finds (by omega) ?_)
    refine V.iret d_Mo_talk_24 rfl (Nat.le_of_ble_eq_true rfl) (Nat.le_of_ble_eq_true rfl) ?_
    exact hE (by simp only [c_4, Bool.and_false, Bool.false_and, Bool.and_true, Bool.true_and])
  · skip
    refine V.iload_n d_Mo_talk_7 rfl ?_
    refine V.i2l d_Mo_talk_8 ?_
    refine V.lconst_ ((nI 0).toInt64) d_Mo_talk_9 (by decide +kernel) ?_
    refine V.ldc2 (v := 9) d_Mo_talk_10 (tm 1252 (by decide +kernel) rfl) ?_
    refine V.eqS (st' := .long ((nI 9).toInt64) :: _) rfl ?_
    refine V.callS3 d_Mo_talk_13 k_Mo_56_Mo_inS (Nat.le_of_ble_eq_true rfl) (by omega) (by omega) (c_Mo_in ?_)
    refine V.ifneB (tgt := 25) d_Mo_talk_16 (by decide) (fun c_16 => ?_) (fun c_16 => ?_)
    · skip
      obtain ⟨a, ha, rfl⟩ := wi_nat (by decide) c_4
      refine V.aload_n d_Mo_talk_25 rfl ?_
      refine V.get d_Mo_talk_26 f_Mo_7_Mo mo_o rfl ?_
      refine V.bipush_ (nI 44) d_Mo_talk_29 (by decide +kernel) ?_
      refine V.iload_n d_Mo_talk_31 rfl ?_
      refine V.addN d_Mo_talk_32 ?_
      refine V.mldd d_Mo_talk_33 (by omega) ?_
      refine V.istore_n d_Mo_talk_34 (by decide) ?_
      refine V.aload_n d_Mo_talk_35 rfl ?_
      refine V.get d_Mo_talk_36 f_Mo_7_Mo mo_o rfl ?_
      refine V.bipush_ (nI 44) d_Mo_talk_39 (by decide +kernel) ?_
      refine V.iload_n d_Mo_talk_41 rfl ?_
      refine V.addN d_Mo_talk_42 ?_
      refine V.iload_n d_Mo_talk_43 rfl ?_
      refine V.mstd d_Mo_talk_44 (by omega) ?_
      refine V.iload_n d_Mo_talk_45 rfl ?_
      refine V.iret d_Mo_talk_46 rfl (Nat.le_of_ble_eq_true rfl) (Nat.le_of_ble_eq_true rfl) ?_
      exact hOk a ha rfl c_16
    · skip
      refine V.aload_n d_Mo_talk_19 rfl ?_
      refine V.iconst_ (nI 1) d_Mo_talk_20 (by decide +kernel) ?_
      refine V.callV1 d_Mo_talk_21 k_Mo_138_Mo_finds_MoV mo_o (Nat.le_of_ble_eq_true rfl) (by omega) (by omega) (c_Mo_finds (by omega) ?_)
      refine V.iret d_Mo_talk_24 rfl (Nat.le_of_ble_eq_true rfl) (Nat.le_of_ble_eq_true rfl) ?_
      exact hE (by simp only [c_4, c_16, Bool.and_false, Bool.false_and, Bool.and_true, Bool.true_and])
abbrev M_Mo_talkOf : MD := (⟨"FelledByNamesModel", "talkOf", "(I)I"⟩, prog_14_method_46_code, 2, (some .int), fun _ => True)
theorem d_Mo_talkOf_0 : decode prog_14_method_46_code 0 = .ok (.iload_n 1, 1) := by decide +kernel
theorem d_Mo_talkOf_1 : decode prog_14_method_46_code 1 = .ok (.invokestatic 62, 3) := by decide +kernel
theorem d_Mo_talkOf_4 : decode prog_14_method_46_code 4 = .ok (.ifCond .eq 15, 3) := by decide +kernel
theorem d_Mo_talkOf_19 : decode prog_14_method_46_code 19 = .ok (.aload_n 0, 1) := by decide +kernel
theorem d_Mo_talkOf_20 : decode prog_14_method_46_code 20 = .ok (.iconst 1, 1) := by decide +kernel
theorem d_Mo_talkOf_21 : decode prog_14_method_46_code 21 = .ok (.invokevirtual 138, 3) := by decide +kernel
theorem d_Mo_talkOf_24 : decode prog_14_method_46_code 24 = .ok (.ireturn, 1) := by decide +kernel
theorem d_Mo_talkOf_7 : decode prog_14_method_46_code 7 = .ok (.aload_n 0, 1) := by decide +kernel
theorem d_Mo_talkOf_8 : decode prog_14_method_46_code 8 = .ok (.getfield 7, 3) := by decide +kernel
theorem d_Mo_talkOf_11 : decode prog_14_method_46_code 11 = .ok (.bipush 44, 2) := by decide +kernel
theorem d_Mo_talkOf_13 : decode prog_14_method_46_code 13 = .ok (.iload_n 1, 1) := by decide +kernel
theorem d_Mo_talkOf_14 : decode prog_14_method_46_code 14 = .ok (.iadd, 1) := by decide +kernel
theorem d_Mo_talkOf_15 : decode prog_14_method_46_code 15 = .ok (.iaload, 1) := by decide +kernel
theorem d_Mo_talkOf_16 : decode prog_14_method_46_code 16 = .ok (.goto 8, 3) := by decide +kernel
set_option maxRecDepth 100000 in
theorem c_Mo_talkOf {x : Int32} {l : Launch} {d q n : Nat} {D : Nat → Int32} {A : Nat → Nat → Int32} {S : Nat → Int32} {h0 : HP} {Q : QT} (hE : wi x (nI 0) (nI 5) = false → Q (some (.int (-1000000000 - nI 1))) n (mo q D (uA A 3 (upd (A 3) 1 (A 3 1 + nI 1))) S h0)) (hOk : ∀ a, a ≤ 5 → x = nI a → Q (some (.int (D (44 + a)))) n (mo q D A S h0)) : Ct l M_Mo_talkOf (d + 2) 0 0 [.ref q, .int x] n (mo q D A S h0) Q := by
  refine Ct.of (fun _ => trivial) (by decide) (Nat.le_of_ble_eq_true rfl) ?_
  refine V.iload_n d_Mo_talkOf_0 rfl ?_
  refine V.callS1 d_Mo_talkOf_1 k_Mo_62_Mo_isPersonS (Nat.le_of_ble_eq_true rfl) (by omega) (by omega) (c_Mo_isPerson ?_)
  refine V.ifeqB (tgt := 19) d_Mo_talkOf_4 (by decide) (fun c_4 => ?_) (fun c_4 => ?_)
  · skip
    refine V.aload_n d_Mo_talkOf_19 rfl ?_
    refine V.iconst_ (nI 1) d_Mo_talkOf_20 (by decide +kernel) ?_
    refine V.callV1 d_Mo_talkOf_21 k_Mo_138_Mo_finds_MoV mo_o (Nat.le_of_ble_eq_true rfl) (by omega) (by omega) (c_Mo_finds (by omega) ?_)
    refine V.iret d_Mo_talkOf_24 rfl (Nat.le_of_ble_eq_true rfl) (Nat.le_of_ble_eq_true rfl) ?_
    first | exact hOk a ha rfl | exact hE c_4
  · skip
    obtain ⟨a, ha, rfl⟩ := wi_nat (by decide) c_4
    refine V.aload_n d_Mo_talkOf_7 rfl ?_
    refine V.get d_Mo_talkOf_8 f_Mo_7_Mo mo_o rfl ?_
    refine V.bipush_ (nI 44) d_Mo_talkOf_11 (by decide +kernel) ?_
    refine V.iload_n d_Mo_talkOf_13 rfl ?_
    refine V.addN d_Mo_talkOf_14 ?_
    refine V.mldd d_Mo_talkOf_15 (by omega) ?_
    refine V.goto (tgt := 24) d_Mo_talkOf_16 (by decide) ?_
    refine V.iret d_Mo_talkOf_24 rfl (Nat.le_of_ble_eq_true rfl) (Nat.le_of_ble_eq_true rfl) ?_
    first | exact hOk a ha rfl | exact hE c_4
abbrev M_Mo_set : MD := (⟨"FelledByNamesModel", "set", "(II)I"⟩, prog_14_method_47_code, 4, (some .int), fun _ => True)
theorem d_Mo_set_0 : decode prog_14_method_47_code 0 = .ok (.iload_n 1, 1) := by decide +kernel
theorem d_Mo_set_1 : decode prog_14_method_47_code 1 = .ok (.i2l, 1) := by decide +kernel
theorem d_Mo_set_2 : decode prog_14_method_47_code 2 = .ok (.lconst 0, 1) := by decide +kernel
theorem d_Mo_set_3 : decode prog_14_method_47_code 3 = .ok (.ldc2_w 197, 3) := by decide +kernel
theorem d_Mo_set_6 : decode prog_14_method_47_code 6 = .ok (.invokestatic 56, 3) := by decide +kernel
theorem d_Mo_set_9 : decode prog_14_method_47_code 9 = .ok (.ifCond .eq 36, 3) := by decide +kernel
theorem d_Mo_set_45 : decode prog_14_method_47_code 45 = .ok (.aload_n 0, 1) := by decide +kernel
theorem d_Mo_set_46 : decode prog_14_method_47_code 46 = .ok (.iconst 1, 1) := by decide +kernel
theorem d_Mo_set_47 : decode prog_14_method_47_code 47 = .ok (.invokevirtual 138, 3) := by decide +kernel
theorem d_Mo_set_50 : decode prog_14_method_47_code 50 = .ok (.ireturn, 1) := by decide +kernel
theorem d_Mo_set_12 : decode prog_14_method_47_code 12 = .ok (.iload_n 2, 1) := by decide +kernel
theorem d_Mo_set_13 : decode prog_14_method_47_code 13 = .ok (.i2l, 1) := by decide +kernel
theorem d_Mo_set_14 : decode prog_14_method_47_code 14 = .ok (.lconst 0, 1) := by decide +kernel
theorem d_Mo_set_15 : decode prog_14_method_47_code 15 = .ok (.iload_n 1, 1) := by decide +kernel
theorem d_Mo_set_16 : decode prog_14_method_47_code 16 = .ok (.ifCond .ne 9, 3) := by decide +kernel
theorem d_Mo_set_25 : decode prog_14_method_47_code 25 = .ok (.iload_n 1, 1) := by decide +kernel
theorem d_Mo_set_26 : decode prog_14_method_47_code 26 = .ok (.iconst 1, 1) := by decide +kernel
theorem d_Mo_set_27 : decode prog_14_method_47_code 27 = .ok (.if_icmp .ne 9, 3) := by decide +kernel
theorem d_Mo_set_36 : decode prog_14_method_47_code 36 = .ok (.ldc2_w 203, 3) := by decide +kernel
theorem d_Mo_set_39 : decode prog_14_method_47_code 39 = .ok (.invokestatic 56, 3) := by decide +kernel
theorem d_Mo_set_42 : decode prog_14_method_47_code 42 = .ok (.ifCond .ne 9, 3) := by decide +kernel
theorem d_Mo_set_51 : decode prog_14_method_47_code 51 = .ok (.aload_n 0, 1) := by decide +kernel
theorem d_Mo_set_52 : decode prog_14_method_47_code 52 = .ok (.getfield 7, 3) := by decide +kernel
theorem d_Mo_set_55 : decode prog_14_method_47_code 55 = .ok (.iconst 2, 1) := by decide +kernel
theorem d_Mo_set_56 : decode prog_14_method_47_code 56 = .ok (.iload_n 1, 1) := by decide +kernel
theorem d_Mo_set_57 : decode prog_14_method_47_code 57 = .ok (.iadd, 1) := by decide +kernel
theorem d_Mo_set_58 : decode prog_14_method_47_code 58 = .ok (.iaload, 1) := by decide +kernel
theorem d_Mo_set_59 : decode prog_14_method_47_code 59 = .ok (.istore_n 3, 1) := by decide +kernel
theorem d_Mo_set_60 : decode prog_14_method_47_code 60 = .ok (.aload_n 0, 1) := by decide +kernel
theorem d_Mo_set_61 : decode prog_14_method_47_code 61 = .ok (.getfield 7, 3) := by decide +kernel
theorem d_Mo_set_64 : decode prog_14_method_47_code 64 = .ok (.iconst 2, 1) := by decide +kernel
theorem d_Mo_set_65 : decode prog_14_method_47_code 65 = .ok (.iload_n 1, 1) := by decide +kernel
theorem d_Mo_set_66 : decode prog_14_method_47_code 66 = .ok (.iadd, 1) := by decide +kernel
theorem d_Mo_set_67 : decode prog_14_method_47_code 67 = .ok (.iload_n 2, 1) := by decide +kernel
theorem d_Mo_set_68 : decode prog_14_method_47_code 68 = .ok (.iastore, 1) := by decide +kernel
theorem d_Mo_set_69 : decode prog_14_method_47_code 69 = .ok (.iload_n 3, 1) := by decide +kernel
theorem d_Mo_set_70 : decode prog_14_method_47_code 70 = .ok (.ireturn, 1) := by decide +kernel
theorem d_Mo_set_30 : decode prog_14_method_47_code 30 = .ok (.ldc2_w 201, 3) := by decide +kernel
theorem d_Mo_set_33 : decode prog_14_method_47_code 33 = .ok (.goto 6, 3) := by decide +kernel
theorem d_Mo_set_19 : decode prog_14_method_47_code 19 = .ok (.ldc2_w 199, 3) := by decide +kernel
theorem d_Mo_set_22 : decode prog_14_method_47_code 22 = .ok (.goto 17, 3) := by decide +kernel
set_option maxRecDepth 100000 in
theorem c_Mo_set {x v : Int32} {l : Launch} {d q n : Nat} {D : Nat → Int32} {A : Nat → Nat → Int32} {S : Nat → Int32} {h0 : HP} {Q : QT} (hE : (wi x (nI 0) (nI 2) && wi v (nI 0) (if x = nI 0 then nI 15 else if x = nI 1 then nI 999 else nI 99999)) = false → Q (some (.int (-1000000000 - nI 1))) n (mo q D (uA A 3 (upd (A 3) 1 (A 3 1 + nI 1))) S h0)) (hOk : ∀ a, a ≤ 2 → x = nI a → wi v (nI 0) (if x = nI 0 then nI 15 else if x = nI 1 then nI 999 else nI 99999) = true → Q (some (.int (D (2 + a)))) n (mo q (upd D (2 + a) v) A S h0)) : Ct l M_Mo_set (d + 2) 0 0 [.ref q, .int x, .int v] n (mo q D A S h0) Q := by
  refine Ct.of (fun _ => trivial) (by decide) (Nat.le_of_ble_eq_true rfl) ?_
  refine V.iload_n d_Mo_set_0 rfl ?_
  refine V.i2l d_Mo_set_1 ?_
  refine V.lconst_ ((nI 0).toInt64) d_Mo_set_2 (by decide +kernel) ?_
  refine V.ldc2 (v := 2) d_Mo_set_3 (tm 1261 (by decide +kernel) rfl) ?_
  refine V.eqS (st' := .long ((nI 2).toInt64) :: _) rfl ?_
  refine V.callS3 d_Mo_set_6 k_Mo_56_Mo_inS (Nat.le_of_ble_eq_true rfl) (by omega) (by omega) (c_Mo_in ?_)
  refine V.ifeqB (tgt := 45) d_Mo_set_9 (by decide) (fun c_9 => ?_) (fun c_9 => ?_)
  · skip
    refine V.aload_n d_Mo_set_45 rfl ?_
    refine V.iconst_ (nI 1) d_Mo_set_46 (by decide +kernel) ?_
    refine V.callV1 d_Mo_set_47 k_Mo_138_Mo_finds_MoV mo_o (Nat.le_of_ble_eq_true rfl) (by omega) (by omega) (c_Mo_finds (by omega) ?_)
    refine V.iret d_Mo_set_50 rfl (Nat.le_of_ble_eq_true rfl) (Nat.le_of_ble_eq_true rfl) ?_
    exact hE (by first | (rw [hif, c_42, Bool.and_false]; done) | (rw [c_9, Bool.false_and]))
  · skip
    refine V.iload_n d_Mo_set_12 rfl ?_
    refine V.i2l d_Mo_set_13 ?_
    refine V.lconst_ ((nI 0).toInt64) d_Mo_set_14 (by decide +kernel) ?_
    refine V.iload_n d_Mo_set_15 rfl ?_
    refine V.if_ne (tgt := 25) d_Mo_set_16 (by decide) (fun c_16 => ?_) (fun c_16 => ?_)
    · skip
      refine V.iload_n d_Mo_set_25 rfl ?_
      refine V.iconst_ (nI 1) d_Mo_set_26 (by decide +kernel) ?_
      refine V.icmp_ne (tgt := 36) d_Mo_set_27 (by decide) (fun c_27 => ?_) (fun c_27 => ?_)
      · skip
        have hif : (if x = nI 0 then nI 15 else if x = nI 1 then nI 999 else nI 99999) = nI 99999 := by
          first | (rw [if_pos (show x = nI 0 from c_16)]; done) | (rw [if_neg (show ¬ x = nI 0 from c_16), if_pos c_27]; done) | rw [if_neg (show ¬ x = nI 0 from c_16), if_neg c_27]
        refine V.ldc2 (v := 99999) d_Mo_set_36 (tm 1264 (by decide +kernel) rfl) ?_
        refine V.eqS (st' := .long ((nI 99999).toInt64) :: _) rfl ?_
        refine V.callS3 d_Mo_set_39 k_Mo_56_Mo_inS (Nat.le_of_ble_eq_true rfl) (by omega) (by omega) (c_Mo_in ?_)
        refine V.ifneB (tgt := 51) d_Mo_set_42 (by decide) (fun c_42 => ?_) (fun c_42 => ?_)
        · skip
          rw [← hif] at c_42
          obtain ⟨a, ha, hxa⟩ := wi_nat (by decide) c_9
          have hOk' := hOk a ha hxa c_42
          subst hxa
          refine V.aload_n d_Mo_set_51 rfl ?_
          refine V.get d_Mo_set_52 f_Mo_7_Mo mo_o rfl ?_
          refine V.iconst_ (nI 2) d_Mo_set_55 (by decide +kernel) ?_
          refine V.iload_n d_Mo_set_56 rfl ?_
          refine V.addN d_Mo_set_57 ?_
          refine V.mldd d_Mo_set_58 (by omega) ?_
          refine V.istore_n d_Mo_set_59 (by decide) ?_
          refine V.aload_n d_Mo_set_60 rfl ?_
          refine V.get d_Mo_set_61 f_Mo_7_Mo mo_o rfl ?_
          refine V.iconst_ (nI 2) d_Mo_set_64 (by decide +kernel) ?_
          refine V.iload_n d_Mo_set_65 rfl ?_
          refine V.addN d_Mo_set_66 ?_
          refine V.iload_n d_Mo_set_67 rfl ?_
          refine V.mstd d_Mo_set_68 (by omega) ?_
          refine V.iload_n d_Mo_set_69 rfl ?_
          refine V.iret d_Mo_set_70 rfl (Nat.le_of_ble_eq_true rfl) (Nat.le_of_ble_eq_true rfl) ?_
          exact hOk'
        · skip
          refine V.aload_n d_Mo_set_45 rfl ?_
          refine V.iconst_ (nI 1) d_Mo_set_46 (by decide +kernel) ?_
          refine V.callV1 d_Mo_set_47 k_Mo_138_Mo_finds_MoV mo_o (Nat.le_of_ble_eq_true rfl) (by omega) (by omega) (c_Mo_finds (by omega) ?_)
          refine V.iret d_Mo_set_50 rfl (Nat.le_of_ble_eq_true rfl) (Nat.le_of_ble_eq_true rfl) ?_
          exact hE (by first | (rw [hif, c_42, Bool.and_false]; done) | (rw [c_9, Bool.false_and]))
      · skip
        have hif : (if x = nI 0 then nI 15 else if x = nI 1 then nI 999 else nI 99999) = nI 999 := by
          first | (rw [if_pos (show x = nI 0 from c_16)]; done) | (rw [if_neg (show ¬ x = nI 0 from c_16), if_pos c_27]; done) | rw [if_neg (show ¬ x = nI 0 from c_16), if_neg c_27]
        refine V.ldc2 (v := 999) d_Mo_set_30 (tm 1263 (by decide +kernel) rfl) ?_
        refine V.eqS (st' := .long ((nI 999).toInt64) :: _) rfl ?_
        refine V.goto (tgt := 39) d_Mo_set_33 (by decide) ?_
        refine V.callS3 d_Mo_set_39 k_Mo_56_Mo_inS (Nat.le_of_ble_eq_true rfl) (by omega) (by omega) (c_Mo_in ?_)
        refine V.ifneB (tgt := 51) d_Mo_set_42 (by decide) (fun c_42 => ?_) (fun c_42 => ?_)
        · skip
          rw [← hif] at c_42
          obtain ⟨a, ha, hxa⟩ := wi_nat (by decide) c_9
          have hOk' := hOk a ha hxa c_42
          subst hxa
          refine V.aload_n d_Mo_set_51 rfl ?_
          refine V.get d_Mo_set_52 f_Mo_7_Mo mo_o rfl ?_
          refine V.iconst_ (nI 2) d_Mo_set_55 (by decide +kernel) ?_
          refine V.iload_n d_Mo_set_56 rfl ?_
          refine V.addN d_Mo_set_57 ?_
          refine V.mldd d_Mo_set_58 (by omega) ?_
          refine V.istore_n d_Mo_set_59 (by decide) ?_
          refine V.aload_n d_Mo_set_60 rfl ?_
          refine V.get d_Mo_set_61 f_Mo_7_Mo mo_o rfl ?_
          refine V.iconst_ (nI 2) d_Mo_set_64 (by decide +kernel) ?_
          refine V.iload_n d_Mo_set_65 rfl ?_
          refine V.addN d_Mo_set_66 ?_
          refine V.iload_n d_Mo_set_67 rfl ?_
          refine V.mstd d_Mo_set_68 (by omega) ?_
          refine V.iload_n d_Mo_set_69 rfl ?_
          refine V.iret d_Mo_set_70 rfl (Nat.le_of_ble_eq_true rfl) (Nat.le_of_ble_eq_true rfl) ?_
          exact hOk'
        · skip
          refine V.aload_n d_Mo_set_45 rfl ?_
          refine V.iconst_ (nI 1) d_Mo_set_46 (by decide +kernel) ?_
          refine V.callV1 d_Mo_set_47 k_Mo_138_Mo_finds_MoV mo_o (Nat.le_of_ble_eq_true rfl) (by omega) (by omega) (c_Mo_finds (by omega) ?_)
          refine V.iret d_Mo_set_50 rfl (Nat.le_of_ble_eq_true rfl) (Nat.le_of_ble_eq_true rfl) ?_
          exact hE (by first | (rw [hif, c_42, Bool.and_false]; done) | (rw [c_9, Bool.false_and]))
    · skip
      have hif : (if x = nI 0 then nI 15 else if x = nI 1 then nI 999 else nI 99999) = nI 15 := by
        first | (rw [if_pos (show x = nI 0 from c_16)]; done) | (rw [if_neg (show ¬ x = nI 0 from c_16), if_pos c_27]; done) | rw [if_neg (show ¬ x = nI 0 from c_16), if_neg c_27]
      refine V.ldc2 (v := 15) d_Mo_set_19 (tm 1262 (by decide +kernel) rfl) ?_
      refine V.eqS (st' := .long ((nI 15).toInt64) :: _) rfl ?_
      refine V.goto (tgt := 39) d_Mo_set_22 (by decide) ?_
      refine V.callS3 d_Mo_set_39 k_Mo_56_Mo_inS (Nat.le_of_ble_eq_true rfl) (by omega) (by omega) (c_Mo_in ?_)
      refine V.ifneB (tgt := 51) d_Mo_set_42 (by decide) (fun c_42 => ?_) (fun c_42 => ?_)
      · skip
        rw [← hif] at c_42
        obtain ⟨a, ha, hxa⟩ := wi_nat (by decide) c_9
        have hOk' := hOk a ha hxa c_42
        subst hxa
        refine V.aload_n d_Mo_set_51 rfl ?_
        refine V.get d_Mo_set_52 f_Mo_7_Mo mo_o rfl ?_
        refine V.iconst_ (nI 2) d_Mo_set_55 (by decide +kernel) ?_
        refine V.iload_n d_Mo_set_56 rfl ?_
        refine V.addN d_Mo_set_57 ?_
        refine V.mldd d_Mo_set_58 (by omega) ?_
        refine V.istore_n d_Mo_set_59 (by decide) ?_
        refine V.aload_n d_Mo_set_60 rfl ?_
        refine V.get d_Mo_set_61 f_Mo_7_Mo mo_o rfl ?_
        refine V.iconst_ (nI 2) d_Mo_set_64 (by decide +kernel) ?_
        refine V.iload_n d_Mo_set_65 rfl ?_
        refine V.addN d_Mo_set_66 ?_
        refine V.iload_n d_Mo_set_67 rfl ?_
        refine V.mstd d_Mo_set_68 (by omega) ?_
        refine V.iload_n d_Mo_set_69 rfl ?_
        refine V.iret d_Mo_set_70 rfl (Nat.le_of_ble_eq_true rfl) (Nat.le_of_ble_eq_true rfl) ?_
        exact hOk'
      · skip
        refine V.aload_n d_Mo_set_45 rfl ?_
        refine V.iconst_ (nI 1) d_Mo_set_46 (by decide +kernel) ?_
        refine V.callV1 d_Mo_set_47 k_Mo_138_Mo_finds_MoV mo_o (Nat.le_of_ble_eq_true rfl) (by omega) (by omega) (c_Mo_finds (by omega) ?_)
        refine V.iret d_Mo_set_50 rfl (Nat.le_of_ble_eq_true rfl) (Nat.le_of_ble_eq_true rfl) ?_
        exact hE (by first | (rw [hif, c_42, Bool.and_false]; done) | (rw [c_9, Bool.false_and]))
abbrev M_Mo_tree : MD := (⟨"FelledByNamesModel", "tree", "(IIII)I"⟩, prog_14_method_48_code, 6, (some .int), fun _ => True)
theorem d_Mo_tree_0 : decode prog_14_method_48_code 0 = .ok (.iload_n 1, 1) := by decide +kernel
theorem d_Mo_tree_1 : decode prog_14_method_48_code 1 = .ok (.i2l, 1) := by decide +kernel
theorem d_Mo_tree_2 : decode prog_14_method_48_code 2 = .ok (.lconst 0, 1) := by decide +kernel
theorem d_Mo_tree_3 : decode prog_14_method_48_code 3 = .ok (.ldc2_w 205, 3) := by decide +kernel
theorem d_Mo_tree_6 : decode prog_14_method_48_code 6 = .ok (.invokestatic 56, 3) := by decide +kernel
theorem d_Mo_tree_9 : decode prog_14_method_48_code 9 = .ok (.ifCond .eq 54, 3) := by decide +kernel
theorem d_Mo_tree_63 : decode prog_14_method_48_code 63 = .ok (.aload_n 0, 1) := by decide +kernel
theorem d_Mo_tree_64 : decode prog_14_method_48_code 64 = .ok (.iconst 1, 1) := by decide +kernel
theorem d_Mo_tree_65 : decode prog_14_method_48_code 65 = .ok (.invokevirtual 138, 3) := by decide +kernel
theorem d_Mo_tree_68 : decode prog_14_method_48_code 68 = .ok (.ireturn, 1) := by decide +kernel
theorem d_Mo_tree_12 : decode prog_14_method_48_code 12 = .ok (.iload_n 2, 1) := by decide +kernel
theorem d_Mo_tree_13 : decode prog_14_method_48_code 13 = .ok (.i2l, 1) := by decide +kernel
theorem d_Mo_tree_14 : decode prog_14_method_48_code 14 = .ok (.lconst 0, 1) := by decide +kernel
theorem d_Mo_tree_15 : decode prog_14_method_48_code 15 = .ok (.ldc2_w 193, 3) := by decide +kernel
theorem d_Mo_tree_18 : decode prog_14_method_48_code 18 = .ok (.invokestatic 56, 3) := by decide +kernel
theorem d_Mo_tree_21 : decode prog_14_method_48_code 21 = .ok (.ifCond .eq 42, 3) := by decide +kernel
theorem d_Mo_tree_24 : decode prog_14_method_48_code 24 = .ok (.iload_n 2, 1) := by decide +kernel
theorem d_Mo_tree_25 : decode prog_14_method_48_code 25 = .ok (.bipush 10, 2) := by decide +kernel
theorem d_Mo_tree_27 : decode prog_14_method_48_code 27 = .ok (.idiv, 1) := by decide +kernel
theorem d_Mo_tree_28 : decode prog_14_method_48_code 28 = .ok (.iload_n 2, 1) := by decide +kernel
theorem d_Mo_tree_29 : decode prog_14_method_48_code 29 = .ok (.bipush 10, 2) := by decide +kernel
theorem d_Mo_tree_31 : decode prog_14_method_48_code 31 = .ok (.irem, 1) := by decide +kernel
theorem d_Mo_tree_32 : decode prog_14_method_48_code 32 = .ok (.invokestatic 189, 3) := by decide +kernel
theorem d_Mo_tree_35 : decode prog_14_method_48_code 35 = .ok (.ifCond .eq 28, 3) := by decide +kernel
theorem d_Mo_tree_38 : decode prog_14_method_48_code 38 = .ok (.iload_n 3, 1) := by decide +kernel
theorem d_Mo_tree_39 : decode prog_14_method_48_code 39 = .ok (.i2l, 1) := by decide +kernel
theorem d_Mo_tree_40 : decode prog_14_method_48_code 40 = .ok (.lconst 0, 1) := by decide +kernel
theorem d_Mo_tree_41 : decode prog_14_method_48_code 41 = .ok (.ldc2_w 199, 3) := by decide +kernel
theorem d_Mo_tree_44 : decode prog_14_method_48_code 44 = .ok (.invokestatic 56, 3) := by decide +kernel
theorem d_Mo_tree_47 : decode prog_14_method_48_code 47 = .ok (.ifCond .eq 16, 3) := by decide +kernel
theorem d_Mo_tree_50 : decode prog_14_method_48_code 50 = .ok (.iload 4, 2) := by decide +kernel
theorem d_Mo_tree_52 : decode prog_14_method_48_code 52 = .ok (.i2l, 1) := by decide +kernel
theorem d_Mo_tree_53 : decode prog_14_method_48_code 53 = .ok (.lconst 0, 1) := by decide +kernel
theorem d_Mo_tree_54 : decode prog_14_method_48_code 54 = .ok (.ldc2_w 193, 3) := by decide +kernel
theorem d_Mo_tree_57 : decode prog_14_method_48_code 57 = .ok (.invokestatic 56, 3) := by decide +kernel
theorem d_Mo_tree_60 : decode prog_14_method_48_code 60 = .ok (.ifCond .ne 9, 3) := by decide +kernel
theorem d_Mo_tree_69 : decode prog_14_method_48_code 69 = .ok (.aload_n 0, 1) := by decide +kernel
theorem d_Mo_tree_70 : decode prog_14_method_48_code 70 = .ok (.getfield 7, 3) := by decide +kernel
theorem d_Mo_tree_73 : decode prog_14_method_48_code 73 = .ok (.iconst 0, 1) := by decide +kernel
theorem d_Mo_tree_74 : decode prog_14_method_48_code 74 = .ok (.iaload, 1) := by decide +kernel
theorem d_Mo_tree_75 : decode prog_14_method_48_code 75 = .ok (.bipush 8, 2) := by decide +kernel
theorem d_Mo_tree_77 : decode prog_14_method_48_code 77 = .ok (.if_icmp .ne 9, 3) := by decide +kernel
theorem d_Mo_tree_86 : decode prog_14_method_48_code 86 = .ok (.aload_n 0, 1) := by decide +kernel
theorem d_Mo_tree_87 : decode prog_14_method_48_code 87 = .ok (.getfield 7, 3) := by decide +kernel
theorem d_Mo_tree_90 : decode prog_14_method_48_code 90 = .ok (.iconst 0, 1) := by decide +kernel
theorem d_Mo_tree_91 : decode prog_14_method_48_code 91 = .ok (.iaload, 1) := by decide +kernel
theorem d_Mo_tree_92 : decode prog_14_method_48_code 92 = .ok (.istore 5, 2) := by decide +kernel
theorem d_Mo_tree_94 : decode prog_14_method_48_code 94 = .ok (.aload_n 0, 1) := by decide +kernel
theorem d_Mo_tree_95 : decode prog_14_method_48_code 95 = .ok (.iload 5, 2) := by decide +kernel
theorem d_Mo_tree_97 : decode prog_14_method_48_code 97 = .ok (.iconst 0, 1) := by decide +kernel
theorem d_Mo_tree_98 : decode prog_14_method_48_code 98 = .ok (.iload_n 1, 1) := by decide +kernel
theorem d_Mo_tree_99 : decode prog_14_method_48_code 99 = .ok (.bipush 10, 2) := by decide +kernel
theorem d_Mo_tree_101 : decode prog_14_method_48_code 101 = .ok (.idiv, 1) := by decide +kernel
theorem d_Mo_tree_102 : decode prog_14_method_48_code 102 = .ok (.invokevirtual 165, 3) := by decide +kernel
theorem d_Mo_tree_105 : decode prog_14_method_48_code 105 = .ok (.aload_n 0, 1) := by decide +kernel
theorem d_Mo_tree_106 : decode prog_14_method_48_code 106 = .ok (.iload 5, 2) := by decide +kernel
theorem d_Mo_tree_108 : decode prog_14_method_48_code 108 = .ok (.iconst 1, 1) := by decide +kernel
theorem d_Mo_tree_109 : decode prog_14_method_48_code 109 = .ok (.iload_n 1, 1) := by decide +kernel
theorem d_Mo_tree_110 : decode prog_14_method_48_code 110 = .ok (.bipush 10, 2) := by decide +kernel
theorem d_Mo_tree_112 : decode prog_14_method_48_code 112 = .ok (.irem, 1) := by decide +kernel
theorem d_Mo_tree_113 : decode prog_14_method_48_code 113 = .ok (.invokevirtual 165, 3) := by decide +kernel
theorem d_Mo_tree_116 : decode prog_14_method_48_code 116 = .ok (.aload_n 0, 1) := by decide +kernel
theorem d_Mo_tree_117 : decode prog_14_method_48_code 117 = .ok (.iload 5, 2) := by decide +kernel
theorem d_Mo_tree_119 : decode prog_14_method_48_code 119 = .ok (.iconst 2, 1) := by decide +kernel
theorem d_Mo_tree_120 : decode prog_14_method_48_code 120 = .ok (.iload_n 2, 1) := by decide +kernel
theorem d_Mo_tree_121 : decode prog_14_method_48_code 121 = .ok (.bipush 10, 2) := by decide +kernel
theorem d_Mo_tree_123 : decode prog_14_method_48_code 123 = .ok (.idiv, 1) := by decide +kernel
theorem d_Mo_tree_124 : decode prog_14_method_48_code 124 = .ok (.invokevirtual 165, 3) := by decide +kernel
theorem d_Mo_tree_127 : decode prog_14_method_48_code 127 = .ok (.aload_n 0, 1) := by decide +kernel
theorem d_Mo_tree_128 : decode prog_14_method_48_code 128 = .ok (.iload 5, 2) := by decide +kernel
theorem d_Mo_tree_130 : decode prog_14_method_48_code 130 = .ok (.iconst 3, 1) := by decide +kernel
theorem d_Mo_tree_131 : decode prog_14_method_48_code 131 = .ok (.iload_n 2, 1) := by decide +kernel
theorem d_Mo_tree_132 : decode prog_14_method_48_code 132 = .ok (.bipush 10, 2) := by decide +kernel
theorem d_Mo_tree_134 : decode prog_14_method_48_code 134 = .ok (.irem, 1) := by decide +kernel
theorem d_Mo_tree_135 : decode prog_14_method_48_code 135 = .ok (.invokevirtual 165, 3) := by decide +kernel
theorem d_Mo_tree_138 : decode prog_14_method_48_code 138 = .ok (.aload_n 0, 1) := by decide +kernel
theorem d_Mo_tree_139 : decode prog_14_method_48_code 139 = .ok (.iload 5, 2) := by decide +kernel
theorem d_Mo_tree_141 : decode prog_14_method_48_code 141 = .ok (.iconst 4, 1) := by decide +kernel
theorem d_Mo_tree_142 : decode prog_14_method_48_code 142 = .ok (.iload_n 3, 1) := by decide +kernel
theorem d_Mo_tree_143 : decode prog_14_method_48_code 143 = .ok (.invokevirtual 165, 3) := by decide +kernel
theorem d_Mo_tree_146 : decode prog_14_method_48_code 146 = .ok (.aload_n 0, 1) := by decide +kernel
theorem d_Mo_tree_147 : decode prog_14_method_48_code 147 = .ok (.iload 5, 2) := by decide +kernel
theorem d_Mo_tree_149 : decode prog_14_method_48_code 149 = .ok (.iconst 5, 1) := by decide +kernel
theorem d_Mo_tree_150 : decode prog_14_method_48_code 150 = .ok (.iload 4, 2) := by decide +kernel
theorem d_Mo_tree_152 : decode prog_14_method_48_code 152 = .ok (.invokevirtual 165, 3) := by decide +kernel
theorem d_Mo_tree_155 : decode prog_14_method_48_code 155 = .ok (.aload_n 0, 1) := by decide +kernel
theorem d_Mo_tree_156 : decode prog_14_method_48_code 156 = .ok (.iload 5, 2) := by decide +kernel
theorem d_Mo_tree_158 : decode prog_14_method_48_code 158 = .ok (.bipush 6, 2) := by decide +kernel
theorem d_Mo_tree_160 : decode prog_14_method_48_code 160 = .ok (.iconst 1, 1) := by decide +kernel
theorem d_Mo_tree_161 : decode prog_14_method_48_code 161 = .ok (.invokevirtual 165, 3) := by decide +kernel
theorem d_Mo_tree_164 : decode prog_14_method_48_code 164 = .ok (.aload_n 0, 1) := by decide +kernel
theorem d_Mo_tree_165 : decode prog_14_method_48_code 165 = .ok (.getfield 7, 3) := by decide +kernel
theorem d_Mo_tree_168 : decode prog_14_method_48_code 168 = .ok (.iconst 0, 1) := by decide +kernel
theorem d_Mo_tree_169 : decode prog_14_method_48_code 169 = .ok (.dup2, 1) := by decide +kernel
theorem d_Mo_tree_170 : decode prog_14_method_48_code 170 = .ok (.iaload, 1) := by decide +kernel
theorem d_Mo_tree_171 : decode prog_14_method_48_code 171 = .ok (.iconst 1, 1) := by decide +kernel
theorem d_Mo_tree_172 : decode prog_14_method_48_code 172 = .ok (.iadd, 1) := by decide +kernel
theorem d_Mo_tree_173 : decode prog_14_method_48_code 173 = .ok (.iastore, 1) := by decide +kernel
theorem d_Mo_tree_174 : decode prog_14_method_48_code 174 = .ok (.iload 5, 2) := by decide +kernel
theorem d_Mo_tree_176 : decode prog_14_method_48_code 176 = .ok (.ireturn, 1) := by decide +kernel
theorem d_Mo_tree_80 : decode prog_14_method_48_code 80 = .ok (.aload_n 0, 1) := by decide +kernel
theorem d_Mo_tree_81 : decode prog_14_method_48_code 81 = .ok (.iconst 4, 1) := by decide +kernel
theorem d_Mo_tree_82 : decode prog_14_method_48_code 82 = .ok (.invokevirtual 138, 3) := by decide +kernel
theorem d_Mo_tree_85 : decode prog_14_method_48_code 85 = .ok (.ireturn, 1) := by decide +kernel
set_option maxRecDepth 100000 in
theorem c_Mo_tree {N : Nat} {x y v u : Int32} {l : Launch} {d q n : Nat} {D : Nat → Int32} {A : Nat → Nat → Int32} {S : Nat → Int32} {h0 : HP} {Q : QT} (hN : N ≤ 8) (e0 : D 0 = nI N) (hE : (wi x (nI 0) (nI 69) && wi y (nI 0) (nI 99) && two (y / nI 10) (irm y (nI 10)) && wi v (nI 0) (nI 15) && wi u (nI 0) (nI 99)) = false → Q (some (.int (-1000000000 - nI 1))) n (mo q D (uA A 3 (upd (A 3) 1 (A 3 1 + nI 1))) S h0)) (hF : wi x (nI 0) (nI 69) = true → wi y (nI 0) (nI 99) = true → two (y / nI 10) (irm y (nI 10)) = true → wi v (nI 0) (nI 15) = true → wi u (nI 0) (nI 99) = true → N = 8 → Q (some (.int (-1000000000 - nI 4))) n (mo q D (uA A 3 (upd (A 3) 4 (A 3 4 + nI 1))) S h0)) (hOk : ∀ a b, a ≤ 69 → b ≤ 99 → x = nI a → y = nI b → two (nI (b / 10)) (nI (b % 10)) = true → wi v (nI 0) (nI 15) = true → wi u (nI 0) (nI 99) = true → N < 8 → Q (some (.int (nI N))) n (mo q (upd (upd (upd (upd (upd (upd (upd (upd D (50 + 7 * N + 0) (nI (a / 10))) (50 + 7 * N + 1) (nI (a % 10))) (50 + 7 * N + 2) (nI (b / 10))) (50 + 7 * N + 3) (nI (b % 10))) (50 + 7 * N + 4) v) (50 + 7 * N + 5) u) (50 + 7 * N + 6) (nI 1)) 0 (nI (N + 1))) A S h0)) : Ct l M_Mo_tree (d + 3) 0 0 [.ref q, .int x, .int y, .int v, .int u] n (mo q D A S h0) Q := by
  refine Ct.of (fun _ => trivial) (by decide) (Nat.le_of_ble_eq_true rfl) ?_
  refine V.iload_n d_Mo_tree_0 rfl ?_
  refine V.i2l d_Mo_tree_1 ?_
  refine V.lconst_ ((nI 0).toInt64) d_Mo_tree_2 (by decide +kernel) ?_
  refine V.ldc2 (v := 69) d_Mo_tree_3 (tm 1269 (by decide +kernel) rfl) ?_
  refine V.eqS (st' := .long ((nI 69).toInt64) :: _) rfl ?_
  refine V.callS3 d_Mo_tree_6 k_Mo_56_Mo_inS (Nat.le_of_ble_eq_true rfl) (by omega) (by omega) (c_Mo_in ?_)
  refine V.ifeqB (tgt := 63) d_Mo_tree_9 (by decide) (fun c_9 => ?_) (fun c_9 => ?_)
  · skip
    refine V.aload_n d_Mo_tree_63 rfl ?_
    refine V.iconst_ (nI 1) d_Mo_tree_64 (by decide +kernel) ?_
    refine V.callV1 d_Mo_tree_65 k_Mo_138_Mo_finds_MoV mo_o (Nat.le_of_ble_eq_true rfl) (by omega) (by omega) (c_Mo_finds (by omega) ?_)
    refine V.iret d_Mo_tree_68 rfl (Nat.le_of_ble_eq_true rfl) (Nat.le_of_ble_eq_true rfl) ?_
    exact hE (by simp only [irm, c_9, Bool.and_false, Bool.false_and, Bool.and_true, Bool.true_and])
  · skip
    refine V.iload_n d_Mo_tree_12 rfl ?_
    refine V.i2l d_Mo_tree_13 ?_
    refine V.lconst_ ((nI 0).toInt64) d_Mo_tree_14 (by decide +kernel) ?_
    refine V.ldc2 (v := 99) d_Mo_tree_15 (tm 1239 (by decide +kernel) rfl) ?_
    refine V.eqS (st' := .long ((nI 99).toInt64) :: _) rfl ?_
    refine V.callS3 d_Mo_tree_18 k_Mo_56_Mo_inS (Nat.le_of_ble_eq_true rfl) (by omega) (by omega) (c_Mo_in ?_)
    refine V.ifeqB (tgt := 63) d_Mo_tree_21 (by decide) (fun c_21 => ?_) (fun c_21 => ?_)
    · skip
      refine V.aload_n d_Mo_tree_63 rfl ?_
      refine V.iconst_ (nI 1) d_Mo_tree_64 (by decide +kernel) ?_
      refine V.callV1 d_Mo_tree_65 k_Mo_138_Mo_finds_MoV mo_o (Nat.le_of_ble_eq_true rfl) (by omega) (by omega) (c_Mo_finds (by omega) ?_)
      refine V.iret d_Mo_tree_68 rfl (Nat.le_of_ble_eq_true rfl) (Nat.le_of_ble_eq_true rfl) ?_
      exact hE (by simp only [irm, c_9, c_21, Bool.and_false, Bool.false_and, Bool.and_true, Bool.true_and])
    · skip
      refine V.iload_n d_Mo_tree_24 rfl ?_
      refine V.bipush_ (nI 10) d_Mo_tree_25 (by decide +kernel) ?_
      refine V.idiv d_Mo_tree_27 (by decide +kernel) ?_
      refine V.iload_n d_Mo_tree_28 rfl ?_
      refine V.bipush_ (nI 10) d_Mo_tree_29 (by decide +kernel) ?_
      refine V.irem d_Mo_tree_31 (by decide +kernel) ?_
      refine V.callS2 d_Mo_tree_32 k_Mo_189_Mo_areTwoS (Nat.le_of_ble_eq_true rfl) (by omega) (by omega) (c_Mo_areTwo ?_)
      refine V.ifeqB (tgt := 63) d_Mo_tree_35 (by decide) (fun c_35 => ?_) (fun c_35 => ?_)
      · skip
        refine V.aload_n d_Mo_tree_63 rfl ?_
        refine V.iconst_ (nI 1) d_Mo_tree_64 (by decide +kernel) ?_
        refine V.callV1 d_Mo_tree_65 k_Mo_138_Mo_finds_MoV mo_o (Nat.le_of_ble_eq_true rfl) (by omega) (by omega) (c_Mo_finds (by omega) ?_)
        refine V.iret d_Mo_tree_68 rfl (Nat.le_of_ble_eq_true rfl) (Nat.le_of_ble_eq_true rfl) ?_
        exact hE (by simp only [irm, c_9, c_21, c_35, Bool.and_false, Bool.false_and, Bool.and_true, Bool.true_and])
      · skip
        refine V.iload_n d_Mo_tree_38 rfl ?_
        refine V.i2l d_Mo_tree_39 ?_
        refine V.lconst_ ((nI 0).toInt64) d_Mo_tree_40 (by decide +kernel) ?_
        refine V.ldc2 (v := 15) d_Mo_tree_41 (tm 1262 (by decide +kernel) rfl) ?_
        refine V.eqS (st' := .long ((nI 15).toInt64) :: _) rfl ?_
        refine V.callS3 d_Mo_tree_44 k_Mo_56_Mo_inS (Nat.le_of_ble_eq_true rfl) (by omega) (by omega) (c_Mo_in ?_)
        refine V.ifeqB (tgt := 63) d_Mo_tree_47 (by decide) (fun c_47 => ?_) (fun c_47 => ?_)
        · skip
          refine V.aload_n d_Mo_tree_63 rfl ?_
          refine V.iconst_ (nI 1) d_Mo_tree_64 (by decide +kernel) ?_
          refine V.callV1 d_Mo_tree_65 k_Mo_138_Mo_finds_MoV mo_o (Nat.le_of_ble_eq_true rfl) (by omega) (by omega) (c_Mo_finds (by omega) ?_)
          refine V.iret d_Mo_tree_68 rfl (Nat.le_of_ble_eq_true rfl) (Nat.le_of_ble_eq_true rfl) ?_
          exact hE (by simp only [irm, c_9, c_21, c_35, c_47, Bool.and_false, Bool.false_and, Bool.and_true, Bool.true_and])
        · skip
          refine V.iload d_Mo_tree_50 rfl ?_
          refine V.i2l d_Mo_tree_52 ?_
          refine V.lconst_ ((nI 0).toInt64) d_Mo_tree_53 (by decide +kernel) ?_
          refine V.ldc2 (v := 99) d_Mo_tree_54 (tm 1239 (by decide +kernel) rfl) ?_
          refine V.eqS (st' := .long ((nI 99).toInt64) :: _) rfl ?_
          refine V.callS3 d_Mo_tree_57 k_Mo_56_Mo_inS (Nat.le_of_ble_eq_true rfl) (by omega) (by omega) (c_Mo_in ?_)
          refine V.ifneB (tgt := 69) d_Mo_tree_60 (by decide) (fun c_60 => ?_) (fun c_60 => ?_)
          · skip
            refine V.aload_n d_Mo_tree_69 rfl ?_
            refine V.get d_Mo_tree_70 f_Mo_7_Mo mo_o rfl ?_
            refine V.iconst_ (nI 0) d_Mo_tree_73 (by decide +kernel) ?_
            refine V.mldd d_Mo_tree_74 (by omega) ?_
            refine V.top e0 ?_
            refine V.bipush_ (nI 8) d_Mo_tree_75 (by decide +kernel) ?_
            refine V.neN (tgt := 86) d_Mo_tree_77 (by decide) (by omega) (by omega) (fun c_77 => ?_) (fun c_77 => ?_)
            · skip
              refine V.aload_n d_Mo_tree_86 rfl ?_
              refine V.get d_Mo_tree_87 f_Mo_7_Mo mo_o rfl ?_
              refine V.iconst_ (nI 0) d_Mo_tree_90 (by decide +kernel) ?_
              refine V.mldd d_Mo_tree_91 (by omega) ?_
              refine V.top e0 ?_
              refine V.istore d_Mo_tree_92 (by decide) ?_
              have hN8 : N < 8 := by omega
              obtain ⟨a, ha, rfl⟩ := wi_nat (by decide) c_9
              obtain ⟨b, hb, rfl⟩ := wi_nat (by decide) c_21
              rw [pk_rem (by omega) (by omega) (by omega), pk_div (by omega) (by omega) (by omega)] at c_35
              refine V.aload_n d_Mo_tree_94 rfl ?_
              refine V.iload d_Mo_tree_95 rfl ?_
              refine V.iconst_ (nI 0) d_Mo_tree_97 (by decide +kernel) ?_
              refine V.iload_n d_Mo_tree_98 rfl ?_
              refine V.bipush_ (nI 10) d_Mo_tree_99 (by decide +kernel) ?_
              refine V.divN d_Mo_tree_101 (by omega) (by omega) (by omega) ?_
              refine V.callV3 d_Mo_tree_102 k_Mo_165_Mo_sets_MoV mo_o (Nat.le_of_ble_eq_true rfl) (by omega) (by omega) (c_Mo_sets (by omega) ?_)
              refine V.aload_n d_Mo_tree_105 rfl ?_
              refine V.iload d_Mo_tree_106 rfl ?_
              refine V.iconst_ (nI 1) d_Mo_tree_108 (by decide +kernel) ?_
              refine V.iload_n d_Mo_tree_109 rfl ?_
              refine V.bipush_ (nI 10) d_Mo_tree_110 (by decide +kernel) ?_
              refine V.remN d_Mo_tree_112 (by omega) (by omega) (by omega) ?_
              refine V.callV3 d_Mo_tree_113 k_Mo_165_Mo_sets_MoV mo_o (Nat.le_of_ble_eq_true rfl) (by omega) (by omega) (c_Mo_sets (by omega) ?_)
              refine V.aload_n d_Mo_tree_116 rfl ?_
              refine V.iload d_Mo_tree_117 rfl ?_
              refine V.iconst_ (nI 2) d_Mo_tree_119 (by decide +kernel) ?_
              refine V.iload_n d_Mo_tree_120 rfl ?_
              refine V.bipush_ (nI 10) d_Mo_tree_121 (by decide +kernel) ?_
              refine V.divN d_Mo_tree_123 (by omega) (by omega) (by omega) ?_
              refine V.callV3 d_Mo_tree_124 k_Mo_165_Mo_sets_MoV mo_o (Nat.le_of_ble_eq_true rfl) (by omega) (by omega) (c_Mo_sets (by omega) ?_)
              refine V.aload_n d_Mo_tree_127 rfl ?_
              refine V.iload d_Mo_tree_128 rfl ?_
              refine V.iconst_ (nI 3) d_Mo_tree_130 (by decide +kernel) ?_
              refine V.iload_n d_Mo_tree_131 rfl ?_
              refine V.bipush_ (nI 10) d_Mo_tree_132 (by decide +kernel) ?_
              refine V.remN d_Mo_tree_134 (by omega) (by omega) (by omega) ?_
              refine V.callV3 d_Mo_tree_135 k_Mo_165_Mo_sets_MoV mo_o (Nat.le_of_ble_eq_true rfl) (by omega) (by omega) (c_Mo_sets (by omega) ?_)
              refine V.aload_n d_Mo_tree_138 rfl ?_
              refine V.iload d_Mo_tree_139 rfl ?_
              refine V.iconst_ (nI 4) d_Mo_tree_141 (by decide +kernel) ?_
              refine V.iload_n d_Mo_tree_142 rfl ?_
              refine V.callV3 d_Mo_tree_143 k_Mo_165_Mo_sets_MoV mo_o (Nat.le_of_ble_eq_true rfl) (by omega) (by omega) (c_Mo_sets (by omega) ?_)
              refine V.aload_n d_Mo_tree_146 rfl ?_
              refine V.iload d_Mo_tree_147 rfl ?_
              refine V.iconst_ (nI 5) d_Mo_tree_149 (by decide +kernel) ?_
              refine V.iload d_Mo_tree_150 rfl ?_
              refine V.callV3 d_Mo_tree_152 k_Mo_165_Mo_sets_MoV mo_o (Nat.le_of_ble_eq_true rfl) (by omega) (by omega) (c_Mo_sets (by omega) ?_)
              refine V.aload_n d_Mo_tree_155 rfl ?_
              refine V.iload d_Mo_tree_156 rfl ?_
              refine V.bipush_ (nI 6) d_Mo_tree_158 (by decide +kernel) ?_
              refine V.iconst_ (nI 1) d_Mo_tree_160 (by decide +kernel) ?_
              refine V.callV3 d_Mo_tree_161 k_Mo_165_Mo_sets_MoV mo_o (Nat.le_of_ble_eq_true rfl) (by omega) (by omega) (c_Mo_sets (by omega) ?_)
              refine V.aload_n d_Mo_tree_164 rfl ?_
              refine V.get d_Mo_tree_165 f_Mo_7_Mo mo_o rfl ?_
              refine V.iconst_ (nI 0) d_Mo_tree_168 (by decide +kernel) ?_
              refine V.dup2 rfl rfl d_Mo_tree_169 ?_
              refine V.mldd d_Mo_tree_170 (by omega) ?_
              refine V.top (show _ = nI N by simp only [pk_un (show (0 : Nat) ≠ 50 + 7 * N + 6 by omega), pk_un (show (0 : Nat) ≠ 50 + 7 * N + 5 by omega), pk_un (show (0 : Nat) ≠ 50 + 7 * N + 4 by omega), pk_un (show (0 : Nat) ≠ 50 + 7 * N + 3 by omega), pk_un (show (0 : Nat) ≠ 50 + 7 * N + 2 by omega), pk_un (show (0 : Nat) ≠ 50 + 7 * N + 1 by omega), pk_un (show (0 : Nat) ≠ 50 + 7 * N + 0 by omega)]; exact e0) ?_
              refine V.iconst_ (nI 1) d_Mo_tree_171 (by decide +kernel) ?_
              refine V.addN d_Mo_tree_172 ?_
              refine V.mstd d_Mo_tree_173 (by omega) ?_
              refine V.iload d_Mo_tree_174 rfl ?_
              refine V.iret d_Mo_tree_176 rfl (Nat.le_of_ble_eq_true rfl) (Nat.le_of_ble_eq_true rfl) ?_
              exact hOk a b ha hb rfl rfl c_35 c_47 c_60 hN8
            · skip
              refine V.aload_n d_Mo_tree_80 rfl ?_
              refine V.iconst_ (nI 4) d_Mo_tree_81 (by decide +kernel) ?_
              refine V.callV1 d_Mo_tree_82 k_Mo_138_Mo_finds_MoV mo_o (Nat.le_of_ble_eq_true rfl) (by omega) (by omega) (c_Mo_finds (by omega) ?_)
              refine V.iret d_Mo_tree_85 rfl (Nat.le_of_ble_eq_true rfl) (Nat.le_of_ble_eq_true rfl) ?_
              exact hF c_9 c_21 c_35 c_47 c_60 c_77
          · skip
            refine V.aload_n d_Mo_tree_63 rfl ?_
            refine V.iconst_ (nI 1) d_Mo_tree_64 (by decide +kernel) ?_
            refine V.callV1 d_Mo_tree_65 k_Mo_138_Mo_finds_MoV mo_o (Nat.le_of_ble_eq_true rfl) (by omega) (by omega) (c_Mo_finds (by omega) ?_)
            refine V.iret d_Mo_tree_68 rfl (Nat.le_of_ble_eq_true rfl) (Nat.le_of_ble_eq_true rfl) ?_
            exact hE (by simp only [irm, c_9, c_21, c_35, c_47, c_60, Bool.and_false, Bool.false_and, Bool.and_true, Bool.true_and])
end
section
theorem idx_nat {x : Int32} {N : Nat} (hN : N < 2 ^ 30) (h : wi x (nI 0) (nI N - nI 1) = true) : ∃ i, i < N ∧ x = nI i := by
  by_cases h0 : N = 0
  · subst h0
    obtain ⟨h1, h2⟩ := wi_t h
    have h3 : nI 0 ≤ nI 0 - nI 1 := Int32.le_trans h1 h2
    exact absurd h3 (by decide +kernel)
  · rw [pk_sub (by omega)] at h
    obtain ⟨i, hi, ei⟩ := wi_nat (by omega) h
    exact ⟨i, by omega, ei⟩
theorem wi_nat1 {x : Int32} {k : Nat} (hk : k < 2 ^ 31) (h : wi x (nI 1) (nI k) = true) : ∃ i, 1 ≤ i ∧ i ≤ k ∧ x = nI i := by
  obtain ⟨h1, h2⟩ := wi_t h
  have h0 : (nI 0) ≤ x := Int32.le_trans (by decide +kernel) h1
  obtain ⟨i, hi, rfl⟩ := nI_of2 (nI_toInt hk) (Int32.not_lt.mpr h0) h2
  exact ⟨i, (nI_leI (by decide) (by omega)).mp h1, hi, rfl⟩
theorem wi_out {x : Int32} {k : Nat} (hk : k < 2 ^ 31) (h : wi x (nI 0) (nI k) = false) : x.toInt < 0 ∨ (k : Int) < x.toInt := by
  simp only [wi, Bool.and_eq_false_iff, decide_eq_false_iff_not] at h
  rcases h with h | h
  · left
    rw [Int32.le_iff_toInt_le, nI_toInt (by decide)] at h
    have : ((0 : Nat) : Int) = 0 := rfl
    omega
  · right
    rw [Int32.le_iff_toInt_le, nI_toInt hk] at h
    omega
def oft (D : Nat → Int32) (i w : Nat) : Int32 := if w = 0 then D (50 + 7 * i + 0) else if w = 1 then D (50 + 7 * i + 1) else if w = 2 then nI 10 * D (50 + 7 * i + 2) + D (50 + 7 * i + 3) else if w = 6 then lim D i else if w = 7 then rch D i else D (50 + 7 * i + (w + 1))
def chm (y : Int32) : Int32 := if y = nI 0 then nI 15 else if y = nI 1 then nI 99 else nI 1
abbrev M_Mo_ofTree : MD := (⟨"FelledByNamesModel", "ofTree", "(II)I"⟩, prog_14_method_49_code, 3, (some .int), fun _ => True)
theorem d_Mo_ofTree_0 : decode prog_14_method_49_code 0 = .ok (.aload_n 0, 1) := by decide +kernel
theorem d_Mo_ofTree_1 : decode prog_14_method_49_code 1 = .ok (.iload_n 1, 1) := by decide +kernel
theorem d_Mo_ofTree_2 : decode prog_14_method_49_code 2 = .ok (.invokevirtual 207, 3) := by decide +kernel
theorem kB_Mo_isTree : kB M_Mo_isTree 1 := ⟨tm 15 (by decide +kernel) rfl, tm 1281 (by decide +kernel) rfl, ⟨by decide, by decide, by decide +kernel⟩, by decide⟩
theorem k_Mo_207_Mo_isTree_MoV : kV "FelledByNamesModel" 207 5 M_Mo_isTree 1 := ⟨kB_Mo_isTree, tm 1278 (by decide +kernel) rfl, tm 1280 (by decide +kernel) rfl, tp 31 (by decide +kernel) rfl, _, rfl, rfl⟩
theorem d_Mo_ofTree_5 : decode prog_14_method_49_code 5 = .ok (.ifCond .eq 15, 3) := by decide +kernel
theorem d_Mo_ofTree_20 : decode prog_14_method_49_code 20 = .ok (.aload_n 0, 1) := by decide +kernel
theorem d_Mo_ofTree_21 : decode prog_14_method_49_code 21 = .ok (.iconst 1, 1) := by decide +kernel
theorem d_Mo_ofTree_22 : decode prog_14_method_49_code 22 = .ok (.invokevirtual 138, 3) := by decide +kernel
theorem d_Mo_ofTree_25 : decode prog_14_method_49_code 25 = .ok (.ireturn, 1) := by decide +kernel
theorem d_Mo_ofTree_8 : decode prog_14_method_49_code 8 = .ok (.iload_n 2, 1) := by decide +kernel
theorem d_Mo_ofTree_9 : decode prog_14_method_49_code 9 = .ok (.i2l, 1) := by decide +kernel
theorem d_Mo_ofTree_10 : decode prog_14_method_49_code 10 = .ok (.lconst 0, 1) := by decide +kernel
theorem d_Mo_ofTree_11 : decode prog_14_method_49_code 11 = .ok (.ldc2_w 210, 3) := by decide +kernel
theorem d_Mo_ofTree_14 : decode prog_14_method_49_code 14 = .ok (.invokestatic 56, 3) := by decide +kernel
theorem d_Mo_ofTree_17 : decode prog_14_method_49_code 17 = .ok (.ifCond .ne 9, 3) := by decide +kernel
theorem d_Mo_ofTree_26 : decode prog_14_method_49_code 26 = .ok (.iload_n 2, 1) := by decide +kernel
theorem d_Mo_ofTree_27 : decode prog_14_method_49_code 27 = .ok (.tableswitch 81 0 7 #[45, 45, 52, 81, 81, 81, 69, 75], 45) := by decide +kernel
theorem d_Mo_ofTree_72 : decode prog_14_method_49_code 72 = .ok (.aload_n 0, 1) := by decide +kernel
theorem d_Mo_ofTree_73 : decode prog_14_method_49_code 73 = .ok (.iload_n 1, 1) := by decide +kernel
theorem d_Mo_ofTree_74 : decode prog_14_method_49_code 74 = .ok (.iload_n 2, 1) := by decide +kernel
theorem d_Mo_ofTree_75 : decode prog_14_method_49_code 75 = .ok (.invokevirtual 158, 3) := by decide +kernel
theorem d_Mo_ofTree_78 : decode prog_14_method_49_code 78 = .ok (.ireturn, 1) := by decide +kernel
theorem d_Mo_ofTree_79 : decode prog_14_method_49_code 79 = .ok (.bipush 10, 2) := by decide +kernel
theorem d_Mo_ofTree_81 : decode prog_14_method_49_code 81 = .ok (.aload_n 0, 1) := by decide +kernel
theorem d_Mo_ofTree_82 : decode prog_14_method_49_code 82 = .ok (.iload_n 1, 1) := by decide +kernel
theorem d_Mo_ofTree_83 : decode prog_14_method_49_code 83 = .ok (.iconst 2, 1) := by decide +kernel
theorem d_Mo_ofTree_84 : decode prog_14_method_49_code 84 = .ok (.invokevirtual 158, 3) := by decide +kernel
theorem d_Mo_ofTree_87 : decode prog_14_method_49_code 87 = .ok (.imul, 1) := by decide +kernel
theorem d_Mo_ofTree_88 : decode prog_14_method_49_code 88 = .ok (.aload_n 0, 1) := by decide +kernel
theorem d_Mo_ofTree_89 : decode prog_14_method_49_code 89 = .ok (.iload_n 1, 1) := by decide +kernel
theorem d_Mo_ofTree_90 : decode prog_14_method_49_code 90 = .ok (.iconst 3, 1) := by decide +kernel
theorem d_Mo_ofTree_91 : decode prog_14_method_49_code 91 = .ok (.invokevirtual 158, 3) := by decide +kernel
theorem d_Mo_ofTree_94 : decode prog_14_method_49_code 94 = .ok (.iadd, 1) := by decide +kernel
theorem d_Mo_ofTree_95 : decode prog_14_method_49_code 95 = .ok (.ireturn, 1) := by decide +kernel
theorem d_Mo_ofTree_108 : decode prog_14_method_49_code 108 = .ok (.aload_n 0, 1) := by decide +kernel
theorem d_Mo_ofTree_109 : decode prog_14_method_49_code 109 = .ok (.iload_n 1, 1) := by decide +kernel
theorem d_Mo_ofTree_110 : decode prog_14_method_49_code 110 = .ok (.iload_n 2, 1) := by decide +kernel
theorem d_Mo_ofTree_111 : decode prog_14_method_49_code 111 = .ok (.iconst 1, 1) := by decide +kernel
theorem d_Mo_ofTree_112 : decode prog_14_method_49_code 112 = .ok (.iadd, 1) := by decide +kernel
theorem d_Mo_ofTree_113 : decode prog_14_method_49_code 113 = .ok (.invokevirtual 158, 3) := by decide +kernel
theorem d_Mo_ofTree_116 : decode prog_14_method_49_code 116 = .ok (.ireturn, 1) := by decide +kernel
theorem d_Mo_ofTree_96 : decode prog_14_method_49_code 96 = .ok (.aload_n 0, 1) := by decide +kernel
theorem d_Mo_ofTree_97 : decode prog_14_method_49_code 97 = .ok (.iload_n 1, 1) := by decide +kernel
theorem d_Mo_ofTree_98 : decode prog_14_method_49_code 98 = .ok (.invokevirtual 177, 3) := by decide +kernel
theorem d_Mo_ofTree_101 : decode prog_14_method_49_code 101 = .ok (.ireturn, 1) := by decide +kernel
theorem d_Mo_ofTree_102 : decode prog_14_method_49_code 102 = .ok (.aload_n 0, 1) := by decide +kernel
theorem d_Mo_ofTree_103 : decode prog_14_method_49_code 103 = .ok (.iload_n 1, 1) := by decide +kernel
theorem d_Mo_ofTree_104 : decode prog_14_method_49_code 104 = .ok (.invokevirtual 162, 3) := by decide +kernel
theorem d_Mo_ofTree_107 : decode prog_14_method_49_code 107 = .ok (.ireturn, 1) := by decide +kernel
set_option maxRecDepth 100000 in
theorem c_Mo_ofTree {N : Nat} {x y : Int32} {l : Launch} {d q n : Nat} {D : Nat → Int32} {A : Nat → Nat → Int32} {S : Nat → Int32} {h0 : HP} {Q : QT} (hN : N ≤ 8) (e0 : D 0 = nI N) (hT : TS D N) (hE : (wi x (nI 0) (nI N - nI 1) && wi y (nI 0) (nI 7)) = false → Q (some (.int (-1000000000 - nI 1))) n (mo q D (uA A 3 (upd (A 3) 1 (A 3 1 + nI 1))) S h0)) (hOk : ∀ i w, i < N → w ≤ 7 → x = nI i → y = nI w → Q (some (.int (oft D i w))) n (mo q D A S h0)) : Ct l M_Mo_ofTree (d + 2) 0 0 [.ref q, .int x, .int y] n (mo q D A S h0) Q := by
  refine Ct.of (fun _ => trivial) (by decide) (Nat.le_of_ble_eq_true rfl) ?_
  refine V.aload_n d_Mo_ofTree_0 rfl ?_
  refine V.iload_n d_Mo_ofTree_1 rfl ?_
  refine V.callV1 d_Mo_ofTree_2 k_Mo_207_Mo_isTree_MoV mo_o (Nat.le_of_ble_eq_true rfl) (by omega) (by omega) (c_Mo_isTree ?_)
  rw [e0]
  refine V.ifeqB (tgt := 20) d_Mo_ofTree_5 (by decide) (fun c_5 => ?_) (fun c_5 => ?_)
  · skip
    refine V.aload_n d_Mo_ofTree_20 rfl ?_
    refine V.iconst_ (nI 1) d_Mo_ofTree_21 (by decide +kernel) ?_
    refine V.callV1 d_Mo_ofTree_22 k_Mo_138_Mo_finds_MoV mo_o (Nat.le_of_ble_eq_true rfl) (by omega) (by omega) (c_Mo_finds (by omega) ?_)
    refine V.iret d_Mo_ofTree_25 rfl (Nat.le_of_ble_eq_true rfl) (Nat.le_of_ble_eq_true rfl) ?_
    exact hE (by simp only [c_5, Bool.and_false, Bool.false_and, Bool.and_true, Bool.true_and])
  · skip
    refine V.iload_n d_Mo_ofTree_8 rfl ?_
    refine V.i2l d_Mo_ofTree_9 ?_
    refine V.lconst_ ((nI 0).toInt64) d_Mo_ofTree_10 (by decide +kernel) ?_
    refine V.ldc2 (v := 7) d_Mo_ofTree_11 (tm 1282 (by decide +kernel) rfl) ?_
    refine V.eqS (st' := .long ((nI 7).toInt64) :: _) rfl ?_
    refine V.callS3 d_Mo_ofTree_14 k_Mo_56_Mo_inS (Nat.le_of_ble_eq_true rfl) (by omega) (by omega) (c_Mo_in ?_)
    refine V.ifneB (tgt := 26) d_Mo_ofTree_17 (by decide) (fun c_17 => ?_) (fun c_17 => ?_)
    · skip
      obtain ⟨i, hi, rfl⟩ := tre_nat hN c_5
      obtain ⟨w, hw, rfl⟩ := wi_nat (by decide) c_17
      refine V.iload_n d_Mo_ofTree_26 rfl ?_
      rcases (show w = 0 ∨ w = 1 ∨ w = 2 ∨ w = 3 ∨ w = 4 ∨ w = 5 ∨ w = 6 ∨ w = 7 by omega) with rfl | rfl | rfl | rfl | rfl | rfl | rfl | rfl
      · skip
        refine V.tabIn (tgt := 72) (off := 45) d_Mo_ofTree_27 (by decide +kernel) (by decide +kernel) (by decide +kernel) (by decide) ?_
        refine V.aload_n d_Mo_ofTree_72 rfl ?_
        refine V.iload_n d_Mo_ofTree_73 rfl ?_
        refine V.iload_n d_Mo_ofTree_74 rfl ?_
        refine V.callV2 d_Mo_ofTree_75 k_Mo_158_Mo_of_MoV mo_o (Nat.le_of_ble_eq_true rfl) (by omega) (by omega) (c_Mo_of (by omega) ?_)
        refine V.iret d_Mo_ofTree_78 rfl (Nat.le_of_ble_eq_true rfl) (Nat.le_of_ble_eq_true rfl) ?_
        exact hOk i 0 hi (by omega) rfl rfl
      · skip
        refine V.tabIn (tgt := 72) (off := 45) d_Mo_ofTree_27 (by decide +kernel) (by decide +kernel) (by decide +kernel) (by decide) ?_
        refine V.aload_n d_Mo_ofTree_72 rfl ?_
        refine V.iload_n d_Mo_ofTree_73 rfl ?_
        refine V.iload_n d_Mo_ofTree_74 rfl ?_
        refine V.callV2 d_Mo_ofTree_75 k_Mo_158_Mo_of_MoV mo_o (Nat.le_of_ble_eq_true rfl) (by omega) (by omega) (c_Mo_of (by omega) ?_)
        refine V.iret d_Mo_ofTree_78 rfl (Nat.le_of_ble_eq_true rfl) (Nat.le_of_ble_eq_true rfl) ?_
        exact hOk i 1 hi (by omega) rfl rfl
      · skip
        refine V.tabIn (tgt := 79) (off := 52) d_Mo_ofTree_27 (by decide +kernel) (by decide +kernel) (by decide +kernel) (by decide) ?_
        refine V.bipush_ (nI 10) d_Mo_ofTree_79 (by decide +kernel) ?_
        refine V.aload_n d_Mo_ofTree_81 rfl ?_
        refine V.iload_n d_Mo_ofTree_82 rfl ?_
        refine V.iconst_ (nI 2) d_Mo_ofTree_83 (by decide +kernel) ?_
        refine V.callV2 d_Mo_ofTree_84 k_Mo_158_Mo_of_MoV mo_o (Nat.le_of_ble_eq_true rfl) (by omega) (by omega) (c_Mo_of (by omega) ?_)
        refine V.imul d_Mo_ofTree_87 ?_
        refine V.aload_n d_Mo_ofTree_88 rfl ?_
        refine V.iload_n d_Mo_ofTree_89 rfl ?_
        refine V.iconst_ (nI 3) d_Mo_ofTree_90 (by decide +kernel) ?_
        refine V.callV2 d_Mo_ofTree_91 k_Mo_158_Mo_of_MoV mo_o (Nat.le_of_ble_eq_true rfl) (by omega) (by omega) (c_Mo_of (by omega) ?_)
        refine V.iadd d_Mo_ofTree_94 ?_
        refine V.iret d_Mo_ofTree_95 rfl (Nat.le_of_ble_eq_true rfl) (Nat.le_of_ble_eq_true rfl) ?_
        exact hOk i 2 hi (by omega) rfl rfl
      · skip
        refine V.tabIn (tgt := 108) (off := 81) d_Mo_ofTree_27 (by decide +kernel) (by decide +kernel) (by decide +kernel) (by decide) ?_
        refine V.aload_n d_Mo_ofTree_108 rfl ?_
        refine V.iload_n d_Mo_ofTree_109 rfl ?_
        refine V.iload_n d_Mo_ofTree_110 rfl ?_
        refine V.iconst_ (nI 1) d_Mo_ofTree_111 (by decide +kernel) ?_
        refine V.addN d_Mo_ofTree_112 ?_
        refine V.callV2 d_Mo_ofTree_113 k_Mo_158_Mo_of_MoV mo_o (Nat.le_of_ble_eq_true rfl) (by omega) (by omega) (c_Mo_of (by omega) ?_)
        refine V.iret d_Mo_ofTree_116 rfl (Nat.le_of_ble_eq_true rfl) (Nat.le_of_ble_eq_true rfl) ?_
        exact hOk i 3 hi (by omega) rfl rfl
      · skip
        refine V.tabIn (tgt := 108) (off := 81) d_Mo_ofTree_27 (by decide +kernel) (by decide +kernel) (by decide +kernel) (by decide) ?_
        refine V.aload_n d_Mo_ofTree_108 rfl ?_
        refine V.iload_n d_Mo_ofTree_109 rfl ?_
        refine V.iload_n d_Mo_ofTree_110 rfl ?_
        refine V.iconst_ (nI 1) d_Mo_ofTree_111 (by decide +kernel) ?_
        refine V.addN d_Mo_ofTree_112 ?_
        refine V.callV2 d_Mo_ofTree_113 k_Mo_158_Mo_of_MoV mo_o (Nat.le_of_ble_eq_true rfl) (by omega) (by omega) (c_Mo_of (by omega) ?_)
        refine V.iret d_Mo_ofTree_116 rfl (Nat.le_of_ble_eq_true rfl) (Nat.le_of_ble_eq_true rfl) ?_
        exact hOk i 4 hi (by omega) rfl rfl
      · skip
        refine V.tabIn (tgt := 108) (off := 81) d_Mo_ofTree_27 (by decide +kernel) (by decide +kernel) (by decide +kernel) (by decide) ?_
        refine V.aload_n d_Mo_ofTree_108 rfl ?_
        refine V.iload_n d_Mo_ofTree_109 rfl ?_
        refine V.iload_n d_Mo_ofTree_110 rfl ?_
        refine V.iconst_ (nI 1) d_Mo_ofTree_111 (by decide +kernel) ?_
        refine V.addN d_Mo_ofTree_112 ?_
        refine V.callV2 d_Mo_ofTree_113 k_Mo_158_Mo_of_MoV mo_o (Nat.le_of_ble_eq_true rfl) (by omega) (by omega) (c_Mo_of (by omega) ?_)
        refine V.iret d_Mo_ofTree_116 rfl (Nat.le_of_ble_eq_true rfl) (Nat.le_of_ble_eq_true rfl) ?_
        exact hOk i 5 hi (by omega) rfl rfl
      · skip
        refine V.tabIn (tgt := 96) (off := 69) d_Mo_ofTree_27 (by decide +kernel) (by decide +kernel) (by decide +kernel) (by decide) ?_
        refine V.aload_n d_Mo_ofTree_96 rfl ?_
        refine V.iload_n d_Mo_ofTree_97 rfl ?_
        refine V.callV1 d_Mo_ofTree_98 k_Mo_177_Mo_limit_MoV mo_o (Nat.le_of_ble_eq_true rfl) (by omega) (by omega) (c_Mo_limit (by omega) ((hT i hi).1) ?_)
        refine V.iret d_Mo_ofTree_101 rfl (Nat.le_of_ble_eq_true rfl) (Nat.le_of_ble_eq_true rfl) ?_
        exact hOk i 6 hi (by omega) rfl rfl
      · skip
        refine V.tabIn (tgt := 102) (off := 75) d_Mo_ofTree_27 (by decide +kernel) (by decide +kernel) (by decide +kernel) (by decide) ?_
        refine V.aload_n d_Mo_ofTree_102 rfl ?_
        refine V.iload_n d_Mo_ofTree_103 rfl ?_
        refine V.callV1 d_Mo_ofTree_104 k_Mo_162_Mo_reaches_MoV mo_o (Nat.le_of_ble_eq_true rfl) (by omega) (by omega) (c_Mo_reaches (by omega) ?_)
        refine V.iret d_Mo_ofTree_107 rfl (Nat.le_of_ble_eq_true rfl) (Nat.le_of_ble_eq_true rfl) ?_
        exact hOk i 7 hi (by omega) rfl rfl
    · skip
      refine V.aload_n d_Mo_ofTree_20 rfl ?_
      refine V.iconst_ (nI 1) d_Mo_ofTree_21 (by decide +kernel) ?_
      refine V.callV1 d_Mo_ofTree_22 k_Mo_138_Mo_finds_MoV mo_o (Nat.le_of_ble_eq_true rfl) (by omega) (by omega) (c_Mo_finds (by omega) ?_)
      refine V.iret d_Mo_ofTree_25 rfl (Nat.le_of_ble_eq_true rfl) (Nat.le_of_ble_eq_true rfl) ?_
      exact hE (by simp only [c_5, c_17, Bool.and_false, Bool.false_and, Bool.and_true, Bool.true_and])
abbrev M_Mo_change : MD := (⟨"FelledByNamesModel", "change", "(III)I"⟩, prog_14_method_50_code, 5, (some .int), fun _ => True)
theorem d_Mo_change_0 : decode prog_14_method_50_code 0 = .ok (.aload_n 0, 1) := by decide +kernel
theorem d_Mo_change_1 : decode prog_14_method_50_code 1 = .ok (.iload_n 1, 1) := by decide +kernel
theorem d_Mo_change_2 : decode prog_14_method_50_code 2 = .ok (.invokevirtual 207, 3) := by decide +kernel
theorem d_Mo_change_5 : decode prog_14_method_50_code 5 = .ok (.ifCond .eq 46, 3) := by decide +kernel
theorem d_Mo_change_51 : decode prog_14_method_50_code 51 = .ok (.aload_n 0, 1) := by decide +kernel
theorem d_Mo_change_52 : decode prog_14_method_50_code 52 = .ok (.iconst 1, 1) := by decide +kernel
theorem d_Mo_change_53 : decode prog_14_method_50_code 53 = .ok (.invokevirtual 138, 3) := by decide +kernel
theorem d_Mo_change_56 : decode prog_14_method_50_code 56 = .ok (.ireturn, 1) := by decide +kernel
theorem d_Mo_change_8 : decode prog_14_method_50_code 8 = .ok (.iload_n 2, 1) := by decide +kernel
theorem d_Mo_change_9 : decode prog_14_method_50_code 9 = .ok (.i2l, 1) := by decide +kernel
theorem d_Mo_change_10 : decode prog_14_method_50_code 10 = .ok (.lconst 0, 1) := by decide +kernel
theorem d_Mo_change_11 : decode prog_14_method_50_code 11 = .ok (.ldc2_w 197, 3) := by decide +kernel
theorem d_Mo_change_14 : decode prog_14_method_50_code 14 = .ok (.invokestatic 56, 3) := by decide +kernel
theorem d_Mo_change_17 : decode prog_14_method_50_code 17 = .ok (.ifCond .eq 34, 3) := by decide +kernel
theorem d_Mo_change_20 : decode prog_14_method_50_code 20 = .ok (.iload_n 3, 1) := by decide +kernel
theorem d_Mo_change_21 : decode prog_14_method_50_code 21 = .ok (.i2l, 1) := by decide +kernel
theorem d_Mo_change_22 : decode prog_14_method_50_code 22 = .ok (.lconst 0, 1) := by decide +kernel
theorem d_Mo_change_23 : decode prog_14_method_50_code 23 = .ok (.iload_n 2, 1) := by decide +kernel
theorem d_Mo_change_24 : decode prog_14_method_50_code 24 = .ok (.ifCond .ne 9, 3) := by decide +kernel
theorem d_Mo_change_33 : decode prog_14_method_50_code 33 = .ok (.iload_n 2, 1) := by decide +kernel
theorem d_Mo_change_34 : decode prog_14_method_50_code 34 = .ok (.iconst 1, 1) := by decide +kernel
theorem d_Mo_change_35 : decode prog_14_method_50_code 35 = .ok (.if_icmp .ne 9, 3) := by decide +kernel
theorem d_Mo_change_44 : decode prog_14_method_50_code 44 = .ok (.lconst 1, 1) := by decide +kernel
theorem d_Mo_change_45 : decode prog_14_method_50_code 45 = .ok (.invokestatic 56, 3) := by decide +kernel
theorem d_Mo_change_48 : decode prog_14_method_50_code 48 = .ok (.ifCond .ne 9, 3) := by decide +kernel
theorem d_Mo_change_57 : decode prog_14_method_50_code 57 = .ok (.aload_n 0, 1) := by decide +kernel
theorem d_Mo_change_58 : decode prog_14_method_50_code 58 = .ok (.iload_n 1, 1) := by decide +kernel
theorem d_Mo_change_59 : decode prog_14_method_50_code 59 = .ok (.iconst 4, 1) := by decide +kernel
theorem d_Mo_change_60 : decode prog_14_method_50_code 60 = .ok (.iload_n 2, 1) := by decide +kernel
theorem d_Mo_change_61 : decode prog_14_method_50_code 61 = .ok (.iadd, 1) := by decide +kernel
theorem d_Mo_change_62 : decode prog_14_method_50_code 62 = .ok (.invokevirtual 158, 3) := by decide +kernel
theorem d_Mo_change_65 : decode prog_14_method_50_code 65 = .ok (.istore 4, 2) := by decide +kernel
theorem d_Mo_change_67 : decode prog_14_method_50_code 67 = .ok (.aload_n 0, 1) := by decide +kernel
theorem d_Mo_change_68 : decode prog_14_method_50_code 68 = .ok (.iload_n 1, 1) := by decide +kernel
theorem d_Mo_change_69 : decode prog_14_method_50_code 69 = .ok (.iconst 4, 1) := by decide +kernel
theorem d_Mo_change_70 : decode prog_14_method_50_code 70 = .ok (.iload_n 2, 1) := by decide +kernel
theorem d_Mo_change_71 : decode prog_14_method_50_code 71 = .ok (.iadd, 1) := by decide +kernel
theorem d_Mo_change_72 : decode prog_14_method_50_code 72 = .ok (.iload_n 3, 1) := by decide +kernel
theorem d_Mo_change_73 : decode prog_14_method_50_code 73 = .ok (.invokevirtual 165, 3) := by decide +kernel
theorem d_Mo_change_76 : decode prog_14_method_50_code 76 = .ok (.iload 4, 2) := by decide +kernel
theorem d_Mo_change_78 : decode prog_14_method_50_code 78 = .ok (.ireturn, 1) := by decide +kernel
theorem d_Mo_change_38 : decode prog_14_method_50_code 38 = .ok (.ldc2_w 193, 3) := by decide +kernel
theorem d_Mo_change_41 : decode prog_14_method_50_code 41 = .ok (.goto 4, 3) := by decide +kernel
theorem d_Mo_change_27 : decode prog_14_method_50_code 27 = .ok (.ldc2_w 199, 3) := by decide +kernel
theorem d_Mo_change_30 : decode prog_14_method_50_code 30 = .ok (.goto 15, 3) := by decide +kernel
set_option maxRecDepth 100000 in
theorem c_Mo_change {N : Nat} {x y v : Int32} {l : Launch} {d q n : Nat} {D : Nat → Int32} {A : Nat → Nat → Int32} {S : Nat → Int32} {h0 : HP} {Q : QT} (hN : N ≤ 8) (e0 : D 0 = nI N) (hE : (wi x (nI 0) (nI N - nI 1) && wi y (nI 0) (nI 2) && wi v (nI 0) (chm y)) = false → Q (some (.int (-1000000000 - nI 1))) n (mo q D (uA A 3 (upd (A 3) 1 (A 3 1 + nI 1))) S h0)) (hOk : ∀ i w, i < N → w ≤ 2 → x = nI i → y = nI w → wi v (nI 0) (chm y) = true → Q (some (.int (D (50 + 7 * i + (4 + w))))) n (mo q (upd D (50 + 7 * i + (4 + w)) v) A S h0)) : Ct l M_Mo_change (d + 2) 0 0 [.ref q, .int x, .int y, .int v] n (mo q D A S h0) Q := by
  refine Ct.of (fun _ => trivial) (by decide) (Nat.le_of_ble_eq_true rfl) ?_
  refine V.aload_n d_Mo_change_0 rfl ?_
  refine V.iload_n d_Mo_change_1 rfl ?_
  refine V.callV1 d_Mo_change_2 k_Mo_207_Mo_isTree_MoV mo_o (Nat.le_of_ble_eq_true rfl) (by omega) (by omega) (c_Mo_isTree ?_)
  rw [e0]
  refine V.ifeqB (tgt := 51) d_Mo_change_5 (by decide) (fun c_5 => ?_) (fun c_5 => ?_)
  · skip
    refine V.aload_n d_Mo_change_51 rfl ?_
    refine V.iconst_ (nI 1) d_Mo_change_52 (by decide +kernel) ?_
    refine V.callV1 d_Mo_change_53 k_Mo_138_Mo_finds_MoV mo_o (Nat.le_of_ble_eq_true rfl) (by omega) (by omega) (c_Mo_finds (by omega) ?_)
    refine V.iret d_Mo_change_56 rfl (Nat.le_of_ble_eq_true rfl) (Nat.le_of_ble_eq_true rfl) ?_
    exact hE (by first | (rw [hif, c_48, Bool.and_false]; done) | (rw [c_17, Bool.and_false, Bool.false_and]; done) | (rw [c_5, Bool.false_and, Bool.false_and]))
  · skip
    refine V.iload_n d_Mo_change_8 rfl ?_
    refine V.i2l d_Mo_change_9 ?_
    refine V.lconst_ ((nI 0).toInt64) d_Mo_change_10 (by decide +kernel) ?_
    refine V.ldc2 (v := 2) d_Mo_change_11 (tm 1261 (by decide +kernel) rfl) ?_
    refine V.eqS (st' := .long ((nI 2).toInt64) :: _) rfl ?_
    refine V.callS3 d_Mo_change_14 k_Mo_56_Mo_inS (Nat.le_of_ble_eq_true rfl) (by omega) (by omega) (c_Mo_in ?_)
    refine V.ifeqB (tgt := 51) d_Mo_change_17 (by decide) (fun c_17 => ?_) (fun c_17 => ?_)
    · skip
      refine V.aload_n d_Mo_change_51 rfl ?_
      refine V.iconst_ (nI 1) d_Mo_change_52 (by decide +kernel) ?_
      refine V.callV1 d_Mo_change_53 k_Mo_138_Mo_finds_MoV mo_o (Nat.le_of_ble_eq_true rfl) (by omega) (by omega) (c_Mo_finds (by omega) ?_)
      refine V.iret d_Mo_change_56 rfl (Nat.le_of_ble_eq_true rfl) (Nat.le_of_ble_eq_true rfl) ?_
      exact hE (by first | (rw [hif, c_48, Bool.and_false]; done) | (rw [c_17, Bool.and_false, Bool.false_and]; done) | (rw [c_5, Bool.false_and, Bool.false_and]))
    · skip
      refine V.iload_n d_Mo_change_20 rfl ?_
      refine V.i2l d_Mo_change_21 ?_
      refine V.lconst_ ((nI 0).toInt64) d_Mo_change_22 (by decide +kernel) ?_
      refine V.iload_n d_Mo_change_23 rfl ?_
      refine V.if_ne (tgt := 33) d_Mo_change_24 (by decide) (fun c_24 => ?_) (fun c_24 => ?_)
      · skip
        refine V.iload_n d_Mo_change_33 rfl ?_
        refine V.iconst_ (nI 1) d_Mo_change_34 (by decide +kernel) ?_
        refine V.icmp_ne (tgt := 44) d_Mo_change_35 (by decide) (fun c_35 => ?_) (fun c_35 => ?_)
        · skip
          have hif : chm y = nI 1 := by
            unfold chm
            first | (rw [if_pos (show y = nI 0 from c_24)]; done) | (rw [if_neg (show ¬ y = nI 0 from c_24), if_pos c_35]; done) | rw [if_neg (show ¬ y = nI 0 from c_24), if_neg c_35]
          refine V.lconst_ ((nI 1).toInt64) d_Mo_change_44 (by decide +kernel) ?_
          refine V.callS3 d_Mo_change_45 k_Mo_56_Mo_inS (Nat.le_of_ble_eq_true rfl) (by omega) (by omega) (c_Mo_in ?_)
          refine V.ifneB (tgt := 57) d_Mo_change_48 (by decide) (fun c_48 => ?_) (fun c_48 => ?_)
          · skip
            rw [← hif] at c_48
            obtain ⟨i, hi, hxi⟩ := tre_nat hN c_5
            obtain ⟨w, hw, hyw⟩ := wi_nat (by decide) c_17
            have hOk' := hOk i w hi hw hxi hyw c_48
            subst hxi
            subst hyw
            refine V.aload_n d_Mo_change_57 rfl ?_
            refine V.iload_n d_Mo_change_58 rfl ?_
            refine V.iconst_ (nI 4) d_Mo_change_59 (by decide +kernel) ?_
            refine V.iload_n d_Mo_change_60 rfl ?_
            refine V.addN d_Mo_change_61 ?_
            refine V.callV2 d_Mo_change_62 k_Mo_158_Mo_of_MoV mo_o (Nat.le_of_ble_eq_true rfl) (by omega) (by omega) (c_Mo_of (by omega) ?_)
            refine V.istore d_Mo_change_65 (by decide) ?_
            refine V.aload_n d_Mo_change_67 rfl ?_
            refine V.iload_n d_Mo_change_68 rfl ?_
            refine V.iconst_ (nI 4) d_Mo_change_69 (by decide +kernel) ?_
            refine V.iload_n d_Mo_change_70 rfl ?_
            refine V.addN d_Mo_change_71 ?_
            refine V.iload_n d_Mo_change_72 rfl ?_
            refine V.callV3 d_Mo_change_73 k_Mo_165_Mo_sets_MoV mo_o (Nat.le_of_ble_eq_true rfl) (by omega) (by omega) (c_Mo_sets (by omega) ?_)
            refine V.iload d_Mo_change_76 rfl ?_
            refine V.iret d_Mo_change_78 rfl (Nat.le_of_ble_eq_true rfl) (Nat.le_of_ble_eq_true rfl) ?_
            exact hOk'
          · skip
            refine V.aload_n d_Mo_change_51 rfl ?_
            refine V.iconst_ (nI 1) d_Mo_change_52 (by decide +kernel) ?_
            refine V.callV1 d_Mo_change_53 k_Mo_138_Mo_finds_MoV mo_o (Nat.le_of_ble_eq_true rfl) (by omega) (by omega) (c_Mo_finds (by omega) ?_)
            refine V.iret d_Mo_change_56 rfl (Nat.le_of_ble_eq_true rfl) (Nat.le_of_ble_eq_true rfl) ?_
            exact hE (by first | (rw [hif, c_48, Bool.and_false]; done) | (rw [c_17, Bool.and_false, Bool.false_and]; done) | (rw [c_5, Bool.false_and, Bool.false_and]))
        · skip
          have hif : chm y = nI 99 := by
            unfold chm
            first | (rw [if_pos (show y = nI 0 from c_24)]; done) | (rw [if_neg (show ¬ y = nI 0 from c_24), if_pos c_35]; done) | rw [if_neg (show ¬ y = nI 0 from c_24), if_neg c_35]
          refine V.ldc2 (v := 99) d_Mo_change_38 (tm 1239 (by decide +kernel) rfl) ?_
          refine V.eqS (st' := .long ((nI 99).toInt64) :: _) rfl ?_
          refine V.goto (tgt := 45) d_Mo_change_41 (by decide) ?_
          refine V.callS3 d_Mo_change_45 k_Mo_56_Mo_inS (Nat.le_of_ble_eq_true rfl) (by omega) (by omega) (c_Mo_in ?_)
          refine V.ifneB (tgt := 57) d_Mo_change_48 (by decide) (fun c_48 => ?_) (fun c_48 => ?_)
          · skip
            rw [← hif] at c_48
            obtain ⟨i, hi, hxi⟩ := tre_nat hN c_5
            obtain ⟨w, hw, hyw⟩ := wi_nat (by decide) c_17
            have hOk' := hOk i w hi hw hxi hyw c_48
            subst hxi
            subst hyw
            refine V.aload_n d_Mo_change_57 rfl ?_
            refine V.iload_n d_Mo_change_58 rfl ?_
            refine V.iconst_ (nI 4) d_Mo_change_59 (by decide +kernel) ?_
            refine V.iload_n d_Mo_change_60 rfl ?_
            refine V.addN d_Mo_change_61 ?_
            refine V.callV2 d_Mo_change_62 k_Mo_158_Mo_of_MoV mo_o (Nat.le_of_ble_eq_true rfl) (by omega) (by omega) (c_Mo_of (by omega) ?_)
            refine V.istore d_Mo_change_65 (by decide) ?_
            refine V.aload_n d_Mo_change_67 rfl ?_
            refine V.iload_n d_Mo_change_68 rfl ?_
            refine V.iconst_ (nI 4) d_Mo_change_69 (by decide +kernel) ?_
            refine V.iload_n d_Mo_change_70 rfl ?_
            refine V.addN d_Mo_change_71 ?_
            refine V.iload_n d_Mo_change_72 rfl ?_
            refine V.callV3 d_Mo_change_73 k_Mo_165_Mo_sets_MoV mo_o (Nat.le_of_ble_eq_true rfl) (by omega) (by omega) (c_Mo_sets (by omega) ?_)
            refine V.iload d_Mo_change_76 rfl ?_
            refine V.iret d_Mo_change_78 rfl (Nat.le_of_ble_eq_true rfl) (Nat.le_of_ble_eq_true rfl) ?_
            exact hOk'
          · skip
            refine V.aload_n d_Mo_change_51 rfl ?_
            refine V.iconst_ (nI 1) d_Mo_change_52 (by decide +kernel) ?_
            refine V.callV1 d_Mo_change_53 k_Mo_138_Mo_finds_MoV mo_o (Nat.le_of_ble_eq_true rfl) (by omega) (by omega) (c_Mo_finds (by omega) ?_)
            refine V.iret d_Mo_change_56 rfl (Nat.le_of_ble_eq_true rfl) (Nat.le_of_ble_eq_true rfl) ?_
            exact hE (by first | (rw [hif, c_48, Bool.and_false]; done) | (rw [c_17, Bool.and_false, Bool.false_and]; done) | (rw [c_5, Bool.false_and, Bool.false_and]))
      · skip
        have hif : chm y = nI 15 := by
          unfold chm
          first | (rw [if_pos (show y = nI 0 from c_24)]; done) | (rw [if_neg (show ¬ y = nI 0 from c_24), if_pos c_35]; done) | rw [if_neg (show ¬ y = nI 0 from c_24), if_neg c_35]
        refine V.ldc2 (v := 15) d_Mo_change_27 (tm 1262 (by decide +kernel) rfl) ?_
        refine V.eqS (st' := .long ((nI 15).toInt64) :: _) rfl ?_
        refine V.goto (tgt := 45) d_Mo_change_30 (by decide) ?_
        refine V.callS3 d_Mo_change_45 k_Mo_56_Mo_inS (Nat.le_of_ble_eq_true rfl) (by omega) (by omega) (c_Mo_in ?_)
        refine V.ifneB (tgt := 57) d_Mo_change_48 (by decide) (fun c_48 => ?_) (fun c_48 => ?_)
        · skip
          rw [← hif] at c_48
          obtain ⟨i, hi, hxi⟩ := tre_nat hN c_5
          obtain ⟨w, hw, hyw⟩ := wi_nat (by decide) c_17
          have hOk' := hOk i w hi hw hxi hyw c_48
          subst hxi
          subst hyw
          refine V.aload_n d_Mo_change_57 rfl ?_
          refine V.iload_n d_Mo_change_58 rfl ?_
          refine V.iconst_ (nI 4) d_Mo_change_59 (by decide +kernel) ?_
          refine V.iload_n d_Mo_change_60 rfl ?_
          refine V.addN d_Mo_change_61 ?_
          refine V.callV2 d_Mo_change_62 k_Mo_158_Mo_of_MoV mo_o (Nat.le_of_ble_eq_true rfl) (by omega) (by omega) (c_Mo_of (by omega) ?_)
          refine V.istore d_Mo_change_65 (by decide) ?_
          refine V.aload_n d_Mo_change_67 rfl ?_
          refine V.iload_n d_Mo_change_68 rfl ?_
          refine V.iconst_ (nI 4) d_Mo_change_69 (by decide +kernel) ?_
          refine V.iload_n d_Mo_change_70 rfl ?_
          refine V.addN d_Mo_change_71 ?_
          refine V.iload_n d_Mo_change_72 rfl ?_
          refine V.callV3 d_Mo_change_73 k_Mo_165_Mo_sets_MoV mo_o (Nat.le_of_ble_eq_true rfl) (by omega) (by omega) (c_Mo_sets (by omega) ?_)
          refine V.iload d_Mo_change_76 rfl ?_
          refine V.iret d_Mo_change_78 rfl (Nat.le_of_ble_eq_true rfl) (Nat.le_of_ble_eq_true rfl) ?_
          exact hOk'
        · skip
          refine V.aload_n d_Mo_change_51 rfl ?_
          refine V.iconst_ (nI 1) d_Mo_change_52 (by decide +kernel) ?_
          refine V.callV1 d_Mo_change_53 k_Mo_138_Mo_finds_MoV mo_o (Nat.le_of_ble_eq_true rfl) (by omega) (by omega) (c_Mo_finds (by omega) ?_)
          refine V.iret d_Mo_change_56 rfl (Nat.le_of_ble_eq_true rfl) (Nat.le_of_ble_eq_true rfl) ?_
          exact hE (by first | (rw [hif, c_48, Bool.and_false]; done) | (rw [c_17, Bool.and_false, Bool.false_and]; done) | (rw [c_5, Bool.false_and, Bool.false_and]))
abbrev M_Mo_become : MD := (⟨"FelledByNamesModel", "become", "(II)I"⟩, prog_14_method_51_code, 4, (some .int), fun _ => True)
theorem d_Mo_become_0 : decode prog_14_method_51_code 0 = .ok (.aload_n 0, 1) := by decide +kernel
theorem d_Mo_become_1 : decode prog_14_method_51_code 1 = .ok (.iload_n 1, 1) := by decide +kernel
theorem d_Mo_become_2 : decode prog_14_method_51_code 2 = .ok (.invokevirtual 207, 3) := by decide +kernel
theorem d_Mo_become_5 : decode prog_14_method_51_code 5 = .ok (.ifCond .eq 15, 3) := by decide +kernel
theorem d_Mo_become_20 : decode prog_14_method_51_code 20 = .ok (.aload_n 0, 1) := by decide +kernel
theorem d_Mo_become_21 : decode prog_14_method_51_code 21 = .ok (.iconst 1, 1) := by decide +kernel
theorem d_Mo_become_22 : decode prog_14_method_51_code 22 = .ok (.invokevirtual 138, 3) := by decide +kernel
theorem d_Mo_become_25 : decode prog_14_method_51_code 25 = .ok (.ireturn, 1) := by decide +kernel
theorem d_Mo_become_8 : decode prog_14_method_51_code 8 = .ok (.iload_n 2, 1) := by decide +kernel
theorem d_Mo_become_9 : decode prog_14_method_51_code 9 = .ok (.i2l, 1) := by decide +kernel
theorem d_Mo_become_10 : decode prog_14_method_51_code 10 = .ok (.lconst 0, 1) := by decide +kernel
theorem d_Mo_become_11 : decode prog_14_method_51_code 11 = .ok (.ldc2_w 205, 3) := by decide +kernel
theorem d_Mo_become_14 : decode prog_14_method_51_code 14 = .ok (.invokestatic 56, 3) := by decide +kernel
theorem d_Mo_become_17 : decode prog_14_method_51_code 17 = .ok (.ifCond .ne 9, 3) := by decide +kernel
theorem d_Mo_become_26 : decode prog_14_method_51_code 26 = .ok (.aload_n 0, 1) := by decide +kernel
theorem d_Mo_become_27 : decode prog_14_method_51_code 27 = .ok (.iload_n 1, 1) := by decide +kernel
theorem d_Mo_become_28 : decode prog_14_method_51_code 28 = .ok (.iconst 0, 1) := by decide +kernel
theorem d_Mo_become_29 : decode prog_14_method_51_code 29 = .ok (.invokevirtual 158, 3) := by decide +kernel
theorem d_Mo_become_32 : decode prog_14_method_51_code 32 = .ok (.istore_n 3, 1) := by decide +kernel
theorem d_Mo_become_33 : decode prog_14_method_51_code 33 = .ok (.aload_n 0, 1) := by decide +kernel
theorem d_Mo_become_34 : decode prog_14_method_51_code 34 = .ok (.iload_n 1, 1) := by decide +kernel
theorem d_Mo_become_35 : decode prog_14_method_51_code 35 = .ok (.iconst 0, 1) := by decide +kernel
theorem d_Mo_become_36 : decode prog_14_method_51_code 36 = .ok (.iload_n 2, 1) := by decide +kernel
theorem d_Mo_become_37 : decode prog_14_method_51_code 37 = .ok (.bipush 10, 2) := by decide +kernel
theorem d_Mo_become_39 : decode prog_14_method_51_code 39 = .ok (.idiv, 1) := by decide +kernel
theorem d_Mo_become_40 : decode prog_14_method_51_code 40 = .ok (.invokevirtual 165, 3) := by decide +kernel
theorem d_Mo_become_43 : decode prog_14_method_51_code 43 = .ok (.aload_n 0, 1) := by decide +kernel
theorem d_Mo_become_44 : decode prog_14_method_51_code 44 = .ok (.iload_n 1, 1) := by decide +kernel
theorem d_Mo_become_45 : decode prog_14_method_51_code 45 = .ok (.iconst 1, 1) := by decide +kernel
theorem d_Mo_become_46 : decode prog_14_method_51_code 46 = .ok (.iload_n 2, 1) := by decide +kernel
theorem d_Mo_become_47 : decode prog_14_method_51_code 47 = .ok (.bipush 10, 2) := by decide +kernel
theorem d_Mo_become_49 : decode prog_14_method_51_code 49 = .ok (.irem, 1) := by decide +kernel
theorem d_Mo_become_50 : decode prog_14_method_51_code 50 = .ok (.invokevirtual 165, 3) := by decide +kernel
theorem d_Mo_become_53 : decode prog_14_method_51_code 53 = .ok (.iload_n 3, 1) := by decide +kernel
theorem d_Mo_become_54 : decode prog_14_method_51_code 54 = .ok (.ireturn, 1) := by decide +kernel
set_option maxRecDepth 100000 in
theorem c_Mo_become {N : Nat} {x y : Int32} {l : Launch} {d q n : Nat} {D : Nat → Int32} {A : Nat → Nat → Int32} {S : Nat → Int32} {h0 : HP} {Q : QT} (hN : N ≤ 8) (e0 : D 0 = nI N) (hE : (wi x (nI 0) (nI N - nI 1) && wi y (nI 0) (nI 69)) = false → Q (some (.int (-1000000000 - nI 1))) n (mo q D (uA A 3 (upd (A 3) 1 (A 3 1 + nI 1))) S h0)) (hOk : ∀ i a, i < N → a ≤ 69 → x = nI i → y = nI a → Q (some (.int (D (50 + 7 * i + 0)))) n (mo q (upd (upd D (50 + 7 * i + 0) (nI (a / 10))) (50 + 7 * i + 1) (nI (a % 10))) A S h0)) : Ct l M_Mo_become (d + 2) 0 0 [.ref q, .int x, .int y] n (mo q D A S h0) Q := by
  refine Ct.of (fun _ => trivial) (by decide) (Nat.le_of_ble_eq_true rfl) ?_
  refine V.aload_n d_Mo_become_0 rfl ?_
  refine V.iload_n d_Mo_become_1 rfl ?_
  refine V.callV1 d_Mo_become_2 k_Mo_207_Mo_isTree_MoV mo_o (Nat.le_of_ble_eq_true rfl) (by omega) (by omega) (c_Mo_isTree ?_)
  rw [e0]
  refine V.ifeqB (tgt := 20) d_Mo_become_5 (by decide) (fun c_5 => ?_) (fun c_5 => ?_)
  · skip
    refine V.aload_n d_Mo_become_20 rfl ?_
    refine V.iconst_ (nI 1) d_Mo_become_21 (by decide +kernel) ?_
    refine V.callV1 d_Mo_become_22 k_Mo_138_Mo_finds_MoV mo_o (Nat.le_of_ble_eq_true rfl) (by omega) (by omega) (c_Mo_finds (by omega) ?_)
    refine V.iret d_Mo_become_25 rfl (Nat.le_of_ble_eq_true rfl) (Nat.le_of_ble_eq_true rfl) ?_
    exact hE (by simp only [c_5, Bool.and_false, Bool.false_and, Bool.and_true, Bool.true_and])
  · skip
    refine V.iload_n d_Mo_become_8 rfl ?_
    refine V.i2l d_Mo_become_9 ?_
    refine V.lconst_ ((nI 0).toInt64) d_Mo_become_10 (by decide +kernel) ?_
    refine V.ldc2 (v := 69) d_Mo_become_11 (tm 1269 (by decide +kernel) rfl) ?_
    refine V.eqS (st' := .long ((nI 69).toInt64) :: _) rfl ?_
    refine V.callS3 d_Mo_become_14 k_Mo_56_Mo_inS (Nat.le_of_ble_eq_true rfl) (by omega) (by omega) (c_Mo_in ?_)
    refine V.ifneB (tgt := 26) d_Mo_become_17 (by decide) (fun c_17 => ?_) (fun c_17 => ?_)
    · skip
      obtain ⟨i, hi, rfl⟩ := tre_nat hN c_5
      obtain ⟨a, ha, rfl⟩ := wi_nat (by decide) c_17
      refine V.aload_n d_Mo_become_26 rfl ?_
      refine V.iload_n d_Mo_become_27 rfl ?_
      refine V.iconst_ (nI 0) d_Mo_become_28 (by decide +kernel) ?_
      refine V.callV2 d_Mo_become_29 k_Mo_158_Mo_of_MoV mo_o (Nat.le_of_ble_eq_true rfl) (by omega) (by omega) (c_Mo_of (by omega) ?_)
      refine V.istore_n d_Mo_become_32 (by decide) ?_
      refine V.aload_n d_Mo_become_33 rfl ?_
      refine V.iload_n d_Mo_become_34 rfl ?_
      refine V.iconst_ (nI 0) d_Mo_become_35 (by decide +kernel) ?_
      refine V.iload_n d_Mo_become_36 rfl ?_
      refine V.bipush_ (nI 10) d_Mo_become_37 (by decide +kernel) ?_
      refine V.divN d_Mo_become_39 (by omega) (by omega) (by omega) ?_
      refine V.callV3 d_Mo_become_40 k_Mo_165_Mo_sets_MoV mo_o (Nat.le_of_ble_eq_true rfl) (by omega) (by omega) (c_Mo_sets (by omega) ?_)
      refine V.aload_n d_Mo_become_43 rfl ?_
      refine V.iload_n d_Mo_become_44 rfl ?_
      refine V.iconst_ (nI 1) d_Mo_become_45 (by decide +kernel) ?_
      refine V.iload_n d_Mo_become_46 rfl ?_
      refine V.bipush_ (nI 10) d_Mo_become_47 (by decide +kernel) ?_
      refine V.remN d_Mo_become_49 (by omega) (by omega) (by omega) ?_
      refine V.callV3 d_Mo_become_50 k_Mo_165_Mo_sets_MoV mo_o (Nat.le_of_ble_eq_true rfl) (by omega) (by omega) (c_Mo_sets (by omega) ?_)
      refine V.iload_n d_Mo_become_53 rfl ?_
      refine V.iret d_Mo_become_54 rfl (Nat.le_of_ble_eq_true rfl) (Nat.le_of_ble_eq_true rfl) ?_
      exact hOk i a hi ha rfl rfl
    · skip
      refine V.aload_n d_Mo_become_20 rfl ?_
      refine V.iconst_ (nI 1) d_Mo_become_21 (by decide +kernel) ?_
      refine V.callV1 d_Mo_become_22 k_Mo_138_Mo_finds_MoV mo_o (Nat.le_of_ble_eq_true rfl) (by omega) (by omega) (c_Mo_finds (by omega) ?_)
      refine V.iret d_Mo_become_25 rfl (Nat.le_of_ble_eq_true rfl) (Nat.le_of_ble_eq_true rfl) ?_
      exact hE (by simp only [c_5, c_17, Bool.and_false, Bool.false_and, Bool.and_true, Bool.true_and])
abbrev M_Mo_as : MD := (⟨"FelledByNamesModel", "as", "(II)I"⟩, prog_14_method_52_code, 4, (some .int), fun _ => True)
theorem d_Mo_as_0 : decode prog_14_method_52_code 0 = .ok (.aload_n 0, 1) := by decide +kernel
theorem d_Mo_as_1 : decode prog_14_method_52_code 1 = .ok (.iload_n 1, 1) := by decide +kernel
theorem d_Mo_as_2 : decode prog_14_method_52_code 2 = .ok (.invokevirtual 207, 3) := by decide +kernel
theorem d_Mo_as_5 : decode prog_14_method_52_code 5 = .ok (.ifCond .eq 15, 3) := by decide +kernel
theorem d_Mo_as_20 : decode prog_14_method_52_code 20 = .ok (.aload_n 0, 1) := by decide +kernel
theorem d_Mo_as_21 : decode prog_14_method_52_code 21 = .ok (.iconst 1, 1) := by decide +kernel
theorem d_Mo_as_22 : decode prog_14_method_52_code 22 = .ok (.invokevirtual 138, 3) := by decide +kernel
theorem d_Mo_as_25 : decode prog_14_method_52_code 25 = .ok (.ireturn, 1) := by decide +kernel
theorem d_Mo_as_8 : decode prog_14_method_52_code 8 = .ok (.iload_n 2, 1) := by decide +kernel
theorem d_Mo_as_9 : decode prog_14_method_52_code 9 = .ok (.i2l, 1) := by decide +kernel
theorem d_Mo_as_10 : decode prog_14_method_52_code 10 = .ok (.lconst 0, 1) := by decide +kernel
theorem d_Mo_as_11 : decode prog_14_method_52_code 11 = .ok (.ldc2_w 212, 3) := by decide +kernel
theorem d_Mo_as_14 : decode prog_14_method_52_code 14 = .ok (.invokestatic 56, 3) := by decide +kernel
theorem d_Mo_as_17 : decode prog_14_method_52_code 17 = .ok (.ifCond .ne 9, 3) := by decide +kernel
theorem d_Mo_as_26 : decode prog_14_method_52_code 26 = .ok (.aload_n 0, 1) := by decide +kernel
theorem d_Mo_as_27 : decode prog_14_method_52_code 27 = .ok (.iload_n 1, 1) := by decide +kernel
theorem d_Mo_as_28 : decode prog_14_method_52_code 28 = .ok (.iconst 0, 1) := by decide +kernel
theorem d_Mo_as_29 : decode prog_14_method_52_code 29 = .ok (.invokevirtual 158, 3) := by decide +kernel
theorem d_Mo_as_32 : decode prog_14_method_52_code 32 = .ok (.istore_n 3, 1) := by decide +kernel
theorem d_Mo_as_33 : decode prog_14_method_52_code 33 = .ok (.iload_n 2, 1) := by decide +kernel
theorem d_Mo_as_34 : decode prog_14_method_52_code 34 = .ok (.ifCond .eq 16, 3) := by decide +kernel
theorem d_Mo_as_50 : decode prog_14_method_52_code 50 = .ok (.aload_n 0, 1) := by decide +kernel
theorem d_Mo_as_51 : decode prog_14_method_52_code 51 = .ok (.iload_n 1, 1) := by decide +kernel
theorem d_Mo_as_52 : decode prog_14_method_52_code 52 = .ok (.iconst 1, 1) := by decide +kernel
theorem d_Mo_as_53 : decode prog_14_method_52_code 53 = .ok (.invokevirtual 158, 3) := by decide +kernel
theorem d_Mo_as_56 : decode prog_14_method_52_code 56 = .ok (.goto 8, 3) := by decide +kernel
theorem d_Mo_as_64 : decode prog_14_method_52_code 64 = .ok (.ireturn, 1) := by decide +kernel
theorem d_Mo_as_37 : decode prog_14_method_52_code 37 = .ok (.iload_n 3, 1) := by decide +kernel
theorem d_Mo_as_38 : decode prog_14_method_52_code 38 = .ok (.iload_n 2, 1) := by decide +kernel
theorem d_Mo_as_39 : decode prog_14_method_52_code 39 = .ok (.if_icmp .eq 11, 3) := by decide +kernel
theorem d_Mo_as_42 : decode prog_14_method_52_code 42 = .ok (.iload_n 3, 1) := by decide +kernel
theorem d_Mo_as_43 : decode prog_14_method_52_code 43 = .ok (.invokestatic 214, 3) := by decide +kernel
theorem kB_Mo_above : kB M_Mo_above 1 := ⟨tm 15 (by decide +kernel) rfl, tm 1310 (by decide +kernel) rfl, ⟨by decide, by decide, by decide +kernel⟩, by decide⟩
theorem k_Mo_214_Mo_aboveS : kS "FelledByNamesModel" 214 M_Mo_above 1 := ⟨kB_Mo_above, tm 1308 (by decide +kernel) rfl, tm 1309 (by decide +kernel) rfl⟩
theorem d_Mo_as_46 : decode prog_14_method_52_code 46 = .ok (.iload_n 2, 1) := by decide +kernel
theorem d_Mo_as_47 : decode prog_14_method_52_code 47 = .ok (.if_icmp .ne 12, 3) := by decide +kernel
theorem d_Mo_as_59 : decode prog_14_method_52_code 59 = .ok (.aload_n 0, 1) := by decide +kernel
theorem d_Mo_as_60 : decode prog_14_method_52_code 60 = .ok (.iconst 5, 1) := by decide +kernel
theorem d_Mo_as_61 : decode prog_14_method_52_code 61 = .ok (.invokevirtual 138, 3) := by decide +kernel
set_option maxRecDepth 100000 in
theorem c_Mo_as {N : Nat} {x y : Int32} {l : Launch} {d q n : Nat} {D : Nat → Int32} {A : Nat → Nat → Int32} {S : Nat → Int32} {h0 : HP} {Q : QT} (hN : N ≤ 8) (e0 : D 0 = nI N) (hT : TS D N) (hE : (wi x (nI 0) (nI N - nI 1) && wi y (nI 0) (nI 6)) = false → Q (some (.int (-1000000000 - nI 1))) n (mo q D (uA A 3 (upd (A 3) 1 (A 3 1 + nI 1))) S h0)) (hK : ∀ i k w, i < N → D (50 + 7 * i + 0) = nI k → k ≤ 6 → w ≤ 6 → x = nI i → y = nI w → ¬ (w = 0 ∨ k = w ∨ k - 3 = w) → Q (some (.int (-1000000000 - nI 5))) n (mo q D (uA A 3 (upd (A 3) 5 (A 3 5 + nI 1))) S h0)) (hOk : ∀ i k w, i < N → D (50 + 7 * i + 0) = nI k → k ≤ 6 → w ≤ 6 → x = nI i → y = nI w → (w = 0 ∨ k = w ∨ k - 3 = w) → Q (some (.int (D (50 + 7 * i + 1)))) n (mo q D A S h0)) : Ct l M_Mo_as (d + 2) 0 0 [.ref q, .int x, .int y] n (mo q D A S h0) Q := by
  refine Ct.of (fun _ => trivial) (by decide) (Nat.le_of_ble_eq_true rfl) ?_
  refine V.aload_n d_Mo_as_0 rfl ?_
  refine V.iload_n d_Mo_as_1 rfl ?_
  refine V.callV1 d_Mo_as_2 k_Mo_207_Mo_isTree_MoV mo_o (Nat.le_of_ble_eq_true rfl) (by omega) (by omega) (c_Mo_isTree ?_)
  rw [e0]
  refine V.ifeqB (tgt := 20) d_Mo_as_5 (by decide) (fun c_5 => ?_) (fun c_5 => ?_)
  · skip
    refine V.aload_n d_Mo_as_20 rfl ?_
    refine V.iconst_ (nI 1) d_Mo_as_21 (by decide +kernel) ?_
    refine V.callV1 d_Mo_as_22 k_Mo_138_Mo_finds_MoV mo_o (Nat.le_of_ble_eq_true rfl) (by omega) (by omega) (c_Mo_finds (by omega) ?_)
    refine V.iret d_Mo_as_25 rfl (Nat.le_of_ble_eq_true rfl) (Nat.le_of_ble_eq_true rfl) ?_
    exact hE (by simp only [c_5, Bool.and_false, Bool.false_and, Bool.and_true, Bool.true_and])
  · skip
    refine V.iload_n d_Mo_as_8 rfl ?_
    refine V.i2l d_Mo_as_9 ?_
    refine V.lconst_ ((nI 0).toInt64) d_Mo_as_10 (by decide +kernel) ?_
    refine V.ldc2 (v := 6) d_Mo_as_11 (tm 1307 (by decide +kernel) rfl) ?_
    refine V.eqS (st' := .long ((nI 6).toInt64) :: _) rfl ?_
    refine V.callS3 d_Mo_as_14 k_Mo_56_Mo_inS (Nat.le_of_ble_eq_true rfl) (by omega) (by omega) (c_Mo_in ?_)
    refine V.ifneB (tgt := 26) d_Mo_as_17 (by decide) (fun c_17 => ?_) (fun c_17 => ?_)
    · skip
      obtain ⟨i, hi, rfl⟩ := tre_nat hN c_5
      obtain ⟨w, hw, rfl⟩ := wi_nat (by decide) c_17
      obtain ⟨k, hk, ek⟩ := (hT i hi).1
      refine V.aload_n d_Mo_as_26 rfl ?_
      refine V.iload_n d_Mo_as_27 rfl ?_
      refine V.iconst_ (nI 0) d_Mo_as_28 (by decide +kernel) ?_
      refine V.callV2 d_Mo_as_29 k_Mo_158_Mo_of_MoV mo_o (Nat.le_of_ble_eq_true rfl) (by omega) (by omega) (c_Mo_of (by omega) ?_)
      refine V.top ek ?_
      refine V.istore_n d_Mo_as_32 (by decide) ?_
      refine V.iload_n d_Mo_as_33 rfl ?_
      refine V.if_eq (tgt := 50) d_Mo_as_34 (by decide) (fun c_34 => ?_) (fun c_34 => ?_)
      · skip
        refine V.aload_n d_Mo_as_50 rfl ?_
        refine V.iload_n d_Mo_as_51 rfl ?_
        refine V.iconst_ (nI 1) d_Mo_as_52 (by decide +kernel) ?_
        refine V.callV2 d_Mo_as_53 k_Mo_158_Mo_of_MoV mo_o (Nat.le_of_ble_eq_true rfl) (by omega) (by omega) (c_Mo_of (by omega) ?_)
        refine V.goto (tgt := 64) d_Mo_as_56 (by decide) ?_
        refine V.iret d_Mo_as_64 rfl (Nat.le_of_ble_eq_true rfl) (Nat.le_of_ble_eq_true rfl) ?_
        first | exact hOk i k w hi ek hk hw rfl rfl (Or.inl ((nI_eq (by omega) (by decide)).mp (show nI w = nI 0 from c_34))) | exact hOk i k w hi ek hk hw rfl rfl (Or.inr (Or.inl c_39)) | exact hOk i k w hi ek hk hw rfl rfl (Or.inr (Or.inr c_47)) | exact hK i k w hi ek hk hw rfl rfl (fun z => z.elim (fun z => c_34 (by rw [z]; rfl)) (fun z => z.elim c_39 c_47))
      · skip
        refine V.iload_n d_Mo_as_37 rfl ?_
        refine V.iload_n d_Mo_as_38 rfl ?_
        refine V.eqN (tgt := 50) d_Mo_as_39 (by decide) (by omega) (by omega) (fun c_39 => ?_) (fun c_39 => ?_)
        · skip
          refine V.aload_n d_Mo_as_50 rfl ?_
          refine V.iload_n d_Mo_as_51 rfl ?_
          refine V.iconst_ (nI 1) d_Mo_as_52 (by decide +kernel) ?_
          refine V.callV2 d_Mo_as_53 k_Mo_158_Mo_of_MoV mo_o (Nat.le_of_ble_eq_true rfl) (by omega) (by omega) (c_Mo_of (by omega) ?_)
          refine V.goto (tgt := 64) d_Mo_as_56 (by decide) ?_
          refine V.iret d_Mo_as_64 rfl (Nat.le_of_ble_eq_true rfl) (Nat.le_of_ble_eq_true rfl) ?_
          first | exact hOk i k w hi ek hk hw rfl rfl (Or.inl ((nI_eq (by omega) (by decide)).mp (show nI w = nI 0 from c_34))) | exact hOk i k w hi ek hk hw rfl rfl (Or.inr (Or.inl c_39)) | exact hOk i k w hi ek hk hw rfl rfl (Or.inr (Or.inr c_47)) | exact hK i k w hi ek hk hw rfl rfl (fun z => z.elim (fun z => c_34 (by rw [z]; rfl)) (fun z => z.elim c_39 c_47))
        · skip
          refine V.iload_n d_Mo_as_42 rfl ?_
          refine V.callS1 d_Mo_as_43 k_Mo_214_Mo_aboveS (Nat.le_of_ble_eq_true rfl) (by omega) (by omega) (c_Mo_above (by omega) ?_)
          refine V.iload_n d_Mo_as_46 rfl ?_
          refine V.neN (tgt := 59) d_Mo_as_47 (by decide) (by omega) (by omega) (fun c_47 => ?_) (fun c_47 => ?_)
          · skip
            refine V.aload_n d_Mo_as_59 rfl ?_
            refine V.iconst_ (nI 5) d_Mo_as_60 (by decide +kernel) ?_
            refine V.callV1 d_Mo_as_61 k_Mo_138_Mo_finds_MoV mo_o (Nat.le_of_ble_eq_true rfl) (by omega) (by omega) (c_Mo_finds (by omega) ?_)
            refine V.iret d_Mo_as_64 rfl (Nat.le_of_ble_eq_true rfl) (Nat.le_of_ble_eq_true rfl) ?_
            first | exact hOk i k w hi ek hk hw rfl rfl (Or.inl ((nI_eq (by omega) (by decide)).mp (show nI w = nI 0 from c_34))) | exact hOk i k w hi ek hk hw rfl rfl (Or.inr (Or.inl c_39)) | exact hOk i k w hi ek hk hw rfl rfl (Or.inr (Or.inr c_47)) | exact hK i k w hi ek hk hw rfl rfl (fun z => z.elim (fun z => c_34 (by rw [z]; rfl)) (fun z => z.elim c_39 c_47))
          · skip
            refine V.aload_n d_Mo_as_50 rfl ?_
            refine V.iload_n d_Mo_as_51 rfl ?_
            refine V.iconst_ (nI 1) d_Mo_as_52 (by decide +kernel) ?_
            refine V.callV2 d_Mo_as_53 k_Mo_158_Mo_of_MoV mo_o (Nat.le_of_ble_eq_true rfl) (by omega) (by omega) (c_Mo_of (by omega) ?_)
            refine V.goto (tgt := 64) d_Mo_as_56 (by decide) ?_
            refine V.iret d_Mo_as_64 rfl (Nat.le_of_ble_eq_true rfl) (Nat.le_of_ble_eq_true rfl) ?_
            first | exact hOk i k w hi ek hk hw rfl rfl (Or.inl ((nI_eq (by omega) (by decide)).mp (show nI w = nI 0 from c_34))) | exact hOk i k w hi ek hk hw rfl rfl (Or.inr (Or.inl c_39)) | exact hOk i k w hi ek hk hw rfl rfl (Or.inr (Or.inr c_47)) | exact hK i k w hi ek hk hw rfl rfl (fun z => z.elim (fun z => c_34 (by rw [z]; rfl)) (fun z => z.elim c_39 c_47))
    · skip
      refine V.aload_n d_Mo_as_20 rfl ?_
      refine V.iconst_ (nI 1) d_Mo_as_21 (by decide +kernel) ?_
      refine V.callV1 d_Mo_as_22 k_Mo_138_Mo_finds_MoV mo_o (Nat.le_of_ble_eq_true rfl) (by omega) (by omega) (c_Mo_finds (by omega) ?_)
      refine V.iret d_Mo_as_25 rfl (Nat.le_of_ble_eq_true rfl) (Nat.le_of_ble_eq_true rfl) ?_
      exact hE (by simp only [c_5, c_17, Bool.and_false, Bool.false_and, Bool.and_true, Bool.true_and])
abbrev M_Mo_seed : MD := (⟨"FelledByNamesModel", "seed", "(I)I"⟩, prog_14_method_70_code, 3, (some .int), fun _ => True)
theorem d_Mo_seed_0 : decode prog_14_method_70_code 0 = .ok (.aload_n 0, 1) := by decide +kernel
theorem d_Mo_seed_1 : decode prog_14_method_70_code 1 = .ok (.getfield 7, 3) := by decide +kernel
theorem d_Mo_seed_4 : decode prog_14_method_70_code 4 = .ok (.iconst 5, 1) := by decide +kernel
theorem d_Mo_seed_5 : decode prog_14_method_70_code 5 = .ok (.iaload, 1) := by decide +kernel
theorem d_Mo_seed_6 : decode prog_14_method_70_code 6 = .ok (.istore_n 2, 1) := by decide +kernel
theorem d_Mo_seed_7 : decode prog_14_method_70_code 7 = .ok (.aload_n 0, 1) := by decide +kernel
theorem d_Mo_seed_8 : decode prog_14_method_70_code 8 = .ok (.getfield 7, 3) := by decide +kernel
theorem d_Mo_seed_11 : decode prog_14_method_70_code 11 = .ok (.iconst 5, 1) := by decide +kernel
theorem d_Mo_seed_12 : decode prog_14_method_70_code 12 = .ok (.iload_n 1, 1) := by decide +kernel
theorem d_Mo_seed_13 : decode prog_14_method_70_code 13 = .ok (.iastore, 1) := by decide +kernel
theorem d_Mo_seed_14 : decode prog_14_method_70_code 14 = .ok (.iload_n 2, 1) := by decide +kernel
theorem d_Mo_seed_15 : decode prog_14_method_70_code 15 = .ok (.ireturn, 1) := by decide +kernel
set_option maxRecDepth 100000 in
theorem c_Mo_seed {v : Int32} {l : Launch} {d q n : Nat} {D : Nat → Int32} {A : Nat → Nat → Int32} {S : Nat → Int32} {h0 : HP} {Q : QT} (hQ : Q (some (.int (D 5))) n (mo q (upd D 5 v) A S h0)) : Ct l M_Mo_seed d 0 0 [.ref q, .int v] n (mo q D A S h0) Q := by
  refine Ct.of (fun _ => trivial) (by decide) (Nat.le_of_ble_eq_true rfl) ?_
  refine V.aload_n d_Mo_seed_0 rfl ?_
  refine V.get d_Mo_seed_1 f_Mo_7_Mo mo_o rfl ?_
  refine V.iconst_ (nI 5) d_Mo_seed_4 (by decide +kernel) ?_
  refine V.mldd d_Mo_seed_5 (by omega) ?_
  refine V.istore_n d_Mo_seed_6 (by decide) ?_
  refine V.aload_n d_Mo_seed_7 rfl ?_
  refine V.get d_Mo_seed_8 f_Mo_7_Mo mo_o rfl ?_
  refine V.iconst_ (nI 5) d_Mo_seed_11 (by decide +kernel) ?_
  refine V.iload_n d_Mo_seed_12 rfl ?_
  refine V.mstd d_Mo_seed_13 (by omega) ?_
  refine V.iload_n d_Mo_seed_14 rfl ?_
  refine V.iret d_Mo_seed_15 rfl (Nat.le_of_ble_eq_true rfl) (Nat.le_of_ble_eq_true rfl) ?_
  exact hQ
abbrev M_Mo_trace : MD := (⟨"FelledByNamesModel", "trace", "(I)I"⟩, prog_14_method_77_code, 2, (some .int), fun _ => True)
theorem d_Mo_trace_0 : decode prog_14_method_77_code 0 = .ok (.iload_n 1, 1) := by decide +kernel
theorem d_Mo_trace_1 : decode prog_14_method_77_code 1 = .ok (.i2l, 1) := by decide +kernel
theorem d_Mo_trace_2 : decode prog_14_method_77_code 2 = .ok (.lconst 0, 1) := by decide +kernel
theorem d_Mo_trace_3 : decode prog_14_method_77_code 3 = .ok (.aload_n 0, 1) := by decide +kernel
theorem d_Mo_trace_4 : decode prog_14_method_77_code 4 = .ok (.getfield 251, 3) := by decide +kernel
theorem f_Mo_251_Mo : fok "FelledByNamesModel" 251 5 20 := ⟨R_Mo, F_Mo, 26, "FelledByNamesModel", rfl, i_Mo, by decide, tm 1079 (by decide +kernel) rfl, Or.inl rfl, t_Mo, t_Mo_ok, n_Mo⟩
theorem d_Mo_trace_7 : decode prog_14_method_77_code 7 = .ok (.iconst 1, 1) := by decide +kernel
theorem d_Mo_trace_8 : decode prog_14_method_77_code 8 = .ok (.isub, 1) := by decide +kernel
theorem d_Mo_trace_9 : decode prog_14_method_77_code 9 = .ok (.i2l, 1) := by decide +kernel
theorem d_Mo_trace_10 : decode prog_14_method_77_code 10 = .ok (.invokestatic 56, 3) := by decide +kernel
theorem d_Mo_trace_13 : decode prog_14_method_77_code 13 = .ok (.ifCond .eq 12, 3) := by decide +kernel
theorem d_Mo_trace_25 : decode prog_14_method_77_code 25 = .ok (.aload_n 0, 1) := by decide +kernel
theorem d_Mo_trace_26 : decode prog_14_method_77_code 26 = .ok (.iconst 2, 1) := by decide +kernel
theorem d_Mo_trace_27 : decode prog_14_method_77_code 27 = .ok (.invokevirtual 138, 3) := by decide +kernel
theorem d_Mo_trace_30 : decode prog_14_method_77_code 30 = .ok (.ireturn, 1) := by decide +kernel
theorem d_Mo_trace_16 : decode prog_14_method_77_code 16 = .ok (.aload_n 0, 1) := by decide +kernel
theorem d_Mo_trace_17 : decode prog_14_method_77_code 17 = .ok (.getfield 40, 3) := by decide +kernel
theorem f_Mo_40_Mo : fok "FelledByNamesModel" 40 5 19 := ⟨R_Mo, F_Mo, 26, "FelledByNamesModel", rfl, i_Mo, by decide, tm 1078 (by decide +kernel) rfl, Or.inl rfl, t_Mo, t_Mo_ok, n_Mo⟩
theorem d_Mo_trace_20 : decode prog_14_method_77_code 20 = .ok (.iload_n 1, 1) := by decide +kernel
theorem d_Mo_trace_21 : decode prog_14_method_77_code 21 = .ok (.iaload, 1) := by decide +kernel
theorem d_Mo_trace_22 : decode prog_14_method_77_code 22 = .ok (.goto 8, 3) := by decide +kernel
set_option maxRecDepth 100000 in
theorem c_Mo_trace {tm : Nat} {x : Int32} {l : Launch} {d q n : Nat} {D : Nat → Int32} {A : Nat → Nat → Int32} {S : Nat → Int32} {h0 : HP} {Q : QT} (htm : tm ≤ 40) (et : S 20 = nI tm) (hE : wi x (nI 0) (nI tm - nI 1) = false → Q (some (.int (-1000000000 - nI 2))) n (mo q D (uA A 3 (upd (A 3) 2 (A 3 2 + nI 1))) S h0)) (hOk : ∀ i, i < tm → x = nI i → Q (some (.int (A 10 i))) n (mo q D A S h0)) : Ct l M_Mo_trace (d + 1) 0 0 [.ref q, .int x] n (mo q D A S h0) Q := by
  refine Ct.of (fun _ => trivial) (by decide) (Nat.le_of_ble_eq_true rfl) ?_
  refine V.iload_n d_Mo_trace_0 rfl ?_
  refine V.i2l d_Mo_trace_1 ?_
  refine V.lconst_ ((nI 0).toInt64) d_Mo_trace_2 (by decide +kernel) ?_
  refine V.aload_n d_Mo_trace_3 rfl ?_
  refine V.get d_Mo_trace_4 f_Mo_251_Mo mo_o rfl ?_
  refine V.top et ?_
  refine V.iconst_ (nI 1) d_Mo_trace_7 (by decide +kernel) ?_
  refine V.isub d_Mo_trace_8 ?_
  refine V.i2l d_Mo_trace_9 ?_
  refine V.callS3 d_Mo_trace_10 k_Mo_56_Mo_inS (Nat.le_of_ble_eq_true rfl) (by omega) (by omega) (c_Mo_in ?_)
  refine V.ifeqB (tgt := 25) d_Mo_trace_13 (by decide) (fun c_13 => ?_) (fun c_13 => ?_)
  · skip
    refine V.aload_n d_Mo_trace_25 rfl ?_
    refine V.iconst_ (nI 2) d_Mo_trace_26 (by decide +kernel) ?_
    refine V.callV1 d_Mo_trace_27 k_Mo_138_Mo_finds_MoV mo_o (Nat.le_of_ble_eq_true rfl) (by omega) (by omega) (c_Mo_finds (by omega) ?_)
    refine V.iret d_Mo_trace_30 rfl (Nat.le_of_ble_eq_true rfl) (Nat.le_of_ble_eq_true rfl) ?_
    first | exact hOk i hi rfl | exact hE c_13
  · skip
    obtain ⟨i, hi, rfl⟩ := idx_nat (by omega) c_13
    refine V.aload_n d_Mo_trace_16 rfl ?_
    refine V.get d_Mo_trace_17 f_Mo_40_Mo mo_o rfl ?_
    refine V.iload_n d_Mo_trace_20 rfl ?_
    refine V.mlda 10 (by decide) (by decide) d_Mo_trace_21 (by first | omega | (show _ < 40; omega)) ?_
    refine V.goto (tgt := 30) d_Mo_trace_22 (by decide) ?_
    refine V.iret d_Mo_trace_30 rfl (Nat.le_of_ble_eq_true rfl) (Nat.le_of_ble_eq_true rfl) ?_
    first | exact hOk i hi rfl | exact hE c_13
abbrev M_Mo_told : MD := (⟨"FelledByNamesModel", "told", "(I)I"⟩, prog_14_method_89_code, 2, (some .int), fun _ => True)
theorem d_Mo_told_0 : decode prog_14_method_89_code 0 = .ok (.iload_n 1, 1) := by decide +kernel
theorem d_Mo_told_1 : decode prog_14_method_89_code 1 = .ok (.i2l, 1) := by decide +kernel
theorem d_Mo_told_2 : decode prog_14_method_89_code 2 = .ok (.lconst 1, 1) := by decide +kernel
theorem d_Mo_told_3 : decode prog_14_method_89_code 3 = .ok (.ldc2_w 60, 3) := by decide +kernel
theorem d_Mo_told_6 : decode prog_14_method_89_code 6 = .ok (.invokestatic 56, 3) := by decide +kernel
theorem d_Mo_told_9 : decode prog_14_method_89_code 9 = .ok (.ifCond .eq 12, 3) := by decide +kernel
theorem d_Mo_told_21 : decode prog_14_method_89_code 21 = .ok (.aload_n 0, 1) := by decide +kernel
theorem d_Mo_told_22 : decode prog_14_method_89_code 22 = .ok (.iconst 1, 1) := by decide +kernel
theorem d_Mo_told_23 : decode prog_14_method_89_code 23 = .ok (.invokevirtual 138, 3) := by decide +kernel
theorem d_Mo_told_26 : decode prog_14_method_89_code 26 = .ok (.ireturn, 1) := by decide +kernel
theorem d_Mo_told_12 : decode prog_14_method_89_code 12 = .ok (.aload_n 0, 1) := by decide +kernel
theorem d_Mo_told_13 : decode prog_14_method_89_code 13 = .ok (.getfield 19, 3) := by decide +kernel
theorem d_Mo_told_16 : decode prog_14_method_89_code 16 = .ok (.iload_n 1, 1) := by decide +kernel
theorem d_Mo_told_17 : decode prog_14_method_89_code 17 = .ok (.iaload, 1) := by decide +kernel
theorem d_Mo_told_18 : decode prog_14_method_89_code 18 = .ok (.goto 8, 3) := by decide +kernel
set_option maxRecDepth 100000 in
theorem c_Mo_told {x : Int32} {l : Launch} {d q n : Nat} {D : Nat → Int32} {A : Nat → Nat → Int32} {S : Nat → Int32} {h0 : HP} {Q : QT} (hE : wi x (nI 1) (nI 5) = false → Q (some (.int (-1000000000 - nI 1))) n (mo q D (uA A 3 (upd (A 3) 1 (A 3 1 + nI 1))) S h0)) (hOk : ∀ i, 1 ≤ i → i ≤ 5 → x = nI i → Q (some (.int (A 3 i))) n (mo q D A S h0)) : Ct l M_Mo_told (d + 1) 0 0 [.ref q, .int x] n (mo q D A S h0) Q := by
  refine Ct.of (fun _ => trivial) (by decide) (Nat.le_of_ble_eq_true rfl) ?_
  refine V.iload_n d_Mo_told_0 rfl ?_
  refine V.i2l d_Mo_told_1 ?_
  refine V.lconst_ ((nI 1).toInt64) d_Mo_told_2 (by decide +kernel) ?_
  refine V.ldc2 (v := 5) d_Mo_told_3 (tm 1238 (by decide +kernel) rfl) ?_
  refine V.eqS (st' := .long ((nI 5).toInt64) :: _) rfl ?_
  refine V.callS3 d_Mo_told_6 k_Mo_56_Mo_inS (Nat.le_of_ble_eq_true rfl) (by omega) (by omega) (c_Mo_in ?_)
  refine V.ifeqB (tgt := 21) d_Mo_told_9 (by decide) (fun c_9 => ?_) (fun c_9 => ?_)
  · skip
    refine V.aload_n d_Mo_told_21 rfl ?_
    refine V.iconst_ (nI 1) d_Mo_told_22 (by decide +kernel) ?_
    refine V.callV1 d_Mo_told_23 k_Mo_138_Mo_finds_MoV mo_o (Nat.le_of_ble_eq_true rfl) (by omega) (by omega) (c_Mo_finds (by omega) ?_)
    refine V.iret d_Mo_told_26 rfl (Nat.le_of_ble_eq_true rfl) (Nat.le_of_ble_eq_true rfl) ?_
    first | exact hOk i h1i hi rfl | exact hE c_9
  · skip
    obtain ⟨i, h1i, hi, rfl⟩ := wi_nat1 (by decide) c_9
    refine V.aload_n d_Mo_told_12 rfl ?_
    refine V.get d_Mo_told_13 f_Mo_19_Mo mo_o rfl ?_
    refine V.iload_n d_Mo_told_16 rfl ?_
    refine V.mlda 3 (by decide) (by decide) d_Mo_told_17 (by first | omega | (show _ < 6; omega)) ?_
    refine V.goto (tgt := 26) d_Mo_told_18 (by decide) ?_
    refine V.iret d_Mo_told_26 rfl (Nat.le_of_ble_eq_true rfl) (Nat.le_of_ble_eq_true rfl) ?_
    first | exact hOk i h1i hi rfl | exact hE c_9
abbrev M_Mo_tell : MD := (⟨"FelledByNamesModel", "tell", "(I)I"⟩, prog_14_method_86_code, 2, (some .int), fun _ => True)
theorem d_Mo_tell_0 : decode prog_14_method_86_code 0 = .ok (.aload_n 0, 1) := by decide +kernel
theorem d_Mo_tell_1 : decode prog_14_method_86_code 1 = .ok (.getfield 7, 3) := by decide +kernel
theorem d_Mo_tell_4 : decode prog_14_method_86_code 4 = .ok (.bipush 7, 2) := by decide +kernel
theorem d_Mo_tell_6 : decode prog_14_method_86_code 6 = .ok (.iaload, 1) := by decide +kernel
theorem d_Mo_tell_7 : decode prog_14_method_86_code 7 = .ok (.bipush 20, 2) := by decide +kernel
theorem d_Mo_tell_9 : decode prog_14_method_86_code 9 = .ok (.if_icmp .ne 9, 3) := by decide +kernel
theorem d_Mo_tell_18 : decode prog_14_method_86_code 18 = .ok (.aload_n 0, 1) := by decide +kernel
theorem d_Mo_tell_19 : decode prog_14_method_86_code 19 = .ok (.getfield 7, 3) := by decide +kernel
theorem d_Mo_tell_22 : decode prog_14_method_86_code 22 = .ok (.bipush 108, 2) := by decide +kernel
theorem d_Mo_tell_24 : decode prog_14_method_86_code 24 = .ok (.aload_n 0, 1) := by decide +kernel
theorem d_Mo_tell_25 : decode prog_14_method_86_code 25 = .ok (.getfield 7, 3) := by decide +kernel
theorem d_Mo_tell_28 : decode prog_14_method_86_code 28 = .ok (.bipush 7, 2) := by decide +kernel
theorem d_Mo_tell_30 : decode prog_14_method_86_code 30 = .ok (.iaload, 1) := by decide +kernel
theorem d_Mo_tell_31 : decode prog_14_method_86_code 31 = .ok (.iadd, 1) := by decide +kernel
theorem d_Mo_tell_32 : decode prog_14_method_86_code 32 = .ok (.iload_n 1, 1) := by decide +kernel
theorem d_Mo_tell_33 : decode prog_14_method_86_code 33 = .ok (.iastore, 1) := by decide +kernel
theorem d_Mo_tell_34 : decode prog_14_method_86_code 34 = .ok (.aload_n 0, 1) := by decide +kernel
theorem d_Mo_tell_35 : decode prog_14_method_86_code 35 = .ok (.getfield 7, 3) := by decide +kernel
theorem d_Mo_tell_38 : decode prog_14_method_86_code 38 = .ok (.bipush 7, 2) := by decide +kernel
theorem d_Mo_tell_40 : decode prog_14_method_86_code 40 = .ok (.dup2, 1) := by decide +kernel
theorem d_Mo_tell_41 : decode prog_14_method_86_code 41 = .ok (.iaload, 1) := by decide +kernel
theorem d_Mo_tell_42 : decode prog_14_method_86_code 42 = .ok (.iconst 1, 1) := by decide +kernel
theorem d_Mo_tell_43 : decode prog_14_method_86_code 43 = .ok (.iadd, 1) := by decide +kernel
theorem d_Mo_tell_44 : decode prog_14_method_86_code 44 = .ok (.iastore, 1) := by decide +kernel
theorem d_Mo_tell_45 : decode prog_14_method_86_code 45 = .ok (.aload_n 0, 1) := by decide +kernel
theorem d_Mo_tell_46 : decode prog_14_method_86_code 46 = .ok (.getfield 7, 3) := by decide +kernel
theorem d_Mo_tell_49 : decode prog_14_method_86_code 49 = .ok (.bipush 7, 2) := by decide +kernel
theorem d_Mo_tell_51 : decode prog_14_method_86_code 51 = .ok (.iaload, 1) := by decide +kernel
theorem d_Mo_tell_52 : decode prog_14_method_86_code 52 = .ok (.ireturn, 1) := by decide +kernel
theorem d_Mo_tell_12 : decode prog_14_method_86_code 12 = .ok (.aload_n 0, 1) := by decide +kernel
theorem d_Mo_tell_13 : decode prog_14_method_86_code 13 = .ok (.iconst 4, 1) := by decide +kernel
theorem d_Mo_tell_14 : decode prog_14_method_86_code 14 = .ok (.invokevirtual 138, 3) := by decide +kernel
theorem d_Mo_tell_17 : decode prog_14_method_86_code 17 = .ok (.ireturn, 1) := by decide +kernel
set_option maxRecDepth 100000 in
theorem c_Mo_tell {w : Nat} {v : Int32} {l : Launch} {d q n : Nat} {D : Nat → Int32} {A : Nat → Nat → Int32} {S : Nat → Int32} {h0 : HP} {Q : QT} (hw : w ≤ 20) (ew : D 7 = nI w) (hF : w = 20 → Q (some (.int (-1000000000 - nI 4))) n (mo q D (uA A 3 (upd (A 3) 4 (A 3 4 + nI 1))) S h0)) (hOk : w < 20 → Q (some (.int (nI (w + 1)))) n (mo q (upd (upd D (108 + w) v) 7 (nI (w + 1))) A S h0)) : Ct l M_Mo_tell (d + 1) 0 0 [.ref q, .int v] n (mo q D A S h0) Q := by
  refine Ct.of (fun _ => trivial) (by decide) (Nat.le_of_ble_eq_true rfl) ?_
  refine V.aload_n d_Mo_tell_0 rfl ?_
  refine V.get d_Mo_tell_1 f_Mo_7_Mo mo_o rfl ?_
  refine V.bipush_ (nI 7) d_Mo_tell_4 (by decide +kernel) ?_
  refine V.mldd d_Mo_tell_6 (by omega) ?_
  refine V.top ew ?_
  refine V.bipush_ (nI 20) d_Mo_tell_7 (by decide +kernel) ?_
  refine V.neN (tgt := 18) d_Mo_tell_9 (by decide) (by omega) (by omega) (fun c_9 => ?_) (fun c_9 => ?_)
  · skip
    refine V.aload_n d_Mo_tell_18 rfl ?_
    refine V.get d_Mo_tell_19 f_Mo_7_Mo mo_o rfl ?_
    refine V.bipush_ (nI 108) d_Mo_tell_22 (by decide +kernel) ?_
    refine V.aload_n d_Mo_tell_24 rfl ?_
    refine V.get d_Mo_tell_25 f_Mo_7_Mo mo_o rfl ?_
    refine V.bipush_ (nI 7) d_Mo_tell_28 (by decide +kernel) ?_
    refine V.mldd d_Mo_tell_30 (by omega) ?_
    refine V.top ew ?_
    refine V.addN d_Mo_tell_31 ?_
    refine V.iload_n d_Mo_tell_32 rfl ?_
    refine V.mstd d_Mo_tell_33 (by omega) ?_
    refine V.aload_n d_Mo_tell_34 rfl ?_
    refine V.get d_Mo_tell_35 f_Mo_7_Mo mo_o rfl ?_
    refine V.bipush_ (nI 7) d_Mo_tell_38 (by decide +kernel) ?_
    refine V.dup2 rfl rfl d_Mo_tell_40 ?_
    refine V.mldd d_Mo_tell_41 (by omega) ?_
    refine V.top (show _ = nI w by rw [pk_un (by omega)]; exact ew) ?_
    refine V.iconst_ (nI 1) d_Mo_tell_42 (by decide +kernel) ?_
    refine V.addN d_Mo_tell_43 ?_
    refine V.mstd d_Mo_tell_44 (by omega) ?_
    refine V.aload_n d_Mo_tell_45 rfl ?_
    refine V.get d_Mo_tell_46 f_Mo_7_Mo mo_o rfl ?_
    refine V.bipush_ (nI 7) d_Mo_tell_49 (by decide +kernel) ?_
    refine V.mldd d_Mo_tell_51 (by omega) ?_
    refine V.top pk_us ?_
    refine V.iret d_Mo_tell_52 rfl (Nat.le_of_ble_eq_true rfl) (Nat.le_of_ble_eq_true rfl) ?_
    exact hOk (by omega)
  · skip
    refine V.aload_n d_Mo_tell_12 rfl ?_
    refine V.iconst_ (nI 4) d_Mo_tell_13 (by decide +kernel) ?_
    refine V.callV1 d_Mo_tell_14 k_Mo_138_Mo_finds_MoV mo_o (Nat.le_of_ble_eq_true rfl) (by omega) (by omega) (c_Mo_finds (by omega) ?_)
    refine V.iret d_Mo_tell_17 rfl (Nat.le_of_ble_eq_true rfl) (Nat.le_of_ble_eq_true rfl) ?_
    exact hF c_9
def smh (D : Nat → Int32) : Nat → Int32 := fun k => itr (fun k acc => acc + D (8 + k)) k (nI 0)
def cnt (D : Nat → Int32) (N : Nat) (tr : Int32) (w : Nat) : Int32 := if w < 5 then D w else if w = 5 then stb D N else if w = 6 then smh D 36 else if w = 7 then D 6 else if w = 8 then D 7 else if w = 9 then tr else D 5
abbrev M_Mo_count : MD := (⟨"FelledByNamesModel", "count", "(I)I"⟩, prog_14_method_88_code, 4, (some .int), fun _ => True)
theorem d_Mo_count_0 : decode prog_14_method_88_code 0 = .ok (.iconst 0, 1) := by decide +kernel
theorem d_Mo_count_1 : decode prog_14_method_88_code 1 = .ok (.istore_n 2, 1) := by decide +kernel
theorem d_Mo_count_2 : decode prog_14_method_88_code 2 = .ok (.iload_n 1, 1) := by decide +kernel
theorem d_Mo_count_3 : decode prog_14_method_88_code 3 = .ok (.tableswitch 125 0 10 #[57, 57, 57, 57, 57, 64, 69, 97, 105, 113, 118], 57) := by decide +kernel
theorem d_Mo_count_60 : decode prog_14_method_88_code 60 = .ok (.aload_n 0, 1) := by decide +kernel
theorem d_Mo_count_61 : decode prog_14_method_88_code 61 = .ok (.getfield 7, 3) := by decide +kernel
theorem d_Mo_count_64 : decode prog_14_method_88_code 64 = .ok (.iload_n 1, 1) := by decide +kernel
theorem d_Mo_count_65 : decode prog_14_method_88_code 65 = .ok (.iaload, 1) := by decide +kernel
theorem d_Mo_count_66 : decode prog_14_method_88_code 66 = .ok (.ireturn, 1) := by decide +kernel
theorem d_Mo_count_67 : decode prog_14_method_88_code 67 = .ok (.aload_n 0, 1) := by decide +kernel
theorem d_Mo_count_68 : decode prog_14_method_88_code 68 = .ok (.invokevirtual 234, 3) := by decide +kernel
theorem kB_Mo_standing : kB M_Mo_standing 0 := ⟨tm 15 (by decide +kernel) rfl, tm 1374 (by decide +kernel) rfl, ⟨by decide, by decide, by decide +kernel⟩, by decide⟩
theorem k_Mo_234_Mo_standing_MoV : kV "FelledByNamesModel" 234 5 M_Mo_standing 0 := ⟨kB_Mo_standing, tm 1371 (by decide +kernel) rfl, tm 1373 (by decide +kernel) rfl, tp 44 (by decide +kernel) rfl, _, rfl, rfl⟩
theorem d_Mo_count_71 : decode prog_14_method_88_code 71 = .ok (.ireturn, 1) := by decide +kernel
theorem d_Mo_count_72 : decode prog_14_method_88_code 72 = .ok (.iconst 0, 1) := by decide +kernel
theorem d_Mo_count_73 : decode prog_14_method_88_code 73 = .ok (.istore_n 3, 1) := by decide +kernel
theorem d_Mo_count_74 : decode prog_14_method_88_code 74 = .ok (.iload_n 3, 1) := by decide +kernel
theorem d_Mo_count_75 : decode prog_14_method_88_code 75 = .ok (.bipush 36, 2) := by decide +kernel
theorem d_Mo_count_77 : decode prog_14_method_88_code 77 = .ok (.if_icmp .ge 21, 3) := by decide +kernel
theorem d_Mo_count_98 : decode prog_14_method_88_code 98 = .ok (.iload_n 2, 1) := by decide +kernel
theorem d_Mo_count_99 : decode prog_14_method_88_code 99 = .ok (.ireturn, 1) := by decide +kernel
theorem d_Mo_count_80 : decode prog_14_method_88_code 80 = .ok (.iload_n 2, 1) := by decide +kernel
theorem d_Mo_count_81 : decode prog_14_method_88_code 81 = .ok (.aload_n 0, 1) := by decide +kernel
theorem d_Mo_count_82 : decode prog_14_method_88_code 82 = .ok (.getfield 7, 3) := by decide +kernel
theorem d_Mo_count_85 : decode prog_14_method_88_code 85 = .ok (.bipush 8, 2) := by decide +kernel
theorem d_Mo_count_87 : decode prog_14_method_88_code 87 = .ok (.iload_n 3, 1) := by decide +kernel
theorem d_Mo_count_88 : decode prog_14_method_88_code 88 = .ok (.iadd, 1) := by decide +kernel
theorem d_Mo_count_89 : decode prog_14_method_88_code 89 = .ok (.iaload, 1) := by decide +kernel
theorem d_Mo_count_90 : decode prog_14_method_88_code 90 = .ok (.iadd, 1) := by decide +kernel
theorem d_Mo_count_91 : decode prog_14_method_88_code 91 = .ok (.istore_n 2, 1) := by decide +kernel
theorem d_Mo_count_92 : decode prog_14_method_88_code 92 = .ok (.iinc 3 1, 3) := by decide +kernel
theorem d_Mo_count_95 : decode prog_14_method_88_code 95 = .ok (.goto (-21), 3) := by decide +kernel
theorem d_Mo_count_100 : decode prog_14_method_88_code 100 = .ok (.aload_n 0, 1) := by decide +kernel
theorem d_Mo_count_101 : decode prog_14_method_88_code 101 = .ok (.getfield 7, 3) := by decide +kernel
theorem d_Mo_count_104 : decode prog_14_method_88_code 104 = .ok (.bipush 6, 2) := by decide +kernel
theorem d_Mo_count_106 : decode prog_14_method_88_code 106 = .ok (.iaload, 1) := by decide +kernel
theorem d_Mo_count_107 : decode prog_14_method_88_code 107 = .ok (.ireturn, 1) := by decide +kernel
theorem d_Mo_count_108 : decode prog_14_method_88_code 108 = .ok (.aload_n 0, 1) := by decide +kernel
theorem d_Mo_count_109 : decode prog_14_method_88_code 109 = .ok (.getfield 7, 3) := by decide +kernel
theorem d_Mo_count_112 : decode prog_14_method_88_code 112 = .ok (.bipush 7, 2) := by decide +kernel
theorem d_Mo_count_114 : decode prog_14_method_88_code 114 = .ok (.iaload, 1) := by decide +kernel
theorem d_Mo_count_115 : decode prog_14_method_88_code 115 = .ok (.ireturn, 1) := by decide +kernel
theorem d_Mo_count_116 : decode prog_14_method_88_code 116 = .ok (.aload_n 0, 1) := by decide +kernel
theorem d_Mo_count_117 : decode prog_14_method_88_code 117 = .ok (.getfield 251, 3) := by decide +kernel
theorem d_Mo_count_120 : decode prog_14_method_88_code 120 = .ok (.ireturn, 1) := by decide +kernel
theorem d_Mo_count_121 : decode prog_14_method_88_code 121 = .ok (.aload_n 0, 1) := by decide +kernel
theorem d_Mo_count_122 : decode prog_14_method_88_code 122 = .ok (.getfield 7, 3) := by decide +kernel
theorem d_Mo_count_125 : decode prog_14_method_88_code 125 = .ok (.iconst 5, 1) := by decide +kernel
theorem d_Mo_count_126 : decode prog_14_method_88_code 126 = .ok (.iaload, 1) := by decide +kernel
theorem d_Mo_count_127 : decode prog_14_method_88_code 127 = .ok (.ireturn, 1) := by decide +kernel
theorem d_Mo_count_128 : decode prog_14_method_88_code 128 = .ok (.aload_n 0, 1) := by decide +kernel
theorem d_Mo_count_129 : decode prog_14_method_88_code 129 = .ok (.iconst 1, 1) := by decide +kernel
theorem d_Mo_count_130 : decode prog_14_method_88_code 130 = .ok (.invokevirtual 138, 3) := by decide +kernel
theorem d_Mo_count_133 : decode prog_14_method_88_code 133 = .ok (.ireturn, 1) := by decide +kernel
set_option maxRecDepth 100000 in
theorem c_Mo_count {N : Nat} {x : Int32} {l : Launch} {d q n : Nat} {D : Nat → Int32} {A : Nat → Nat → Int32} {S : Nat → Int32} {h0 : HP} {Q : QT} (hN : N ≤ 8) (e0 : D 0 = nI N) (hE : wi x (nI 0) (nI 10) = false → Q (some (.int (-1000000000 - nI 1))) n (mo q D (uA A 3 (upd (A 3) 1 (A 3 1 + nI 1))) S h0)) (hOk : ∀ w, w ≤ 10 → x = nI w → Q (some (.int (cnt D N (S 20) w))) n (mo q D A S h0)) : Ct l M_Mo_count (d + 2) 0 0 [.ref q, .int x] n (mo q D A S h0) Q := by
  refine Ct.of (fun _ => trivial) (by decide) (Nat.le_of_ble_eq_true rfl) ?_
  refine V.iconst_ (nI 0) d_Mo_count_0 (by decide +kernel) ?_
  refine V.istore_n d_Mo_count_1 (by decide) ?_
  refine V.iload_n d_Mo_count_2 rfl ?_
  by_cases hx : wi x (nI 0) (nI 10) = true
  · obtain ⟨w, hw, rfl⟩ := wi_nat (by decide) hx
    rcases (show w = 0 ∨ w = 1 ∨ w = 2 ∨ w = 3 ∨ w = 4 ∨ w = 5 ∨ w = 6 ∨ w = 7 ∨ w = 8 ∨ w = 9 ∨ w = 10 by omega) with rfl | rfl | rfl | rfl | rfl | rfl | rfl | rfl | rfl | rfl | rfl
    · skip
      refine V.tabIn (tgt := 60) (off := 57) d_Mo_count_3 (by decide +kernel) (by decide +kernel) (by decide +kernel) (by decide) ?_
      refine V.aload_n d_Mo_count_60 rfl ?_
      refine V.get d_Mo_count_61 f_Mo_7_Mo mo_o rfl ?_
      refine V.iload_n d_Mo_count_64 rfl ?_
      refine V.mldd d_Mo_count_65 (by omega) ?_
      refine V.iret d_Mo_count_66 rfl (Nat.le_of_ble_eq_true rfl) (Nat.le_of_ble_eq_true rfl) ?_
      exact hOk 0 (by omega) rfl
    · skip
      refine V.tabIn (tgt := 60) (off := 57) d_Mo_count_3 (by decide +kernel) (by decide +kernel) (by decide +kernel) (by decide) ?_
      refine V.aload_n d_Mo_count_60 rfl ?_
      refine V.get d_Mo_count_61 f_Mo_7_Mo mo_o rfl ?_
      refine V.iload_n d_Mo_count_64 rfl ?_
      refine V.mldd d_Mo_count_65 (by omega) ?_
      refine V.iret d_Mo_count_66 rfl (Nat.le_of_ble_eq_true rfl) (Nat.le_of_ble_eq_true rfl) ?_
      exact hOk 1 (by omega) rfl
    · skip
      refine V.tabIn (tgt := 60) (off := 57) d_Mo_count_3 (by decide +kernel) (by decide +kernel) (by decide +kernel) (by decide) ?_
      refine V.aload_n d_Mo_count_60 rfl ?_
      refine V.get d_Mo_count_61 f_Mo_7_Mo mo_o rfl ?_
      refine V.iload_n d_Mo_count_64 rfl ?_
      refine V.mldd d_Mo_count_65 (by omega) ?_
      refine V.iret d_Mo_count_66 rfl (Nat.le_of_ble_eq_true rfl) (Nat.le_of_ble_eq_true rfl) ?_
      exact hOk 2 (by omega) rfl
    · skip
      refine V.tabIn (tgt := 60) (off := 57) d_Mo_count_3 (by decide +kernel) (by decide +kernel) (by decide +kernel) (by decide) ?_
      refine V.aload_n d_Mo_count_60 rfl ?_
      refine V.get d_Mo_count_61 f_Mo_7_Mo mo_o rfl ?_
      refine V.iload_n d_Mo_count_64 rfl ?_
      refine V.mldd d_Mo_count_65 (by omega) ?_
      refine V.iret d_Mo_count_66 rfl (Nat.le_of_ble_eq_true rfl) (Nat.le_of_ble_eq_true rfl) ?_
      exact hOk 3 (by omega) rfl
    · skip
      refine V.tabIn (tgt := 60) (off := 57) d_Mo_count_3 (by decide +kernel) (by decide +kernel) (by decide +kernel) (by decide) ?_
      refine V.aload_n d_Mo_count_60 rfl ?_
      refine V.get d_Mo_count_61 f_Mo_7_Mo mo_o rfl ?_
      refine V.iload_n d_Mo_count_64 rfl ?_
      refine V.mldd d_Mo_count_65 (by omega) ?_
      refine V.iret d_Mo_count_66 rfl (Nat.le_of_ble_eq_true rfl) (Nat.le_of_ble_eq_true rfl) ?_
      exact hOk 4 (by omega) rfl
    · skip
      refine V.tabIn (tgt := 67) (off := 64) d_Mo_count_3 (by decide +kernel) (by decide +kernel) (by decide +kernel) (by decide) ?_
      refine V.aload_n d_Mo_count_67 rfl ?_
      refine V.callV0 d_Mo_count_68 k_Mo_234_Mo_standing_MoV mo_o (Nat.le_of_ble_eq_true rfl) (by omega) (by omega) (c_Mo_standing hN e0 ?_)
      refine V.iret d_Mo_count_71 rfl (Nat.le_of_ble_eq_true rfl) (Nat.le_of_ble_eq_true rfl) ?_
      exact hOk 5 (by omega) rfl
    · skip
      refine V.tabIn (tgt := 72) (off := 69) d_Mo_count_3 (by decide +kernel) (by decide +kernel) (by decide +kernel) (by decide) ?_
      refine V.iconst_ (nI 0) d_Mo_count_72 (by decide +kernel) ?_
      refine V.istore_n d_Mo_count_73 (by decide) ?_
      refine V.lc (ls' := [(0, .ref q), (2, .int (smh D 0)), (3, .int (nI 0))]) rfl ?_
      refine up_to (G := fun k => V l M_Mo_count (d + 2) 0 0 74 [(0, .ref q), (2, .int (smh D k)), (3, .int (nI k))] [] n (mo q D A S h0) 0 0 Q) (36) ?_ (fun k hk hn => ?_) 0 (by omega)
      · skip
        refine V.iload_n d_Mo_count_74 rfl ?_
        refine V.bipush_ (nI 36) d_Mo_count_75 (by decide +kernel) ?_
        refine V.geN (tgt := 98) d_Mo_count_77 (by decide) (by omega) (by omega) (fun c_77 => ?_) (fun c_77 => ?_)
        · skip
          refine V.iload_n d_Mo_count_98 rfl ?_
          refine V.iret d_Mo_count_99 rfl (Nat.le_of_ble_eq_true rfl) (Nat.le_of_ble_eq_true rfl) ?_
          exact hOk 6 (by omega) rfl
        · skip
          exact absurd c_77 (by omega)
      · skip
        refine V.iload_n d_Mo_count_74 rfl ?_
        refine V.bipush_ (nI 36) d_Mo_count_75 (by decide +kernel) ?_
        refine V.geN (tgt := 98) d_Mo_count_77 (by decide) (by omega) (by omega) (fun c_77 => ?_) (fun c_77 => ?_)
        · skip
          exact absurd c_77 (by omega)
        · skip
          refine V.iload_n d_Mo_count_80 rfl ?_
          refine V.aload_n d_Mo_count_81 rfl ?_
          refine V.get d_Mo_count_82 f_Mo_7_Mo mo_o rfl ?_
          refine V.bipush_ (nI 8) d_Mo_count_85 (by decide +kernel) ?_
          refine V.iload_n d_Mo_count_87 rfl ?_
          refine V.addN d_Mo_count_88 ?_
          refine V.mldd d_Mo_count_89 (by omega) ?_
          refine V.iadd d_Mo_count_90 ?_
          refine V.istore_n d_Mo_count_91 (by decide) ?_
          refine V.incN d_Mo_count_92 rfl (by decide) ?_
          refine V.goto (tgt := 74) d_Mo_count_95 (by decide) ?_
          exact V.lc rfl hn
    · skip
      refine V.tabIn (tgt := 100) (off := 97) d_Mo_count_3 (by decide +kernel) (by decide +kernel) (by decide +kernel) (by decide) ?_
      refine V.aload_n d_Mo_count_100 rfl ?_
      refine V.get d_Mo_count_101 f_Mo_7_Mo mo_o rfl ?_
      refine V.bipush_ (nI 6) d_Mo_count_104 (by decide +kernel) ?_
      refine V.mldd d_Mo_count_106 (by omega) ?_
      refine V.iret d_Mo_count_107 rfl (Nat.le_of_ble_eq_true rfl) (Nat.le_of_ble_eq_true rfl) ?_
      exact hOk 7 (by omega) rfl
    · skip
      refine V.tabIn (tgt := 108) (off := 105) d_Mo_count_3 (by decide +kernel) (by decide +kernel) (by decide +kernel) (by decide) ?_
      refine V.aload_n d_Mo_count_108 rfl ?_
      refine V.get d_Mo_count_109 f_Mo_7_Mo mo_o rfl ?_
      refine V.bipush_ (nI 7) d_Mo_count_112 (by decide +kernel) ?_
      refine V.mldd d_Mo_count_114 (by omega) ?_
      refine V.iret d_Mo_count_115 rfl (Nat.le_of_ble_eq_true rfl) (Nat.le_of_ble_eq_true rfl) ?_
      exact hOk 8 (by omega) rfl
    · skip
      refine V.tabIn (tgt := 116) (off := 113) d_Mo_count_3 (by decide +kernel) (by decide +kernel) (by decide +kernel) (by decide) ?_
      refine V.aload_n d_Mo_count_116 rfl ?_
      refine V.get d_Mo_count_117 f_Mo_251_Mo mo_o rfl ?_
      refine V.iret d_Mo_count_120 rfl (Nat.le_of_ble_eq_true rfl) (Nat.le_of_ble_eq_true rfl) ?_
      exact hOk 9 (by omega) rfl
    · skip
      refine V.tabIn (tgt := 121) (off := 118) d_Mo_count_3 (by decide +kernel) (by decide +kernel) (by decide +kernel) (by decide) ?_
      refine V.aload_n d_Mo_count_121 rfl ?_
      refine V.get d_Mo_count_122 f_Mo_7_Mo mo_o rfl ?_
      refine V.iconst_ (nI 5) d_Mo_count_125 (by decide +kernel) ?_
      refine V.mldd d_Mo_count_126 (by omega) ?_
      refine V.iret d_Mo_count_127 rfl (Nat.le_of_ble_eq_true rfl) (Nat.le_of_ble_eq_true rfl) ?_
      exact hOk 10 (by omega) rfl
  · have hx := Bool.not_eq_true _ |>.mp hx
    refine V.tabOut (tgt := 128) d_Mo_count_3 (wi_out (by decide) hx) (by decide) ?_
    refine V.aload_n d_Mo_count_128 rfl ?_
    refine V.iconst_ (nI 1) d_Mo_count_129 (by decide +kernel) ?_
    refine V.callV1 d_Mo_count_130 k_Mo_138_Mo_finds_MoV mo_o (Nat.le_of_ble_eq_true rfl) (by omega) (by omega) (c_Mo_finds (by omega) ?_)
    refine V.iret d_Mo_count_133 rfl (Nat.le_of_ble_eq_true rfl) (Nat.le_of_ble_eq_true rfl) ?_
    exact hE hx
abbrev M_Mo_image : MD := (⟨"FelledByNamesModel", "image", "()I"⟩, prog_14_method_84_code, 2, (some .int), fun _ => True)
theorem d_Mo_image_0 : decode prog_14_method_84_code 0 = .ok (.iconst 0, 1) := by decide +kernel
theorem d_Mo_image_1 : decode prog_14_method_84_code 1 = .ok (.istore_n 1, 1) := by decide +kernel
theorem d_Mo_image_2 : decode prog_14_method_84_code 2 = .ok (.iload_n 1, 1) := by decide +kernel
theorem d_Mo_image_3 : decode prog_14_method_84_code 3 = .ok (.sipush 278, 3) := by decide +kernel
theorem d_Mo_image_6 : decode prog_14_method_84_code 6 = .ok (.if_icmp .ge 21, 3) := by decide +kernel
theorem d_Mo_image_27 : decode prog_14_method_84_code 27 = .ok (.aload_n 0, 1) := by decide +kernel
theorem d_Mo_image_28 : decode prog_14_method_84_code 28 = .ok (.dup, 1) := by decide +kernel
theorem d_Mo_image_29 : decode prog_14_method_84_code 29 = .ok (.getfield 274, 3) := by decide +kernel
theorem f_Mo_274_Mo : fok "FelledByNamesModel" 274 5 3 := ⟨R_Mo, F_Mo, 26, "FelledByNamesModel", rfl, i_Mo, by decide, tm 1062 (by decide +kernel) rfl, Or.inl rfl, t_Mo, t_Mo_ok, n_Mo⟩
theorem d_Mo_image_32 : decode prog_14_method_84_code 32 = .ok (.iconst 1, 1) := by decide +kernel
theorem d_Mo_image_33 : decode prog_14_method_84_code 33 = .ok (.iadd, 1) := by decide +kernel
theorem d_Mo_image_34 : decode prog_14_method_84_code 34 = .ok (.putfield 274, 3) := by decide +kernel
theorem fp_Mo_3 : fpk 5 3 (.int) := ⟨_, _, _, rfl, rfl, by decide +kernel⟩
theorem d_Mo_image_37 : decode prog_14_method_84_code 37 = .ok (.aload_n 0, 1) := by decide +kernel
theorem d_Mo_image_38 : decode prog_14_method_84_code 38 = .ok (.getfield 274, 3) := by decide +kernel
theorem d_Mo_image_41 : decode prog_14_method_84_code 41 = .ok (.ireturn, 1) := by decide +kernel
theorem d_Mo_image_9 : decode prog_14_method_84_code 9 = .ok (.aload_n 0, 1) := by decide +kernel
theorem d_Mo_image_10 : decode prog_14_method_84_code 10 = .ok (.getfield 13, 3) := by decide +kernel
theorem f_Mo_13_Mo : fok "FelledByNamesModel" 13 5 1 := ⟨R_Mo, F_Mo, 26, "FelledByNamesModel", rfl, i_Mo, by decide, tm 1060 (by decide +kernel) rfl, Or.inl rfl, t_Mo, t_Mo_ok, n_Mo⟩
theorem d_Mo_image_13 : decode prog_14_method_84_code 13 = .ok (.iload_n 1, 1) := by decide +kernel
theorem d_Mo_image_14 : decode prog_14_method_84_code 14 = .ok (.aload_n 0, 1) := by decide +kernel
theorem d_Mo_image_15 : decode prog_14_method_84_code 15 = .ok (.getfield 7, 3) := by decide +kernel
theorem d_Mo_image_18 : decode prog_14_method_84_code 18 = .ok (.iload_n 1, 1) := by decide +kernel
theorem d_Mo_image_19 : decode prog_14_method_84_code 19 = .ok (.iaload, 1) := by decide +kernel
theorem d_Mo_image_20 : decode prog_14_method_84_code 20 = .ok (.iastore, 1) := by decide +kernel
theorem d_Mo_image_21 : decode prog_14_method_84_code 21 = .ok (.iinc 1 1, 3) := by decide +kernel
theorem d_Mo_image_24 : decode prog_14_method_84_code 24 = .ok (.goto (-22), 3) := by decide +kernel
set_option maxRecDepth 100000 in
theorem c_Mo_image  {l : Launch} {d q n : Nat} {D : Nat → Int32} {A : Nat → Nat → Int32} {S : Nat → Int32} {h0 : HP} {Q : QT} (hQ : Q (some (.int (S 3 + nI 1))) n (mo q D (uA A 1 (cpN 278 D (A 1))) (uS S 3 (S 3 + nI 1)) h0)) : Ct l M_Mo_image d 0 0 [.ref q] n (mo q D A S h0) Q := by
  refine Ct.of (fun _ => trivial) (by decide) (Nat.le_of_ble_eq_true rfl) ?_
  refine V.iconst_ (nI 0) d_Mo_image_0 (by decide +kernel) ?_
  refine V.istore_n d_Mo_image_1 (by decide) ?_
  refine V.lc (ls' := [(0, .ref q), (1, .int (nI 0))]) rfl ?_
  refine V.eqH (h' := mo q D (uA A 1 (cpN 0 D (A 1))) S h0) (by rw [cpN_0, uA_id]) ?_
  refine up_to (G := fun k => V l M_Mo_image d 0 0 2 [(0, .ref q), (1, .int (nI k))] [] n (mo q D (uA A 1 (cpN k D (A 1))) S h0) 0 0 Q) (278) ?_ (fun k hk hn => ?_) 0 (by omega)
  · skip
    refine V.iload_n d_Mo_image_2 rfl ?_
    refine V.sipush_ (nI 278) d_Mo_image_3 (by decide +kernel) ?_
    refine V.geN (tgt := 27) d_Mo_image_6 (by decide) (by omega) (by omega) (fun c_6 => ?_) (fun c_6 => ?_)
    · skip
      refine V.aload_n d_Mo_image_27 rfl ?_
      refine V.dup rfl d_Mo_image_28 ?_
      refine V.get d_Mo_image_29 f_Mo_274_Mo mo_o rfl ?_
      refine V.iconst_ (nI 1) d_Mo_image_32 (by decide +kernel) ?_
      refine V.iadd d_Mo_image_33 ?_
      refine V.mput d_Mo_image_34 f_Mo_274_Mo fp_Mo_3 rfl (by decide) ?_
      refine V.aload_n d_Mo_image_37 rfl ?_
      refine V.get d_Mo_image_38 f_Mo_274_Mo mo_o rfl ?_
      refine V.iret d_Mo_image_41 rfl (Nat.le_of_ble_eq_true rfl) (Nat.le_of_ble_eq_true rfl) ?_
      exact hQ
    · skip
      exact absurd c_6 (by omega)
  · skip
    rw [← cpN_s] at hn
    refine V.iload_n d_Mo_image_2 rfl ?_
    refine V.sipush_ (nI 278) d_Mo_image_3 (by decide +kernel) ?_
    refine V.geN (tgt := 27) d_Mo_image_6 (by decide) (by omega) (by omega) (fun c_6 => ?_) (fun c_6 => ?_)
    · skip
      exact absurd c_6 (by omega)
    · skip
      refine V.aload_n d_Mo_image_9 rfl ?_
      refine V.get d_Mo_image_10 f_Mo_13_Mo mo_o rfl ?_
      refine V.iload_n d_Mo_image_13 rfl ?_
      refine V.aload_n d_Mo_image_14 rfl ?_
      refine V.get d_Mo_image_15 f_Mo_7_Mo mo_o rfl ?_
      refine V.iload_n d_Mo_image_18 rfl ?_
      refine V.mldd d_Mo_image_19 (by omega) ?_
      refine V.msta 1 (by decide) (by decide) d_Mo_image_20 (by first | omega | (show _ < 278; omega)) ?_
      refine V.incN d_Mo_image_21 rfl (by decide) ?_
      refine V.goto (tgt := 2) d_Mo_image_24 (by decide) ?_
      try simp only [uA_uu, uA_s]
      exact V.lc rfl hn
abbrev M_Mo_restore : MD := (⟨"FelledByNamesModel", "restore", "()I"⟩, prog_14_method_85_code, 2, (some .int), fun _ => True)
theorem d_Mo_restore_0 : decode prog_14_method_85_code 0 = .ok (.aload_n 0, 1) := by decide +kernel
theorem d_Mo_restore_1 : decode prog_14_method_85_code 1 = .ok (.getfield 274, 3) := by decide +kernel
theorem d_Mo_restore_4 : decode prog_14_method_85_code 4 = .ok (.ifCond .ne 9, 3) := by decide +kernel
theorem d_Mo_restore_13 : decode prog_14_method_85_code 13 = .ok (.iconst 0, 1) := by decide +kernel
theorem d_Mo_restore_14 : decode prog_14_method_85_code 14 = .ok (.istore_n 1, 1) := by decide +kernel
theorem d_Mo_restore_15 : decode prog_14_method_85_code 15 = .ok (.iload_n 1, 1) := by decide +kernel
theorem d_Mo_restore_16 : decode prog_14_method_85_code 16 = .ok (.sipush 278, 3) := by decide +kernel
theorem d_Mo_restore_19 : decode prog_14_method_85_code 19 = .ok (.if_icmp .ge 21, 3) := by decide +kernel
theorem d_Mo_restore_40 : decode prog_14_method_85_code 40 = .ok (.aload_n 0, 1) := by decide +kernel
theorem d_Mo_restore_41 : decode prog_14_method_85_code 41 = .ok (.getfield 7, 3) := by decide +kernel
theorem d_Mo_restore_44 : decode prog_14_method_85_code 44 = .ok (.iconst 1, 1) := by decide +kernel
theorem d_Mo_restore_45 : decode prog_14_method_85_code 45 = .ok (.iaload, 1) := by decide +kernel
theorem d_Mo_restore_46 : decode prog_14_method_85_code 46 = .ok (.ireturn, 1) := by decide +kernel
theorem d_Mo_restore_22 : decode prog_14_method_85_code 22 = .ok (.aload_n 0, 1) := by decide +kernel
theorem d_Mo_restore_23 : decode prog_14_method_85_code 23 = .ok (.getfield 7, 3) := by decide +kernel
theorem d_Mo_restore_26 : decode prog_14_method_85_code 26 = .ok (.iload_n 1, 1) := by decide +kernel
theorem d_Mo_restore_27 : decode prog_14_method_85_code 27 = .ok (.aload_n 0, 1) := by decide +kernel
theorem d_Mo_restore_28 : decode prog_14_method_85_code 28 = .ok (.getfield 13, 3) := by decide +kernel
theorem d_Mo_restore_31 : decode prog_14_method_85_code 31 = .ok (.iload_n 1, 1) := by decide +kernel
theorem d_Mo_restore_32 : decode prog_14_method_85_code 32 = .ok (.iaload, 1) := by decide +kernel
theorem d_Mo_restore_33 : decode prog_14_method_85_code 33 = .ok (.iastore, 1) := by decide +kernel
theorem d_Mo_restore_34 : decode prog_14_method_85_code 34 = .ok (.iinc 1 1, 3) := by decide +kernel
theorem d_Mo_restore_37 : decode prog_14_method_85_code 37 = .ok (.goto (-22), 3) := by decide +kernel
theorem d_Mo_restore_7 : decode prog_14_method_85_code 7 = .ok (.aload_n 0, 1) := by decide +kernel
theorem d_Mo_restore_8 : decode prog_14_method_85_code 8 = .ok (.iconst 2, 1) := by decide +kernel
theorem d_Mo_restore_9 : decode prog_14_method_85_code 9 = .ok (.invokevirtual 138, 3) := by decide +kernel
theorem d_Mo_restore_12 : decode prog_14_method_85_code 12 = .ok (.ireturn, 1) := by decide +kernel
set_option maxRecDepth 100000 in
theorem c_Mo_restore  {l : Launch} {d q n : Nat} {D : Nat → Int32} {A : Nat → Nat → Int32} {S : Nat → Int32} {h0 : HP} {Q : QT} (hE : S 3 = 0 → Q (some (.int (-1000000000 - nI 2))) n (mo q D (uA A 3 (upd (A 3) 2 (A 3 2 + nI 1))) S h0)) (hOk : ¬ S 3 = 0 → Q (some (.int (A 1 1))) n (mo q (cpN 278 (A 1) D) A S h0)) : Ct l M_Mo_restore (d + 1) 0 0 [.ref q] n (mo q D A S h0) Q := by
  refine Ct.of (fun _ => trivial) (by decide) (Nat.le_of_ble_eq_true rfl) ?_
  refine V.aload_n d_Mo_restore_0 rfl ?_
  refine V.get d_Mo_restore_1 f_Mo_274_Mo mo_o rfl ?_
  refine V.if_ne (tgt := 13) d_Mo_restore_4 (by decide) (fun c_4 => ?_) (fun c_4 => ?_)
  · skip
    refine V.iconst_ (nI 0) d_Mo_restore_13 (by decide +kernel) ?_
    refine V.istore_n d_Mo_restore_14 (by decide) ?_
    refine V.lc (ls' := [(0, .ref q), (1, .int (nI 0))]) rfl ?_
    refine V.eqH (h' := mo q (cpN 0 (A 1) D) A S h0) (by rw [cpN_0]) ?_
    refine up_to (G := fun k => V l M_Mo_restore (d + 1) 0 0 15 [(0, .ref q), (1, .int (nI k))] [] n (mo q (cpN k (A 1) D) A S h0) 0 0 Q) (278) ?_ (fun k hk hn => ?_) 0 (by omega)
    · skip
      refine V.iload_n d_Mo_restore_15 rfl ?_
      refine V.sipush_ (nI 278) d_Mo_restore_16 (by decide +kernel) ?_
      refine V.geN (tgt := 40) d_Mo_restore_19 (by decide) (by omega) (by omega) (fun c_19 => ?_) (fun c_19 => ?_)
      · skip
        refine V.aload_n d_Mo_restore_40 rfl ?_
        refine V.get d_Mo_restore_41 f_Mo_7_Mo mo_o rfl ?_
        refine V.iconst_ (nI 1) d_Mo_restore_44 (by decide +kernel) ?_
        refine V.mldd d_Mo_restore_45 (by omega) ?_
        refine V.iret d_Mo_restore_46 rfl (Nat.le_of_ble_eq_true rfl) (Nat.le_of_ble_eq_true rfl) ?_
        exact hOk c_4
      · skip
        exact absurd c_19 (by omega)
    · skip
      rw [← cpN_s] at hn
      refine V.iload_n d_Mo_restore_15 rfl ?_
      refine V.sipush_ (nI 278) d_Mo_restore_16 (by decide +kernel) ?_
      refine V.geN (tgt := 40) d_Mo_restore_19 (by decide) (by omega) (by omega) (fun c_19 => ?_) (fun c_19 => ?_)
      · skip
        exact absurd c_19 (by omega)
      · skip
        refine V.aload_n d_Mo_restore_22 rfl ?_
        refine V.get d_Mo_restore_23 f_Mo_7_Mo mo_o rfl ?_
        refine V.iload_n d_Mo_restore_26 rfl ?_
        refine V.aload_n d_Mo_restore_27 rfl ?_
        refine V.get d_Mo_restore_28 f_Mo_13_Mo mo_o rfl ?_
        refine V.iload_n d_Mo_restore_31 rfl ?_
        refine V.mlda 1 (by decide) (by decide) d_Mo_restore_32 (by first | omega | (show _ < 278; omega)) ?_
        refine V.mstd d_Mo_restore_33 (by omega) ?_
        refine V.incN d_Mo_restore_34 rfl (by decide) ?_
        refine V.goto (tgt := 15) d_Mo_restore_37 (by decide) ?_
        exact V.lc rfl hn
  · skip
    refine V.aload_n d_Mo_restore_7 rfl ?_
    refine V.iconst_ (nI 2) d_Mo_restore_8 (by decide +kernel) ?_
    refine V.callV1 d_Mo_restore_9 k_Mo_138_Mo_finds_MoV mo_o (Nat.le_of_ble_eq_true rfl) (by omega) (by omega) (c_Mo_finds (by omega) ?_)
    refine V.iret d_Mo_restore_12 rfl (Nat.le_of_ble_eq_true rfl) (Nat.le_of_ble_eq_true rfl) ?_
    exact hE c_4
end
section
def DW (D : Nat → Int32) (N : Nat) (W0 : Nat → Nat) (len0 : Nat) (W1 : Nat → Nat) (len1 : Nat) : Prop := D 0 = nI N ∧ TS D N ∧ Cd D 0 W0 len0 ∧ Cd D 1 W1 len1 ∧ ∀ t, t < 8 → NB D (50 + 7 * t + 6) 1
/-- what a day leaves as it is -/
def kpt (j : Nat) : Prop := j = 0 ∨ j = 2 ∨ (5 ≤ j ∧ j < 8) ∨ (44 ≤ j ∧ j < 50) ∨ (50 ≤ j ∧ j < 106 ∧ (j - 50) % 7 < 5) ∨ 106 ≤ j
theorem itr_keep {α : Type} {P : α → Prop} {g : Nat → α → α} : ∀ (m : Nat) (x : α), (∀ k x, k < m → P x → P (g k x)) → P x → P (itr g m x) := by
  intro m
  induction m with
  | zero => intro x _ h; exact h
  | succ m ih => intro x hg h; exact hg m _ (Nat.lt_succ_self m) (ih x (fun k x hk => hg k x (by omega)) h)
theorem fst3_keep {wv : Int32 → Int32 → Int32 → Int32} {N : Nat} (hN : N ≤ 8) {j : Nat} (hj : kpt j) (X : XX) : (itr (fst3 wv N) N X).1 j = X.1 j := by
  refine itr_keep (P := fun Y : XX => Y.1 j = X.1 j) N X (fun k Y hk hY => ?_) rfl
  unfold fst3
  split
  · unfold kpt at hj
    rcases Nat.lt_or_ge j 106 with h | h
    · rw [fl_keep (by omega) (by omega) (by omega)]; exact hY
    · rw [fl_keep8 hN h _ _ _ hk]; exact hY
  · exact hY
theorem dayD_x {cv wv : Int32 → Int32 → Int32 → Int32} {N : Nat} (hN : N ≤ 8) {D : Nat → Int32} {j : Nat} (hj : kpt j) : (dayD cv wv N D).1 j = D j := by
  show upd _ 1 _ j = D j
  have h1 : j ≠ 1 := by unfold kpt at hj; omega
  rw [pk_un h1, fst3_keep hN hj]
  show dg2 (dc1 cv D 36) N j = D j
  unfold kpt at hj
  rw [dg2_x (by omega), dc1_x (by omega)]
theorem fl_st {wv : Int32 → Int32 → Int32 → Int32} {N j : Nat} : ∀ (f t : Nat) (x : XX), (fl wv N f t x).1 (50 + 7 * j + 6) = x.1 (50 + 7 * j + 6) ∨ (fl wv N f t x).1 (50 + 7 * j + 6) = nI 0 := by
  have hg : ∀ (t : Nat) (D : Nat → Int32), gdn wv D t (50 + 7 * j + 6) = D (50 + 7 * j + 6) ∨ gdn wv D t (50 + 7 * j + 6) = nI 0 := by
    intro t D
    rw [gdn_st]
    split
    · exact Or.inr rfl
    · exact Or.inl rfl
  intro f
  induction f with
  | zero => intro t x; exact hg t x.1
  | succ f ih =>
    intro t x
    refine itf_keep (P := fun y : XX => y.1 (50 + 7 * j + 6) = x.1 (50 + 7 * j + 6) ∨ y.1 (50 + 7 * j + 6) = nI 0) (fun k y hy => ?_) N 0 _ (hg t x.1)
    show (if cnd y.1 t k = true then fl wv N f k y else y).1 _ = _ ∨ (if cnd y.1 t k = true then fl wv N f k y else y).1 _ = _
    split
    · rcases ih k y with h | h
      · rw [h]; exact hy
      · exact Or.inr h
    · exact hy
theorem dayD_st {cv wv : Int32 → Int32 → Int32 → Int32} {N : Nat} {D : Nat → Int32} {j : Nat} : (dayD cv wv N D).1 (50 + 7 * j + 6) = D (50 + 7 * j + 6) ∨ (dayD cv wv N D).1 (50 + 7 * j + 6) = nI 0 := by
  have e : (dayD cv wv N D).1 (50 + 7 * j + 6) = (itr (fst3 wv N) N (dg2 (dc1 cv D 36) N, [])).1 (50 + 7 * j + 6) := by
    show upd (itr (fst3 wv N) N (dg2 (dc1 cv D 36) N, [])).1 1 ((itr (fst3 wv N) N (dg2 (dc1 cv D 36) N, [])).1 1 + nI 1) (50 + 7 * j + 6) = _
    rw [pk_un (by omega)]
  rw [e]
  refine itr_keep (P := fun Y : XX => Y.1 (50 + 7 * j + 6) = D (50 + 7 * j + 6) ∨ Y.1 (50 + 7 * j + 6) = nI 0) N _ (fun k Y hk hY => ?_) (Or.inl ?_)
  · unfold fst3
    split
    · rcases fl_st (wv := wv) (N := N) (j := j) 7 k Y with h | h
      · rw [h]; exact hY
      · exact Or.inr h
    · exact hY
  · show dg2 (dc1 cv D 36) N (50 + 7 * j + 6) = D (50 + 7 * j + 6)
    rw [dg2_x (by omega), dc1_x (by omega)]
theorem DW.day {cv wv : Int32 → Int32 → Int32 → Int32} {D : Nat → Int32} {N len0 len1 : Nat} {W0 W1 : Nat → Nat} (hN : N ≤ 8) (h : DW D N W0 len0 W1 len1) : DW (dayD cv wv N D).1 N W0 len0 W1 len1 := by
  obtain ⟨h1, h2, h3, h4, h5⟩ := h
  refine ⟨by rw [dayD_x hN (Or.inl rfl)]; exact h1, h2.same (fun t ht => ⟨dayD_x hN ?_, dayD_x hN ?_, dayD_x hN ?_⟩), h3.same (fun j hj => dayD_x hN ?_), h4.same (fun j hj => dayD_x hN ?_), fun t ht => ?_⟩
  all_goals first | (unfold kpt; omega) | skip
  rcases dayD_st (cv := cv) (wv := wv) (N := N) (D := D) (j := t) with h | h
  · unfold NB; rw [h]; exact h5 t ht
  · exact ⟨0, by omega, h⟩
theorem dayD_len {cv wv : Int32 → Int32 → Int32 → Int32} {N : Nat} (hN : N ≤ 8) {D : Nat → Int32} : (dayD cv wv N D).2.length ≤ 8 := by
  have h := itr_keep (P := fun Y : XX => Y.2.length + cst Y.1 N ≤ 8) (g := fst3 wv N) N (dg2 (dc1 cv D 36) N, []) (fun k Y hk hY => by
    unfold fst3
    split
    · next h =>
      unfold ovr at h
      simp only [Bool.and_eq_true, decide_eq_true_eq] at h
      rw [fl_cnt 7 k Y hk h.1.1]; exact hY
    · exact hY) (by have := cst_le (D := dg2 (dc1 cv D 36) N) N; show 0 + cst (dg2 (dc1 cv D 36) N) N ≤ 8; omega)
  show (itr (fst3 wv N) N (dg2 (dc1 cv D 36) N, [])).2.length ≤ 8
  omega
theorem dsD_s {cv wv : Int32 → Int32 → Int32 → Int32} {N k : Nat} {D : Nat → Int32} : dsD cv wv N (k + 1) D = ((dayD cv wv N (dsD cv wv N k D).1).1, (dsD cv wv N k D).2 ++ (dayD cv wv N (dsD cv wv N k D).1).2) := rfl
theorem DW.days {cv wv : Int32 → Int32 → Int32 → Int32} {D : Nat → Int32} {N len0 len1 : Nat} {W0 W1 : Nat → Nat} (hN : N ≤ 8) (h : DW D N W0 len0 W1 len1) : ∀ k, DW (dsD cv wv N k D).1 N W0 len0 W1 len1 := by
  intro k
  induction k with
  | zero => exact h
  | succ k ih => exact ih.day hN
theorem dsD_x {cv wv : Int32 → Int32 → Int32 → Int32} {N : Nat} (hN : N ≤ 8) {D : Nat → Int32} {j : Nat} (hj : kpt j) : ∀ k, (dsD cv wv N k D).1 j = D j := by
  intro k
  induction k with
  | zero => rfl
  | succ k ih => rw [dsD_s]; show (dayD cv wv N (dsD cv wv N k D).1).1 j = D j; rw [dayD_x hN hj]; exact ih
theorem dsD_len {cv wv : Int32 → Int32 → Int32 → Int32} {N : Nat} (hN : N ≤ 8) {D : Nat → Int32} : ∀ k, (dsD cv wv N k D).2.length ≤ 8 * k := by
  intro k
  induction k with
  | zero => exact Nat.le_refl _
  | succ k ih =>
    rw [dsD_s, List.length_append]
    have := dayD_len (cv := cv) (wv := wv) hN (D := (dsD cv wv N k D).1)
    omega
theorem uS_18 {S : Nat → Int32} {fm : Nat} (ef : S 18 = nI fm) : uS S 18 (nI (fm + 0)) = S := by
  funext j
  by_cases hj : j = 18
  · subst hj; rw [uS_s, Nat.add_zero]; exact ef.symm
  · rw [uS_n hj]
/-- back from a thought -/
theorem bk {D D' g : Nat → Int32} (h : ∀ j, 106 ≤ j → D' j = D j) : cpN 106 (cpN 106 D g) D' = D := by
  funext j
  unfold cpN
  by_cases hj : j < 106
  · rw [if_pos hj, if_pos hj]
  · rw [if_neg hj]; exact h j (by omega)
abbrev M_Mo_daysGo : MD := (⟨"FelledByNamesModel", "daysGo", "(I)V"⟩, prog_14_method_42_code, 3, none, fun _ => True)
theorem d_Mo_daysGo_0 : decode prog_14_method_42_code 0 = .ok (.iconst 0, 1) := by decide +kernel
theorem d_Mo_daysGo_1 : decode prog_14_method_42_code 1 = .ok (.istore_n 2, 1) := by decide +kernel
theorem d_Mo_daysGo_2 : decode prog_14_method_42_code 2 = .ok (.iload_n 2, 1) := by decide +kernel
theorem d_Mo_daysGo_3 : decode prog_14_method_42_code 3 = .ok (.iload_n 1, 1) := by decide +kernel
theorem d_Mo_daysGo_4 : decode prog_14_method_42_code 4 = .ok (.if_icmp .ge 13, 3) := by decide +kernel
theorem d_Mo_daysGo_17 : decode prog_14_method_42_code 17 = .ok (.return_, 1) := by decide +kernel
theorem d_Mo_daysGo_7 : decode prog_14_method_42_code 7 = .ok (.aload_n 0, 1) := by decide +kernel
theorem d_Mo_daysGo_8 : decode prog_14_method_42_code 8 = .ok (.invokevirtual 186, 3) := by decide +kernel
theorem kB_Mo_dayGoes : kB M_Mo_dayGoes 0 := ⟨tm 15 (by decide +kernel) rfl, tm 1323 (by decide +kernel) rfl, ⟨by decide, by decide, by decide +kernel⟩, by decide⟩
theorem k_Mo_186_Mo_dayGoes_MoV : kV "FelledByNamesModel" 186 5 M_Mo_dayGoes 0 := ⟨kB_Mo_dayGoes, tm 1320 (by decide +kernel) rfl, tm 1322 (by decide +kernel) rfl, tp 36 (by decide +kernel) rfl, _, rfl, rfl⟩
theorem d_Mo_daysGo_11 : decode prog_14_method_42_code 11 = .ok (.iinc 2 1, 3) := by decide +kernel
theorem d_Mo_daysGo_14 : decode prog_14_method_42_code 14 = .ok (.goto (-12), 3) := by decide +kernel
set_option maxRecDepth 100000 in
theorem c_Mo_daysGo {k0 : Nat} {N fm len0 len1 : Nat} {W0 W1 : Nat → Nat} {l : Launch} {d q n : Nat} {D : Nat → Int32} {A : Nat → Nat → Int32} {S : Nat → Int32} {h0 : HP} {Q : QT} (hN : N ≤ 8) (hD : DW D N W0 len0 W1 len1) (hf : fm < 2 ^ 26) (ef : S 18 = nI fm) (hk0 : k0 ≤ 1000) (hQ : ∀ (A1 : Nat → Nat → Int32), (∀ j, j ≠ 4 → j ≠ 6 → j ≠ 7 → j ≠ 8 → j ≠ 9 → A1 j = A j) → A1 9 = wrl (A 9) fm (dsD (tgv 0 W0 len0) (tgv 1 W1 len1) N k0 D).2 → Q none n (mo q (dsD (tgv 0 W0 len0) (tgv 1 W1 len1) N k0 D).1 A1 (uS S 18 (nI (fm + (dsD (tgv 0 W0 len0) (tgv 1 W1 len1) N k0 D).2.length))) h0)) : Ct l M_Mo_daysGo (d + 6) 0 0 [.ref q, .int (nI k0)] n (mo q D A S h0) Q := by
  refine Ct.of (fun _ => trivial) (by decide) (Nat.le_of_ble_eq_true rfl) ?_
  refine V.iconst_ (nI 0) d_Mo_daysGo_0 (by decide +kernel) ?_
  refine V.istore_n d_Mo_daysGo_1 (by decide) ?_
  refine V.eqH (h' := mo q (dsD (tgv 0 W0 len0) (tgv 1 W1 len1) N 0 D).1 A (uS S 18 (nI (fm + (dsD (tgv 0 W0 len0) (tgv 1 W1 len1) N 0 D).2.length))) h0) (by show mo q D A S h0 = mo q D A (uS S 18 (nI (fm + 0))) h0; rw [uS_18 ef]) ?_
  refine V.lc (ls' := [(0, .ref q), (1, .int (nI k0)), (2, .int (nI 0))]) rfl ?_
  refine up_to (G := fun k => ∀ A1 : Nat → Nat → Int32, (∀ j, j ≠ 4 → j ≠ 6 → j ≠ 7 → j ≠ 8 → j ≠ 9 → A1 j = A j) → A1 9 = wrl (A 9) fm (dsD (tgv 0 W0 len0) (tgv 1 W1 len1) N k D).2 → V l M_Mo_daysGo (d + 6) 0 0 2 [(0, .ref q), (1, .int (nI k0)), (2, .int (nI k))] [] n (mo q (dsD (tgv 0 W0 len0) (tgv 1 W1 len1) N k D).1 A1 (uS S 18 (nI (fm + (dsD (tgv 0 W0 len0) (tgv 1 W1 len1) N k D).2.length))) h0) 0 0 Q) (k0) ?_ (fun k hk hn => ?_) 0 (by omega) A (fun _ _ _ _ _ _ => rfl) rfl
  · skip
    intro A1 hA1 hA91
    refine V.iload_n d_Mo_daysGo_2 rfl ?_
    refine V.iload_n d_Mo_daysGo_3 rfl ?_
    refine V.geN (tgt := 17) d_Mo_daysGo_4 (by decide) (by omega) (by omega) (fun c_4 => ?_) (fun c_4 => ?_)
    · skip
      refine V.vret d_Mo_daysGo_17 rfl (Nat.le_of_ble_eq_true rfl) (Nat.le_of_ble_eq_true rfl) ?_
      exact hQ A1 hA1 hA91
    · skip
      exact absurd c_4 (by omega)
  · skip
    intro A1 hA1 hA91
    have hX := hD.days (cv := tgv 0 W0 len0) (wv := tgv 1 W1 len1) hN k
    have hlen := dsD_len (cv := tgv 0 W0 len0) (wv := tgv 1 W1 len1) hN (D := D) k
    rw [dsD_s] at hn
    refine V.iload_n d_Mo_daysGo_2 rfl ?_
    refine V.iload_n d_Mo_daysGo_3 rfl ?_
    refine V.geN (tgt := 17) d_Mo_daysGo_4 (by decide) (by omega) (by omega) (fun c_4 => ?_) (fun c_4 => ?_)
    · skip
      exact absurd c_4 (by omega)
    · skip
      refine V.aload_n d_Mo_daysGo_7 rfl ?_
      refine V.callV0 d_Mo_daysGo_8 k_Mo_186_Mo_dayGoes_MoV mo_o (Nat.le_of_ble_eq_true rfl) (by omega) (by omega) (c_Mo_dayGoes hN hX.1 hX.2.1 hX.2.2.1 hX.2.2.2.1 (by omega) uS_s (fun A2 hA2 hA92 => ?_))
      refine V.incN d_Mo_daysGo_11 rfl (by decide) ?_
      refine V.goto (tgt := 2) d_Mo_daysGo_14 (by decide) ?_
      refine V.lc (ls' := [(0, .ref q), (1, .int (nI k0)), (2, .int (nI (k + 1)))]) rfl ?_
      refine V.eqH ?_ (hn A2 (fun j h1 h2 h3 h4 h5 => (hA2 j h1 h2 h3 h4 h5).trans (hA1 j h1 h2 h3 h4 h5)) ?_)
      · rw [uS_uu, List.length_append, Nat.add_assoc]
      · rw [hA92, hA91, wrl_cat]
abbrev M_Mo_standBehind : MD := (⟨"FelledByNamesModel", "standBehind", "(I)I"⟩, prog_14_method_58_code, 3, (some .int), fun _ => True)
theorem d_Mo_standBehind_0 : decode prog_14_method_58_code 0 = .ok (.aload_n 0, 1) := by decide +kernel
theorem d_Mo_standBehind_1 : decode prog_14_method_58_code 1 = .ok (.iload_n 1, 1) := by decide +kernel
theorem d_Mo_standBehind_2 : decode prog_14_method_58_code 2 = .ok (.invokevirtual 219, 3) := by decide +kernel
theorem kB_Mo_daysGo : kB M_Mo_daysGo 1 := ⟨tm 15 (by decide +kernel) rfl, tm 1319 (by decide +kernel) rfl, ⟨by decide, by decide, by decide +kernel⟩, by decide⟩
theorem k_Mo_219_Mo_daysGo_MoV : kV "FelledByNamesModel" 219 5 M_Mo_daysGo 1 := ⟨kB_Mo_daysGo, tm 1316 (by decide +kernel) rfl, tm 1318 (by decide +kernel) rfl, tp 35 (by decide +kernel) rfl, _, rfl, rfl⟩
theorem d_Mo_standBehind_5 : decode prog_14_method_58_code 5 = .ok (.aload_n 0, 1) := by decide +kernel
theorem d_Mo_standBehind_6 : decode prog_14_method_58_code 6 = .ok (.invokevirtual 234, 3) := by decide +kernel
theorem d_Mo_standBehind_9 : decode prog_14_method_58_code 9 = .ok (.istore_n 2, 1) := by decide +kernel
theorem d_Mo_standBehind_10 : decode prog_14_method_58_code 10 = .ok (.aload_n 0, 1) := by decide +kernel
theorem d_Mo_standBehind_11 : decode prog_14_method_58_code 11 = .ok (.invokevirtual 231, 3) := by decide +kernel
theorem kB_Mo_putBack : kB M_Mo_putBack 0 := ⟨tm 15 (by decide +kernel) rfl, tm 1358 (by decide +kernel) rfl, ⟨by decide, by decide, by decide +kernel⟩, by decide⟩
theorem k_Mo_231_Mo_putBack_MoV : kV "FelledByNamesModel" 231 5 M_Mo_putBack 0 := ⟨kB_Mo_putBack, tm 1355 (by decide +kernel) rfl, tm 1357 (by decide +kernel) rfl, tp 42 (by decide +kernel) rfl, _, rfl, rfl⟩
theorem d_Mo_standBehind_14 : decode prog_14_method_58_code 14 = .ok (.iload_n 2, 1) := by decide +kernel
theorem d_Mo_standBehind_15 : decode prog_14_method_58_code 15 = .ok (.ireturn, 1) := by decide +kernel
set_option maxRecDepth 100000 in
theorem c_Mo_standBehind {k0 : Nat} {N fm len0 len1 : Nat} {W0 W1 : Nat → Nat} {l : Launch} {d q n : Nat} {D : Nat → Int32} {A : Nat → Nat → Int32} {S : Nat → Int32} {h0 : HP} {Q : QT} (hN : N ≤ 8) (hD : DW D N W0 len0 W1 len1) (hf : fm < 2 ^ 26) (ef : S 18 = nI fm) (hk0 : k0 ≤ 1000) (hQ : ∀ (A1 : Nat → Nat → Int32), (∀ j, j ≠ 4 → j ≠ 6 → j ≠ 7 → j ≠ 8 → j ≠ 9 → A1 j = A j) → Q (some (.int (stb (dsD (tgv 0 W0 len0) (tgv 1 W1 len1) N k0 D).1 N))) n (mo q (cpN 106 (A 2) (dsD (tgv 0 W0 len0) (tgv 1 W1 len1) N k0 D).1) A1 (uS S 18 (nI (fm + (dsD (tgv 0 W0 len0) (tgv 1 W1 len1) N k0 D).2.length))) h0)) : Ct l M_Mo_standBehind (d + 7) 0 0 [.ref q, .int (nI k0)] n (mo q D A S h0) Q := by
  refine Ct.of (fun _ => trivial) (by decide) (Nat.le_of_ble_eq_true rfl) ?_
  refine V.aload_n d_Mo_standBehind_0 rfl ?_
  refine V.iload_n d_Mo_standBehind_1 rfl ?_
  refine V.callV1 d_Mo_standBehind_2 k_Mo_219_Mo_daysGo_MoV mo_o (Nat.le_of_ble_eq_true rfl) (by omega) (by omega) (c_Mo_daysGo hN hD (by omega) ef (by omega) (fun A2 hA2 hA92 => ?_))
  refine V.aload_n d_Mo_standBehind_5 rfl ?_
  refine V.callV0 d_Mo_standBehind_6 k_Mo_234_Mo_standing_MoV mo_o (Nat.le_of_ble_eq_true rfl) (by omega) (by omega) (c_Mo_standing hN (hD.days hN k0).1 ?_)
  refine V.istore_n d_Mo_standBehind_9 (by decide) ?_
  refine V.aload_n d_Mo_standBehind_10 rfl ?_
  refine V.callV0 d_Mo_standBehind_11 k_Mo_231_Mo_putBack_MoV mo_o (Nat.le_of_ble_eq_true rfl) (by omega) (by omega) (c_Mo_putBack ?_)
  rw [hA2 2 (by decide) (by decide) (by decide) (by decide) (by decide)]
  refine V.iload_n d_Mo_standBehind_14 rfl ?_
  refine V.iret d_Mo_standBehind_15 rfl (Nat.le_of_ble_eq_true rfl) (Nat.le_of_ble_eq_true rfl) ?_
  exact hQ A2 hA2
abbrev M_Mo_days : MD := (⟨"FelledByNamesModel", "days", "(I)I"⟩, prog_14_method_53_code, 2, (some .int), fun _ => True)
theorem d_Mo_days_0 : decode prog_14_method_53_code 0 = .ok (.iload_n 1, 1) := by decide +kernel
theorem d_Mo_days_1 : decode prog_14_method_53_code 1 = .ok (.i2l, 1) := by decide +kernel
theorem d_Mo_days_2 : decode prog_14_method_53_code 2 = .ok (.lconst 1, 1) := by decide +kernel
theorem d_Mo_days_3 : decode prog_14_method_53_code 3 = .ok (.ldc2_w 217, 3) := by decide +kernel
theorem d_Mo_days_6 : decode prog_14_method_53_code 6 = .ok (.invokestatic 56, 3) := by decide +kernel
theorem d_Mo_days_9 : decode prog_14_method_53_code 9 = .ok (.ifCond .ne 9, 3) := by decide +kernel
theorem d_Mo_days_18 : decode prog_14_method_53_code 18 = .ok (.aload_n 0, 1) := by decide +kernel
theorem d_Mo_days_19 : decode prog_14_method_53_code 19 = .ok (.getfield 7, 3) := by decide +kernel
theorem d_Mo_days_22 : decode prog_14_method_53_code 22 = .ok (.iconst 1, 1) := by decide +kernel
theorem d_Mo_days_23 : decode prog_14_method_53_code 23 = .ok (.iaload, 1) := by decide +kernel
theorem d_Mo_days_24 : decode prog_14_method_53_code 24 = .ok (.iload_n 1, 1) := by decide +kernel
theorem d_Mo_days_25 : decode prog_14_method_53_code 25 = .ok (.iadd, 1) := by decide +kernel
theorem d_Mo_days_26 : decode prog_14_method_53_code 26 = .ok (.sipush 9999, 3) := by decide +kernel
theorem d_Mo_days_29 : decode prog_14_method_53_code 29 = .ok (.if_icmp .le 9, 3) := by decide +kernel
theorem d_Mo_days_38 : decode prog_14_method_53_code 38 = .ok (.aload_n 0, 1) := by decide +kernel
theorem d_Mo_days_39 : decode prog_14_method_53_code 39 = .ok (.iconst 0, 1) := by decide +kernel
theorem d_Mo_days_40 : decode prog_14_method_53_code 40 = .ok (.putfield 168, 3) := by decide +kernel
theorem d_Mo_days_43 : decode prog_14_method_53_code 43 = .ok (.aload_n 0, 1) := by decide +kernel
theorem d_Mo_days_44 : decode prog_14_method_53_code 44 = .ok (.iload_n 1, 1) := by decide +kernel
theorem d_Mo_days_45 : decode prog_14_method_53_code 45 = .ok (.invokevirtual 219, 3) := by decide +kernel
theorem d_Mo_days_48 : decode prog_14_method_53_code 48 = .ok (.aload_n 0, 1) := by decide +kernel
theorem d_Mo_days_49 : decode prog_14_method_53_code 49 = .ok (.getfield 168, 3) := by decide +kernel
theorem d_Mo_days_52 : decode prog_14_method_53_code 52 = .ok (.ireturn, 1) := by decide +kernel
theorem d_Mo_days_32 : decode prog_14_method_53_code 32 = .ok (.aload_n 0, 1) := by decide +kernel
theorem d_Mo_days_33 : decode prog_14_method_53_code 33 = .ok (.iconst 3, 1) := by decide +kernel
theorem d_Mo_days_34 : decode prog_14_method_53_code 34 = .ok (.invokevirtual 138, 3) := by decide +kernel
theorem d_Mo_days_37 : decode prog_14_method_53_code 37 = .ok (.ireturn, 1) := by decide +kernel
theorem d_Mo_days_12 : decode prog_14_method_53_code 12 = .ok (.aload_n 0, 1) := by decide +kernel
theorem d_Mo_days_13 : decode prog_14_method_53_code 13 = .ok (.iconst 1, 1) := by decide +kernel
theorem d_Mo_days_14 : decode prog_14_method_53_code 14 = .ok (.invokevirtual 138, 3) := by decide +kernel
theorem d_Mo_days_17 : decode prog_14_method_53_code 17 = .ok (.ireturn, 1) := by decide +kernel
set_option maxRecDepth 100000 in
theorem c_Mo_days {dy : Nat} {x : Int32} {N fm len0 len1 : Nat} {W0 W1 : Nat → Nat} {l : Launch} {d q n : Nat} {D : Nat → Int32} {A : Nat → Nat → Int32} {S : Nat → Int32} {h0 : HP} {Q : QT} (hN : N ≤ 8) (hD : DW D N W0 len0 W1 len1) (hf : fm < 2 ^ 26) (ef : S 18 = nI fm) (hdy : dy ≤ 9999) (ed : D 1 = nI dy) (hE : wi x (nI 1) (nI 60) = false → Q (some (.int (-1000000000 - nI 1))) n (mo q D (uA A 3 (upd (A 3) 1 (A 3 1 + nI 1))) S h0)) (hS : ∀ k, 1 ≤ k → k ≤ 60 → x = nI k → 9999 < dy + k → Q (some (.int (-1000000000 - nI 3))) n (mo q D (uA A 3 (upd (A 3) 3 (A 3 3 + nI 1))) S h0)) (hOk : ∀ k, 1 ≤ k → k ≤ 60 → x = nI k → dy + k ≤ 9999 → ∀ (A1 : Nat → Nat → Int32), (∀ j, j ≠ 4 → j ≠ 6 → j ≠ 7 → j ≠ 8 → j ≠ 9 → A1 j = A j) → Q (some (.int (nI (dsD (tgv 0 W0 len0) (tgv 1 W1 len1) N k D).2.length))) n (mo q (dsD (tgv 0 W0 len0) (tgv 1 W1 len1) N k D).1 A1 (uS S 18 (nI (dsD (tgv 0 W0 len0) (tgv 1 W1 len1) N k D).2.length)) h0)) : Ct l M_Mo_days (d + 7) 0 0 [.ref q, .int x] n (mo q D A S h0) Q := by
  refine Ct.of (fun _ => trivial) (by decide) (Nat.le_of_ble_eq_true rfl) ?_
  refine V.iload_n d_Mo_days_0 rfl ?_
  refine V.i2l d_Mo_days_1 ?_
  refine V.lconst_ ((nI 1).toInt64) d_Mo_days_2 (by decide +kernel) ?_
  refine V.ldc2 (v := 60) d_Mo_days_3 (tm 1315 (by decide +kernel) rfl) ?_
  refine V.eqS (st' := .long ((nI 60).toInt64) :: _) rfl ?_
  refine V.callS3 d_Mo_days_6 k_Mo_56_Mo_inS (Nat.le_of_ble_eq_true rfl) (by omega) (by omega) (c_Mo_in ?_)
  refine V.ifneB (tgt := 18) d_Mo_days_9 (by decide) (fun c_9 => ?_) (fun c_9 => ?_)
  · skip
    obtain ⟨k, h1k, hk, rfl⟩ := wi_nat1 (by decide) c_9
    refine V.aload_n d_Mo_days_18 rfl ?_
    refine V.get d_Mo_days_19 f_Mo_7_Mo mo_o rfl ?_
    refine V.iconst_ (nI 1) d_Mo_days_22 (by decide +kernel) ?_
    refine V.mldd d_Mo_days_23 (by omega) ?_
    refine V.top ed ?_
    refine V.iload_n d_Mo_days_24 rfl ?_
    refine V.addN d_Mo_days_25 ?_
    refine V.sipush_ (nI 9999) d_Mo_days_26 (by decide +kernel) ?_
    refine V.leN (tgt := 38) d_Mo_days_29 (by decide) (by omega) (by omega) (fun c_29 => ?_) (fun c_29 => ?_)
    · skip
      refine V.aload_n d_Mo_days_38 rfl ?_
      refine V.iconst_ (nI 0) d_Mo_days_39 (by decide +kernel) ?_
      refine V.mput d_Mo_days_40 f_Mo_168_Mo fp_Mo_18 rfl (by decide) ?_
      refine V.aload_n d_Mo_days_43 rfl ?_
      refine V.iload_n d_Mo_days_44 rfl ?_
      refine V.callV1 d_Mo_days_45 k_Mo_219_Mo_daysGo_MoV mo_o (Nat.le_of_ble_eq_true rfl) (by omega) (by omega) (c_Mo_daysGo (fm := 0) hN hD (by decide) uS_s (by omega) (fun A2 hA2 hA92 => ?_))
      refine V.aload_n d_Mo_days_48 rfl ?_
      refine V.get d_Mo_days_49 f_Mo_168_Mo mo_o rfl ?_
      simp only [uS_uu, uS_s, Nat.zero_add]
      refine V.iret d_Mo_days_52 rfl (Nat.le_of_ble_eq_true rfl) (Nat.le_of_ble_eq_true rfl) ?_
      exact hOk k h1k hk rfl (by omega) A2 hA2
    · skip
      refine V.aload_n d_Mo_days_32 rfl ?_
      refine V.iconst_ (nI 3) d_Mo_days_33 (by decide +kernel) ?_
      refine V.callV1 d_Mo_days_34 k_Mo_138_Mo_finds_MoV mo_o (Nat.le_of_ble_eq_true rfl) (by omega) (by omega) (c_Mo_finds (by omega) ?_)
      refine V.iret d_Mo_days_37 rfl (Nat.le_of_ble_eq_true rfl) (Nat.le_of_ble_eq_true rfl) ?_
      exact hS k h1k hk rfl (by omega)
  · skip
    refine V.aload_n d_Mo_days_12 rfl ?_
    refine V.iconst_ (nI 1) d_Mo_days_13 (by decide +kernel) ?_
    refine V.callV1 d_Mo_days_14 k_Mo_138_Mo_finds_MoV mo_o (Nat.le_of_ble_eq_true rfl) (by omega) (by omega) (c_Mo_finds (by omega) ?_)
    refine V.iret d_Mo_days_17 rfl (Nat.le_of_ble_eq_true rfl) (Nat.le_of_ble_eq_true rfl) ?_
    exact hE c_9
abbrev M_Mo_then : MD := (⟨"FelledByNamesModel", "then", "(III)I"⟩, prog_14_method_56_code, 5, (some .int), fun _ => True)
theorem d_Mo_then_0 : decode prog_14_method_56_code 0 = .ok (.iload_n 1, 1) := by decide +kernel
theorem d_Mo_then_1 : decode prog_14_method_56_code 1 = .ok (.i2l, 1) := by decide +kernel
theorem d_Mo_then_2 : decode prog_14_method_56_code 2 = .ok (.lconst 0, 1) := by decide +kernel
theorem d_Mo_then_3 : decode prog_14_method_56_code 3 = .ok (.ldc2_w 217, 3) := by decide +kernel
theorem d_Mo_then_6 : decode prog_14_method_56_code 6 = .ok (.invokestatic 56, 3) := by decide +kernel
theorem d_Mo_then_9 : decode prog_14_method_56_code 9 = .ok (.ifCond .eq 11, 3) := by decide +kernel
theorem d_Mo_then_20 : decode prog_14_method_56_code 20 = .ok (.aload_n 0, 1) := by decide +kernel
theorem d_Mo_then_21 : decode prog_14_method_56_code 21 = .ok (.iconst 1, 1) := by decide +kernel
theorem d_Mo_then_22 : decode prog_14_method_56_code 22 = .ok (.invokevirtual 138, 3) := by decide +kernel
theorem d_Mo_then_25 : decode prog_14_method_56_code 25 = .ok (.ireturn, 1) := by decide +kernel
theorem d_Mo_then_12 : decode prog_14_method_56_code 12 = .ok (.iload_n 2, 1) := by decide +kernel
theorem d_Mo_then_13 : decode prog_14_method_56_code 13 = .ok (.iload_n 3, 1) := by decide +kernel
theorem d_Mo_then_14 : decode prog_14_method_56_code 14 = .ok (.invokestatic 189, 3) := by decide +kernel
theorem d_Mo_then_17 : decode prog_14_method_56_code 17 = .ok (.ifCond .ne 9, 3) := by decide +kernel
theorem d_Mo_then_26 : decode prog_14_method_56_code 26 = .ok (.aload_n 0, 1) := by decide +kernel
theorem d_Mo_then_27 : decode prog_14_method_56_code 27 = .ok (.invokevirtual 228, 3) := by decide +kernel
theorem kB_Mo_keepAside : kB M_Mo_keepAside 0 := ⟨tm 15 (by decide +kernel) rfl, tm 1354 (by decide +kernel) rfl, ⟨by decide, by decide, by decide +kernel⟩, by decide⟩
theorem k_Mo_228_Mo_keepAside_MoV : kV "FelledByNamesModel" 228 5 M_Mo_keepAside 0 := ⟨kB_Mo_keepAside, tm 1351 (by decide +kernel) rfl, tm 1353 (by decide +kernel) rfl, tp 41 (by decide +kernel) rfl, _, rfl, rfl⟩
theorem d_Mo_then_30 : decode prog_14_method_56_code 30 = .ok (.aload_n 0, 1) := by decide +kernel
theorem d_Mo_then_31 : decode prog_14_method_56_code 31 = .ok (.iload_n 1, 1) := by decide +kernel
theorem d_Mo_then_32 : decode prog_14_method_56_code 32 = .ok (.invokevirtual 219, 3) := by decide +kernel
theorem d_Mo_then_35 : decode prog_14_method_56_code 35 = .ok (.aload_n 0, 1) := by decide +kernel
theorem d_Mo_then_36 : decode prog_14_method_56_code 36 = .ok (.iload_n 2, 1) := by decide +kernel
theorem d_Mo_then_37 : decode prog_14_method_56_code 37 = .ok (.iload_n 3, 1) := by decide +kernel
theorem d_Mo_then_38 : decode prog_14_method_56_code 38 = .ok (.invokevirtual 180, 3) := by decide +kernel
theorem d_Mo_then_41 : decode prog_14_method_56_code 41 = .ok (.istore 4, 2) := by decide +kernel
theorem d_Mo_then_43 : decode prog_14_method_56_code 43 = .ok (.aload_n 0, 1) := by decide +kernel
theorem d_Mo_then_44 : decode prog_14_method_56_code 44 = .ok (.invokevirtual 231, 3) := by decide +kernel
theorem d_Mo_then_47 : decode prog_14_method_56_code 47 = .ok (.iload 4, 2) := by decide +kernel
theorem d_Mo_then_49 : decode prog_14_method_56_code 49 = .ok (.ireturn, 1) := by decide +kernel
set_option maxRecDepth 100000 in
theorem c_Mo_then {x y z : Int32} {N fm len0 len1 : Nat} {W0 W1 : Nat → Nat} {l : Launch} {d q n : Nat} {D : Nat → Int32} {A : Nat → Nat → Int32} {S : Nat → Int32} {h0 : HP} {Q : QT} (hN : N ≤ 8) (hD : DW D N W0 len0 W1 len1) (hf : fm < 2 ^ 26) (ef : S 18 = nI fm) (hE : (wi x (nI 0) (nI 60) && two y z) = false → Q (some (.int (-1000000000 - nI 1))) n (mo q D (uA A 3 (upd (A 3) 1 (A 3 1 + nI 1))) S h0)) (hOk : ∀ k a b, k ≤ 60 → a ≤ 5 → b ≤ 5 → a ≠ b → x = nI k → y = nI a → z = nI b → ∀ (A1 : Nat → Nat → Int32) (f1 : Nat), (∀ j, j ≠ 2 → j ≠ 4 → j ≠ 6 → j ≠ 7 → j ≠ 8 → j ≠ 9 → A1 j = A j) → f1 ≤ fm + 8000 →  Q (some (.int ((dsD (tgv 0 W0 len0) (tgv 1 W1 len1) N k D).1 (8 + 6 * a + b)))) n (mo q D A1 (uS S 18 (nI f1)) h0)) : Ct l M_Mo_then (d + 7) 0 0 [.ref q, .int x, .int y, .int z] n (mo q D A S h0) Q := by
  refine Ct.of (fun _ => trivial) (by decide) (Nat.le_of_ble_eq_true rfl) ?_
  refine V.iload_n d_Mo_then_0 rfl ?_
  refine V.i2l d_Mo_then_1 ?_
  refine V.lconst_ ((nI 0).toInt64) d_Mo_then_2 (by decide +kernel) ?_
  refine V.ldc2 (v := 60) d_Mo_then_3 (tm 1315 (by decide +kernel) rfl) ?_
  refine V.eqS (st' := .long ((nI 60).toInt64) :: _) rfl ?_
  refine V.callS3 d_Mo_then_6 k_Mo_56_Mo_inS (Nat.le_of_ble_eq_true rfl) (by omega) (by omega) (c_Mo_in ?_)
  refine V.ifeqB (tgt := 20) d_Mo_then_9 (by decide) (fun c_9 => ?_) (fun c_9 => ?_)
  · skip
    refine V.aload_n d_Mo_then_20 rfl ?_
    refine V.iconst_ (nI 1) d_Mo_then_21 (by decide +kernel) ?_
    refine V.callV1 d_Mo_then_22 k_Mo_138_Mo_finds_MoV mo_o (Nat.le_of_ble_eq_true rfl) (by omega) (by omega) (c_Mo_finds (by omega) ?_)
    refine V.iret d_Mo_then_25 rfl (Nat.le_of_ble_eq_true rfl) (Nat.le_of_ble_eq_true rfl) ?_
    exact hE (by simp only [c_9, Bool.and_false, Bool.false_and, Bool.and_true, Bool.true_and])
  · skip
    refine V.iload_n d_Mo_then_12 rfl ?_
    refine V.iload_n d_Mo_then_13 rfl ?_
    refine V.callS2 d_Mo_then_14 k_Mo_189_Mo_areTwoS (Nat.le_of_ble_eq_true rfl) (by omega) (by omega) (c_Mo_areTwo ?_)
    refine V.ifneB (tgt := 26) d_Mo_then_17 (by decide) (fun c_17 => ?_) (fun c_17 => ?_)
    · skip
      obtain ⟨k, hk, rfl⟩ := wi_nat (by decide) c_9
      obtain ⟨a, b, ha, hb, hab, rfl, rfl⟩ := two_nat c_17
      refine V.aload_n d_Mo_then_26 rfl ?_
      refine V.callV0 d_Mo_then_27 k_Mo_228_Mo_keepAside_MoV mo_o (Nat.le_of_ble_eq_true rfl) (by omega) (by omega) (c_Mo_keepAside ?_)
      refine V.aload_n d_Mo_then_30 rfl ?_
      refine V.iload_n d_Mo_then_31 rfl ?_
      refine V.callV1 d_Mo_then_32 k_Mo_219_Mo_daysGo_MoV mo_o (Nat.le_of_ble_eq_true rfl) (by omega) (by omega) (c_Mo_daysGo hN hD (by omega) ef (by omega) (fun A2 hA2 hA92 => ?_))
      refine V.aload_n d_Mo_then_35 rfl ?_
      refine V.iload_n d_Mo_then_36 rfl ?_
      refine V.iload_n d_Mo_then_37 rfl ?_
      refine V.callV2 d_Mo_then_38 k_Mo_180_Mo_hold0_MoV mo_o (Nat.le_of_ble_eq_true rfl) (by omega) (by omega) (c_Mo_hold0 (by omega) ?_)
      refine V.istore d_Mo_then_41 (by decide) ?_
      refine V.aload_n d_Mo_then_43 rfl ?_
      refine V.callV0 d_Mo_then_44 k_Mo_231_Mo_putBack_MoV mo_o (Nat.le_of_ble_eq_true rfl) (by omega) (by omega) (c_Mo_putBack ?_)
      rw [hA2 2 (by decide) (by decide) (by decide) (by decide) (by decide), uA_s, bk (fun j hj => dsD_x hN (by unfold kpt; omega) _)]
      refine V.iload d_Mo_then_47 rfl ?_
      refine V.iret d_Mo_then_49 rfl (Nat.le_of_ble_eq_true rfl) (Nat.le_of_ble_eq_true rfl) ?_
      exact hOk k a b hk ha hb hab rfl rfl rfl A2 _ (fun j h1 h2 h3 h4 h5 h6 => by rw [hA2 j h2 h3 h4 h5 h6, uA_n h1]) (by have := dsD_len (cv := tgv 0 W0 len0) (wv := tgv 1 W1 len1) hN (D := D) k; omega)
    · skip
      refine V.aload_n d_Mo_then_20 rfl ?_
      refine V.iconst_ (nI 1) d_Mo_then_21 (by decide +kernel) ?_
      refine V.callV1 d_Mo_then_22 k_Mo_138_Mo_finds_MoV mo_o (Nat.le_of_ble_eq_true rfl) (by omega) (by omega) (c_Mo_finds (by omega) ?_)
      refine V.iret d_Mo_then_25 rfl (Nat.le_of_ble_eq_true rfl) (Nat.le_of_ble_eq_true rfl) ?_
      exact hE (by simp only [c_9, c_17, Bool.and_false, Bool.false_and, Bool.and_true, Bool.true_and])
abbrev M_Mo_timber : MD := (⟨"FelledByNamesModel", "timber", "(I)I"⟩, prog_14_method_66_code, 3, (some .int), fun _ => True)
theorem d_Mo_timber_0 : decode prog_14_method_66_code 0 = .ok (.iload_n 1, 1) := by decide +kernel
theorem d_Mo_timber_1 : decode prog_14_method_66_code 1 = .ok (.i2l, 1) := by decide +kernel
theorem d_Mo_timber_2 : decode prog_14_method_66_code 2 = .ok (.lconst 0, 1) := by decide +kernel
theorem d_Mo_timber_3 : decode prog_14_method_66_code 3 = .ok (.ldc2_w 217, 3) := by decide +kernel
theorem d_Mo_timber_6 : decode prog_14_method_66_code 6 = .ok (.invokestatic 56, 3) := by decide +kernel
theorem d_Mo_timber_9 : decode prog_14_method_66_code 9 = .ok (.ifCond .ne 9, 3) := by decide +kernel
theorem d_Mo_timber_18 : decode prog_14_method_66_code 18 = .ok (.aload_n 0, 1) := by decide +kernel
theorem d_Mo_timber_19 : decode prog_14_method_66_code 19 = .ok (.invokevirtual 228, 3) := by decide +kernel
theorem d_Mo_timber_22 : decode prog_14_method_66_code 22 = .ok (.aload_n 0, 1) := by decide +kernel
theorem d_Mo_timber_23 : decode prog_14_method_66_code 23 = .ok (.iload_n 1, 1) := by decide +kernel
theorem d_Mo_timber_24 : decode prog_14_method_66_code 24 = .ok (.invokevirtual 219, 3) := by decide +kernel
theorem d_Mo_timber_27 : decode prog_14_method_66_code 27 = .ok (.aload_n 0, 1) := by decide +kernel
theorem d_Mo_timber_28 : decode prog_14_method_66_code 28 = .ok (.getfield 7, 3) := by decide +kernel
theorem d_Mo_timber_31 : decode prog_14_method_66_code 31 = .ok (.iconst 4, 1) := by decide +kernel
theorem d_Mo_timber_32 : decode prog_14_method_66_code 32 = .ok (.iaload, 1) := by decide +kernel
theorem d_Mo_timber_33 : decode prog_14_method_66_code 33 = .ok (.istore_n 2, 1) := by decide +kernel
theorem d_Mo_timber_34 : decode prog_14_method_66_code 34 = .ok (.aload_n 0, 1) := by decide +kernel
theorem d_Mo_timber_35 : decode prog_14_method_66_code 35 = .ok (.invokevirtual 231, 3) := by decide +kernel
theorem d_Mo_timber_38 : decode prog_14_method_66_code 38 = .ok (.iload_n 2, 1) := by decide +kernel
theorem d_Mo_timber_39 : decode prog_14_method_66_code 39 = .ok (.aload_n 0, 1) := by decide +kernel
theorem d_Mo_timber_40 : decode prog_14_method_66_code 40 = .ok (.getfield 7, 3) := by decide +kernel
theorem d_Mo_timber_43 : decode prog_14_method_66_code 43 = .ok (.iconst 4, 1) := by decide +kernel
theorem d_Mo_timber_44 : decode prog_14_method_66_code 44 = .ok (.iaload, 1) := by decide +kernel
theorem d_Mo_timber_45 : decode prog_14_method_66_code 45 = .ok (.isub, 1) := by decide +kernel
theorem d_Mo_timber_46 : decode prog_14_method_66_code 46 = .ok (.ireturn, 1) := by decide +kernel
theorem d_Mo_timber_12 : decode prog_14_method_66_code 12 = .ok (.aload_n 0, 1) := by decide +kernel
theorem d_Mo_timber_13 : decode prog_14_method_66_code 13 = .ok (.iconst 1, 1) := by decide +kernel
theorem d_Mo_timber_14 : decode prog_14_method_66_code 14 = .ok (.invokevirtual 138, 3) := by decide +kernel
theorem d_Mo_timber_17 : decode prog_14_method_66_code 17 = .ok (.ireturn, 1) := by decide +kernel
set_option maxRecDepth 100000 in
theorem c_Mo_timber {x : Int32} {N fm len0 len1 : Nat} {W0 W1 : Nat → Nat} {l : Launch} {d q n : Nat} {D : Nat → Int32} {A : Nat → Nat → Int32} {S : Nat → Int32} {h0 : HP} {Q : QT} (hN : N ≤ 8) (hD : DW D N W0 len0 W1 len1) (hf : fm < 2 ^ 26) (ef : S 18 = nI fm) (hE : wi x (nI 0) (nI 60) = false → Q (some (.int (-1000000000 - nI 1))) n (mo q D (uA A 3 (upd (A 3) 1 (A 3 1 + nI 1))) S h0)) (hOk : ∀ k, k ≤ 60 → x = nI k → ∀ (A1 : Nat → Nat → Int32) (f1 : Nat), (∀ j, j ≠ 2 → j ≠ 4 → j ≠ 6 → j ≠ 7 → j ≠ 8 → j ≠ 9 → A1 j = A j) → f1 ≤ fm + 8000 →  Q (some (.int ((dsD (tgv 0 W0 len0) (tgv 1 W1 len1) N k D).1 4 - D 4))) n (mo q D A1 (uS S 18 (nI f1)) h0)) : Ct l M_Mo_timber (d + 7) 0 0 [.ref q, .int x] n (mo q D A S h0) Q := by
  refine Ct.of (fun _ => trivial) (by decide) (Nat.le_of_ble_eq_true rfl) ?_
  refine V.iload_n d_Mo_timber_0 rfl ?_
  refine V.i2l d_Mo_timber_1 ?_
  refine V.lconst_ ((nI 0).toInt64) d_Mo_timber_2 (by decide +kernel) ?_
  refine V.ldc2 (v := 60) d_Mo_timber_3 (tm 1315 (by decide +kernel) rfl) ?_
  refine V.eqS (st' := .long ((nI 60).toInt64) :: _) rfl ?_
  refine V.callS3 d_Mo_timber_6 k_Mo_56_Mo_inS (Nat.le_of_ble_eq_true rfl) (by omega) (by omega) (c_Mo_in ?_)
  refine V.ifneB (tgt := 18) d_Mo_timber_9 (by decide) (fun c_9 => ?_) (fun c_9 => ?_)
  · skip
    obtain ⟨k, hk, rfl⟩ := wi_nat (by decide) c_9
    refine V.aload_n d_Mo_timber_18 rfl ?_
    refine V.callV0 d_Mo_timber_19 k_Mo_228_Mo_keepAside_MoV mo_o (Nat.le_of_ble_eq_true rfl) (by omega) (by omega) (c_Mo_keepAside ?_)
    refine V.aload_n d_Mo_timber_22 rfl ?_
    refine V.iload_n d_Mo_timber_23 rfl ?_
    refine V.callV1 d_Mo_timber_24 k_Mo_219_Mo_daysGo_MoV mo_o (Nat.le_of_ble_eq_true rfl) (by omega) (by omega) (c_Mo_daysGo hN hD (by omega) ef (by omega) (fun A2 hA2 hA92 => ?_))
    refine V.aload_n d_Mo_timber_27 rfl ?_
    refine V.get d_Mo_timber_28 f_Mo_7_Mo mo_o rfl ?_
    refine V.iconst_ (nI 4) d_Mo_timber_31 (by decide +kernel) ?_
    refine V.mldd d_Mo_timber_32 (by omega) ?_
    refine V.istore_n d_Mo_timber_33 (by decide) ?_
    refine V.aload_n d_Mo_timber_34 rfl ?_
    refine V.callV0 d_Mo_timber_35 k_Mo_231_Mo_putBack_MoV mo_o (Nat.le_of_ble_eq_true rfl) (by omega) (by omega) (c_Mo_putBack ?_)
    rw [hA2 2 (by decide) (by decide) (by decide) (by decide) (by decide), uA_s, bk (fun j hj => dsD_x hN (by unfold kpt; omega) _)]
    refine V.iload_n d_Mo_timber_38 rfl ?_
    refine V.aload_n d_Mo_timber_39 rfl ?_
    refine V.get d_Mo_timber_40 f_Mo_7_Mo mo_o rfl ?_
    refine V.iconst_ (nI 4) d_Mo_timber_43 (by decide +kernel) ?_
    refine V.mldd d_Mo_timber_44 (by omega) ?_
    refine V.isub d_Mo_timber_45 ?_
    refine V.iret d_Mo_timber_46 rfl (Nat.le_of_ble_eq_true rfl) (Nat.le_of_ble_eq_true rfl) ?_
    exact hOk k hk rfl A2 _ (fun j h1 h2 h3 h4 h5 h6 => by rw [hA2 j h2 h3 h4 h5 h6, uA_n h1]) (by have := dsD_len (cv := tgv 0 W0 len0) (wv := tgv 1 W1 len1) hN (D := D) k; omega)
  · skip
    refine V.aload_n d_Mo_timber_12 rfl ?_
    refine V.iconst_ (nI 1) d_Mo_timber_13 (by decide +kernel) ?_
    refine V.callV1 d_Mo_timber_14 k_Mo_138_Mo_finds_MoV mo_o (Nat.le_of_ble_eq_true rfl) (by omega) (by omega) (c_Mo_finds (by omega) ?_)
    refine V.iret d_Mo_timber_17 rfl (Nat.le_of_ble_eq_true rfl) (Nat.le_of_ble_eq_true rfl) ?_
    exact hE c_9
abbrev M_Mo_down : MD := (⟨"FelledByNamesModel", "down", "(I)I"⟩, prog_14_method_59_code, 2, (some .int), fun _ => True)
theorem d_Mo_down_0 : decode prog_14_method_59_code 0 = .ok (.iload_n 1, 1) := by decide +kernel
theorem d_Mo_down_1 : decode prog_14_method_59_code 1 = .ok (.i2l, 1) := by decide +kernel
theorem d_Mo_down_2 : decode prog_14_method_59_code 2 = .ok (.lconst 0, 1) := by decide +kernel
theorem d_Mo_down_3 : decode prog_14_method_59_code 3 = .ok (.ldc2_w 217, 3) := by decide +kernel
theorem d_Mo_down_6 : decode prog_14_method_59_code 6 = .ok (.invokestatic 56, 3) := by decide +kernel
theorem d_Mo_down_9 : decode prog_14_method_59_code 9 = .ok (.ifCond .ne 9, 3) := by decide +kernel
theorem d_Mo_down_18 : decode prog_14_method_59_code 18 = .ok (.aload_n 0, 1) := by decide +kernel
theorem d_Mo_down_19 : decode prog_14_method_59_code 19 = .ok (.invokevirtual 228, 3) := by decide +kernel
theorem d_Mo_down_22 : decode prog_14_method_59_code 22 = .ok (.iconst 1, 1) := by decide +kernel
theorem d_Mo_down_23 : decode prog_14_method_59_code 23 = .ok (.aload_n 0, 1) := by decide +kernel
theorem d_Mo_down_24 : decode prog_14_method_59_code 24 = .ok (.getfield 7, 3) := by decide +kernel
theorem d_Mo_down_27 : decode prog_14_method_59_code 27 = .ok (.iconst 0, 1) := by decide +kernel
theorem d_Mo_down_28 : decode prog_14_method_59_code 28 = .ok (.iaload, 1) := by decide +kernel
theorem d_Mo_down_29 : decode prog_14_method_59_code 29 = .ok (.ishl, 1) := by decide +kernel
theorem d_Mo_down_30 : decode prog_14_method_59_code 30 = .ok (.iconst 1, 1) := by decide +kernel
theorem d_Mo_down_31 : decode prog_14_method_59_code 31 = .ok (.isub, 1) := by decide +kernel
theorem d_Mo_down_32 : decode prog_14_method_59_code 32 = .ok (.aload_n 0, 1) := by decide +kernel
theorem d_Mo_down_33 : decode prog_14_method_59_code 33 = .ok (.iload_n 1, 1) := by decide +kernel
theorem d_Mo_down_34 : decode prog_14_method_59_code 34 = .ok (.invokevirtual 237, 3) := by decide +kernel
theorem kB_Mo_standBehind : kB M_Mo_standBehind 1 := ⟨tm 15 (by decide +kernel) rfl, tm 1370 (by decide +kernel) rfl, ⟨by decide, by decide, by decide +kernel⟩, by decide⟩
theorem k_Mo_237_Mo_standBehind_MoV : kV "FelledByNamesModel" 237 5 M_Mo_standBehind 1 := ⟨kB_Mo_standBehind, tm 1367 (by decide +kernel) rfl, tm 1369 (by decide +kernel) rfl, tp 43 (by decide +kernel) rfl, _, rfl, rfl⟩
theorem d_Mo_down_37 : decode prog_14_method_59_code 37 = .ok (.iconst (-1), 1) := by decide +kernel
theorem d_Mo_down_38 : decode prog_14_method_59_code 38 = .ok (.ixor, 1) := by decide +kernel
theorem d_Mo_down_39 : decode prog_14_method_59_code 39 = .ok (.iand, 1) := by decide +kernel
theorem d_Mo_down_40 : decode prog_14_method_59_code 40 = .ok (.ireturn, 1) := by decide +kernel
theorem d_Mo_down_12 : decode prog_14_method_59_code 12 = .ok (.aload_n 0, 1) := by decide +kernel
theorem d_Mo_down_13 : decode prog_14_method_59_code 13 = .ok (.iconst 1, 1) := by decide +kernel
theorem d_Mo_down_14 : decode prog_14_method_59_code 14 = .ok (.invokevirtual 138, 3) := by decide +kernel
theorem d_Mo_down_17 : decode prog_14_method_59_code 17 = .ok (.ireturn, 1) := by decide +kernel
set_option maxRecDepth 100000 in
theorem c_Mo_down {x : Int32} {N fm len0 len1 : Nat} {W0 W1 : Nat → Nat} {l : Launch} {d q n : Nat} {D : Nat → Int32} {A : Nat → Nat → Int32} {S : Nat → Int32} {h0 : HP} {Q : QT} (hN : N ≤ 8) (hD : DW D N W0 len0 W1 len1) (hf : fm < 2 ^ 26) (ef : S 18 = nI fm) (hE : wi x (nI 0) (nI 60) = false → Q (some (.int (-1000000000 - nI 1))) n (mo q D (uA A 3 (upd (A 3) 1 (A 3 1 + nI 1))) S h0)) (hOk : ∀ k, k ≤ 60 → x = nI k → ∀ (A1 : Nat → Nat → Int32) (f1 : Nat), (∀ j, j ≠ 2 → j ≠ 4 → j ≠ 6 → j ≠ 7 → j ≠ 8 → j ≠ 9 → A1 j = A j) → f1 ≤ fm + 8000 →  Q (some (.int (((nI 1 <<< (nI N &&& 31)) - nI 1) &&& (stb (dsD (tgv 0 W0 len0) (tgv 1 W1 len1) N k D).1 N ^^^ -1)))) n (mo q D A1 (uS S 18 (nI f1)) h0)) : Ct l M_Mo_down (d + 8) 0 0 [.ref q, .int x] n (mo q D A S h0) Q := by
  refine Ct.of (fun _ => trivial) (by decide) (Nat.le_of_ble_eq_true rfl) ?_
  refine V.iload_n d_Mo_down_0 rfl ?_
  refine V.i2l d_Mo_down_1 ?_
  refine V.lconst_ ((nI 0).toInt64) d_Mo_down_2 (by decide +kernel) ?_
  refine V.ldc2 (v := 60) d_Mo_down_3 (tm 1315 (by decide +kernel) rfl) ?_
  refine V.eqS (st' := .long ((nI 60).toInt64) :: _) rfl ?_
  refine V.callS3 d_Mo_down_6 k_Mo_56_Mo_inS (Nat.le_of_ble_eq_true rfl) (by omega) (by omega) (c_Mo_in ?_)
  refine V.ifneB (tgt := 18) d_Mo_down_9 (by decide) (fun c_9 => ?_) (fun c_9 => ?_)
  · skip
    obtain ⟨k, hk, rfl⟩ := wi_nat (by decide) c_9
    refine V.aload_n d_Mo_down_18 rfl ?_
    refine V.callV0 d_Mo_down_19 k_Mo_228_Mo_keepAside_MoV mo_o (Nat.le_of_ble_eq_true rfl) (by omega) (by omega) (c_Mo_keepAside ?_)
    refine V.iconst_ (nI 1) d_Mo_down_22 (by decide +kernel) ?_
    refine V.aload_n d_Mo_down_23 rfl ?_
    refine V.get d_Mo_down_24 f_Mo_7_Mo mo_o rfl ?_
    refine V.iconst_ (nI 0) d_Mo_down_27 (by decide +kernel) ?_
    refine V.mldd d_Mo_down_28 (by omega) ?_
    refine V.top hD.1 ?_
    refine V.ishl d_Mo_down_29 ?_
    refine V.iconst_ (nI 1) d_Mo_down_30 (by decide +kernel) ?_
    refine V.isub d_Mo_down_31 ?_
    refine V.aload_n d_Mo_down_32 rfl ?_
    refine V.iload_n d_Mo_down_33 rfl ?_
    refine V.callV1 d_Mo_down_34 k_Mo_237_Mo_standBehind_MoV mo_o (Nat.le_of_ble_eq_true rfl) (by omega) (by omega) (c_Mo_standBehind hN hD (by omega) ef (by omega) (fun A2 hA2 => ?_))
    rw [uA_s, bk (fun j hj => dsD_x hN (by unfold kpt; omega) _)]
    refine V.iconst_ (-1) d_Mo_down_37 (by decide +kernel) ?_
    refine V.ixor d_Mo_down_38 ?_
    refine V.iand d_Mo_down_39 ?_
    refine V.iret d_Mo_down_40 rfl (Nat.le_of_ble_eq_true rfl) (Nat.le_of_ble_eq_true rfl) ?_
    exact hOk k hk rfl A2 _ (fun j h1 h2 h3 h4 h5 h6 => by rw [hA2 j h2 h3 h4 h5 h6, uA_n h1]) (by have := dsD_len (cv := tgv 0 W0 len0) (wv := tgv 1 W1 len1) hN (D := D) k; omega)
  · skip
    refine V.aload_n d_Mo_down_12 rfl ?_
    refine V.iconst_ (nI 1) d_Mo_down_13 (by decide +kernel) ?_
    refine V.callV1 d_Mo_down_14 k_Mo_138_Mo_finds_MoV mo_o (Nat.le_of_ble_eq_true rfl) (by omega) (by omega) (c_Mo_finds (by omega) ?_)
    refine V.iret d_Mo_down_17 rfl (Nat.le_of_ble_eq_true rfl) (Nat.le_of_ble_eq_true rfl) ?_
    exact hE c_9
end
section
theorem DW.up {D D' : Nat → Int32} {N len0 len1 : Nat} {W0 W1 : Nat → Nat} (hN : N ≤ 8) (h : DW D N W0 len0 W1 len1) (he : ∀ j, j = 0 ∨ 50 ≤ j → D' j = D j) : DW D' N W0 len0 W1 len1 := by
  obtain ⟨h1, h2, h3, h4, h5⟩ := h
  refine ⟨by rw [he 0 (Or.inl rfl)]; exact h1, h2.same (fun t ht => ⟨he _ (by omega), he _ (by omega), he _ (by omega)⟩), h3.same (fun j hj => he _ (by omega)), h4.same (fun j hj => he _ (by omega)), fun t ht => ?_⟩
  unfold NB
  rw [he _ (by omega)]
  exact h5 t ht
def gsD (D : Nat → Int32) (a b v : Nat) : Nat → Int32 := upd (upd D (44 + a) (nI v)) (44 + b) (nI v)
theorem gsD_x {D : Nat → Int32} {a b v j : Nat} (ha : a ≤ 5) (hb : b ≤ 5) (hj : j = 0 ∨ 50 ≤ j) : gsD D a b v j = D j := by
  unfold gsD
  rw [pk_un (by omega), pk_un (by omega)]
def gtst (cv wv : Int32 → Int32 → Int32 → Int32) (N : Nat) (D : Nat → Int32) (k i a b v : Nat) : Prop := ((stb (dsD cv wv N k (gsD D a b v)).1 N >>> (nI i &&& 31)) &&& nI 1) = 0
abbrev M_Mo_gossip : MD := (⟨"FelledByNamesModel", "gossip", "(II)I"⟩, prog_14_method_60_code, 4, (some .int), fun _ => True)
theorem d_Mo_gossip_0 : decode prog_14_method_60_code 0 = .ok (.aload_n 0, 1) := by decide +kernel
theorem d_Mo_gossip_1 : decode prog_14_method_60_code 1 = .ok (.iload_n 1, 1) := by decide +kernel
theorem d_Mo_gossip_2 : decode prog_14_method_60_code 2 = .ok (.invokevirtual 207, 3) := by decide +kernel
theorem d_Mo_gossip_5 : decode prog_14_method_60_code 5 = .ok (.ifCond .eq 15, 3) := by decide +kernel
theorem d_Mo_gossip_20 : decode prog_14_method_60_code 20 = .ok (.aload_n 0, 1) := by decide +kernel
theorem d_Mo_gossip_21 : decode prog_14_method_60_code 21 = .ok (.iconst 1, 1) := by decide +kernel
theorem d_Mo_gossip_22 : decode prog_14_method_60_code 22 = .ok (.invokevirtual 138, 3) := by decide +kernel
theorem d_Mo_gossip_25 : decode prog_14_method_60_code 25 = .ok (.ireturn, 1) := by decide +kernel
theorem d_Mo_gossip_8 : decode prog_14_method_60_code 8 = .ok (.iload_n 2, 1) := by decide +kernel
theorem d_Mo_gossip_9 : decode prog_14_method_60_code 9 = .ok (.i2l, 1) := by decide +kernel
theorem d_Mo_gossip_10 : decode prog_14_method_60_code 10 = .ok (.lconst 0, 1) := by decide +kernel
theorem d_Mo_gossip_11 : decode prog_14_method_60_code 11 = .ok (.ldc2_w 240, 3) := by decide +kernel
theorem d_Mo_gossip_14 : decode prog_14_method_60_code 14 = .ok (.invokestatic 56, 3) := by decide +kernel
theorem d_Mo_gossip_17 : decode prog_14_method_60_code 17 = .ok (.ifCond .ne 9, 3) := by decide +kernel
theorem d_Mo_gossip_26 : decode prog_14_method_60_code 26 = .ok (.aload_n 0, 1) := by decide +kernel
theorem d_Mo_gossip_27 : decode prog_14_method_60_code 27 = .ok (.invokevirtual 228, 3) := by decide +kernel
theorem d_Mo_gossip_30 : decode prog_14_method_60_code 30 = .ok (.iconst 0, 1) := by decide +kernel
theorem d_Mo_gossip_31 : decode prog_14_method_60_code 31 = .ok (.istore_n 3, 1) := by decide +kernel
theorem d_Mo_gossip_32 : decode prog_14_method_60_code 32 = .ok (.iload_n 3, 1) := by decide +kernel
theorem d_Mo_gossip_33 : decode prog_14_method_60_code 33 = .ok (.bipush 10, 2) := by decide +kernel
theorem d_Mo_gossip_35 : decode prog_14_method_60_code 35 = .ok (.if_icmp .ge 53, 3) := by decide +kernel
theorem d_Mo_gossip_88 : decode prog_14_method_60_code 88 = .ok (.aload_n 0, 1) := by decide +kernel
theorem d_Mo_gossip_89 : decode prog_14_method_60_code 89 = .ok (.iconst 2, 1) := by decide +kernel
theorem d_Mo_gossip_90 : decode prog_14_method_60_code 90 = .ok (.invokevirtual 138, 3) := by decide +kernel
theorem d_Mo_gossip_93 : decode prog_14_method_60_code 93 = .ok (.ireturn, 1) := by decide +kernel
theorem d_Mo_gossip_38 : decode prog_14_method_60_code 38 = .ok (.aload_n 0, 1) := by decide +kernel
theorem d_Mo_gossip_39 : decode prog_14_method_60_code 39 = .ok (.getfield 7, 3) := by decide +kernel
theorem d_Mo_gossip_42 : decode prog_14_method_60_code 42 = .ok (.bipush 44, 2) := by decide +kernel
theorem d_Mo_gossip_44 : decode prog_14_method_60_code 44 = .ok (.aload_n 0, 1) := by decide +kernel
theorem d_Mo_gossip_45 : decode prog_14_method_60_code 45 = .ok (.iload_n 1, 1) := by decide +kernel
theorem d_Mo_gossip_46 : decode prog_14_method_60_code 46 = .ok (.iconst 2, 1) := by decide +kernel
theorem d_Mo_gossip_47 : decode prog_14_method_60_code 47 = .ok (.invokevirtual 158, 3) := by decide +kernel
theorem d_Mo_gossip_50 : decode prog_14_method_60_code 50 = .ok (.iadd, 1) := by decide +kernel
theorem d_Mo_gossip_51 : decode prog_14_method_60_code 51 = .ok (.iload_n 3, 1) := by decide +kernel
theorem d_Mo_gossip_52 : decode prog_14_method_60_code 52 = .ok (.iastore, 1) := by decide +kernel
theorem d_Mo_gossip_53 : decode prog_14_method_60_code 53 = .ok (.aload_n 0, 1) := by decide +kernel
theorem d_Mo_gossip_54 : decode prog_14_method_60_code 54 = .ok (.getfield 7, 3) := by decide +kernel
theorem d_Mo_gossip_57 : decode prog_14_method_60_code 57 = .ok (.bipush 44, 2) := by decide +kernel
theorem d_Mo_gossip_59 : decode prog_14_method_60_code 59 = .ok (.aload_n 0, 1) := by decide +kernel
theorem d_Mo_gossip_60 : decode prog_14_method_60_code 60 = .ok (.iload_n 1, 1) := by decide +kernel
theorem d_Mo_gossip_61 : decode prog_14_method_60_code 61 = .ok (.iconst 3, 1) := by decide +kernel
theorem d_Mo_gossip_62 : decode prog_14_method_60_code 62 = .ok (.invokevirtual 158, 3) := by decide +kernel
theorem d_Mo_gossip_65 : decode prog_14_method_60_code 65 = .ok (.iadd, 1) := by decide +kernel
theorem d_Mo_gossip_66 : decode prog_14_method_60_code 66 = .ok (.iload_n 3, 1) := by decide +kernel
theorem d_Mo_gossip_67 : decode prog_14_method_60_code 67 = .ok (.iastore, 1) := by decide +kernel
theorem d_Mo_gossip_68 : decode prog_14_method_60_code 68 = .ok (.aload_n 0, 1) := by decide +kernel
theorem d_Mo_gossip_69 : decode prog_14_method_60_code 69 = .ok (.iload_n 2, 1) := by decide +kernel
theorem d_Mo_gossip_70 : decode prog_14_method_60_code 70 = .ok (.invokevirtual 237, 3) := by decide +kernel
theorem d_Mo_gossip_73 : decode prog_14_method_60_code 73 = .ok (.iload_n 1, 1) := by decide +kernel
theorem d_Mo_gossip_74 : decode prog_14_method_60_code 74 = .ok (.ishr, 1) := by decide +kernel
theorem d_Mo_gossip_75 : decode prog_14_method_60_code 75 = .ok (.iconst 1, 1) := by decide +kernel
theorem d_Mo_gossip_76 : decode prog_14_method_60_code 76 = .ok (.iand, 1) := by decide +kernel
theorem d_Mo_gossip_77 : decode prog_14_method_60_code 77 = .ok (.ifCond .ne 5, 3) := by decide +kernel
theorem d_Mo_gossip_82 : decode prog_14_method_60_code 82 = .ok (.iinc 3 1, 3) := by decide +kernel
theorem d_Mo_gossip_85 : decode prog_14_method_60_code 85 = .ok (.goto (-53), 3) := by decide +kernel
theorem d_Mo_gossip_80 : decode prog_14_method_60_code 80 = .ok (.iload_n 3, 1) := by decide +kernel
theorem d_Mo_gossip_81 : decode prog_14_method_60_code 81 = .ok (.ireturn, 1) := by decide +kernel
set_option maxRecDepth 100000 in
theorem c_Mo_gossip {x y : Int32} {N fm len0 len1 : Nat} {W0 W1 : Nat → Nat} {l : Launch} {d q n : Nat} {D : Nat → Int32} {A : Nat → Nat → Int32} {S : Nat → Int32} {h0 : HP} {Q : QT} (hN : N ≤ 8) (hD : DW D N W0 len0 W1 len1) (hf : fm < 2 ^ 25) (ef : S 18 = nI fm) (hE : (wi x (nI 0) (nI N - nI 1) && wi y (nI 0) (nI 30)) = false → Q (some (.int (-1000000000 - nI 1))) n (mo q D (uA A 3 (upd (A 3) 1 (A 3 1 + nI 1))) S h0)) (hNo : ∀ i k a b, i < N → k ≤ 30 → x = nI i → y = nI k → D (50 + 7 * i + 2) = nI a → D (50 + 7 * i + 3) = nI b → a ≤ 5 → b ≤ 5 →  (∀ v, v < 10 → ¬ gtst (tgv 0 W0 len0) (tgv 1 W1 len1) N D k i a b v) → ∀ (A1 : Nat → Nat → Int32) (f1 : Nat), (∀ j, j ≠ 2 → j ≠ 4 → j ≠ 6 → j ≠ 7 → j ≠ 8 → j ≠ 9 → A1 j = A j) → f1 ≤ fm + 40000 →  Q (some (.int (-1000000000 - nI 2))) n (mo q D (uA A1 3 (upd (A 3) 2 (A 3 2 + nI 1))) (uS S 18 (nI f1)) h0)) (hOk : ∀ i k a b v, i < N → k ≤ 30 → x = nI i → y = nI k → D (50 + 7 * i + 2) = nI a → D (50 + 7 * i + 3) = nI b → a ≤ 5 → b ≤ 5 →  v < 10 → (∀ u, u < v → ¬ gtst (tgv 0 W0 len0) (tgv 1 W1 len1) N D k i a b u) → gtst (tgv 0 W0 len0) (tgv 1 W1 len1) N D k i a b v → ∀ (A1 : Nat → Nat → Int32) (f1 : Nat), (∀ j, j ≠ 2 → j ≠ 4 → j ≠ 6 → j ≠ 7 → j ≠ 8 → j ≠ 9 → A1 j = A j) → f1 ≤ fm + 40000 →  Q (some (.int (nI v))) n (mo q D A1 (uS S 18 (nI f1)) h0)) : Ct l M_Mo_gossip (d + 8) 0 0 [.ref q, .int x, .int y] n (mo q D A S h0) Q := by
  refine Ct.of (fun _ => trivial) (by decide) (Nat.le_of_ble_eq_true rfl) ?_
  refine V.aload_n d_Mo_gossip_0 rfl ?_
  refine V.iload_n d_Mo_gossip_1 rfl ?_
  refine V.callV1 d_Mo_gossip_2 k_Mo_207_Mo_isTree_MoV mo_o (Nat.le_of_ble_eq_true rfl) (by omega) (by omega) (c_Mo_isTree ?_)
  rw [hD.1]
  refine V.ifeqB (tgt := 20) d_Mo_gossip_5 (by decide) (fun c_5 => ?_) (fun c_5 => ?_)
  · skip
    refine V.aload_n d_Mo_gossip_20 rfl ?_
    refine V.iconst_ (nI 1) d_Mo_gossip_21 (by decide +kernel) ?_
    refine V.callV1 d_Mo_gossip_22 k_Mo_138_Mo_finds_MoV mo_o (Nat.le_of_ble_eq_true rfl) (by omega) (by omega) (c_Mo_finds (by omega) ?_)
    refine V.iret d_Mo_gossip_25 rfl (Nat.le_of_ble_eq_true rfl) (Nat.le_of_ble_eq_true rfl) ?_
    exact hE (by simp only [c_5, Bool.and_false, Bool.false_and, Bool.and_true, Bool.true_and])
  · skip
    refine V.iload_n d_Mo_gossip_8 rfl ?_
    refine V.i2l d_Mo_gossip_9 ?_
    refine V.lconst_ ((nI 0).toInt64) d_Mo_gossip_10 (by decide +kernel) ?_
    refine V.ldc2 (v := 30) d_Mo_gossip_11 (tm 1379 (by decide +kernel) rfl) ?_
    refine V.eqS (st' := .long ((nI 30).toInt64) :: _) rfl ?_
    refine V.callS3 d_Mo_gossip_14 k_Mo_56_Mo_inS (Nat.le_of_ble_eq_true rfl) (by omega) (by omega) (c_Mo_in ?_)
    refine V.ifneB (tgt := 26) d_Mo_gossip_17 (by decide) (fun c_17 => ?_) (fun c_17 => ?_)
    · skip
      obtain ⟨i, hi, rfl⟩ := tre_nat hN c_5
      obtain ⟨k, hk, rfl⟩ := wi_nat (by decide) c_17
      obtain ⟨a, ha, ea⟩ := (hD.2.1 i hi).2.1
      obtain ⟨b, hb, eb⟩ := (hD.2.1 i hi).2.2
      refine V.aload_n d_Mo_gossip_26 rfl ?_
      refine V.callV0 d_Mo_gossip_27 k_Mo_228_Mo_keepAside_MoV mo_o (Nat.le_of_ble_eq_true rfl) (by omega) (by omega) (c_Mo_keepAside ?_)
      refine V.iconst_ (nI 0) d_Mo_gossip_30 (by decide +kernel) ?_
      refine V.istore_n d_Mo_gossip_31 (by decide) ?_
      refine V.eqH (h' := mo q D (uA A 2 (cpN 106 D (A 2))) (uS S 18 (nI fm)) h0) (by rw [show uS S 18 (nI fm) = S from uS_18 ef]) ?_
      refine V.lc (ls' := [(0, .ref q), (1, .int (nI i)), (2, .int (nI k)), (3, .int (nI 0))]) rfl ?_
      refine up_to (G := fun v => ∀ (A1 : Nat → Nat → Int32) (f1 : Nat), (∀ j, j ≠ 2 → j ≠ 4 → j ≠ 6 → j ≠ 7 → j ≠ 8 → j ≠ 9 → A1 j = A j) → A1 2 = cpN 106 D (A 2) → f1 ≤ fm + 500 * v → (∀ u, u < v → ¬ gtst (tgv 0 W0 len0) (tgv 1 W1 len1) N D k i a b u) → V l M_Mo_gossip (d + 8) 0 0 32 [(0, .ref q), (1, .int (nI i)), (2, .int (nI k)), (3, .int (nI v))] [] n (mo q D A1 (uS S 18 (nI f1)) h0) 0 0 Q) (10) ?_ (fun v hv hn => ?_) 0 (by omega) (uA A 2 (cpN 106 D (A 2))) fm (fun j h1 _ _ _ _ _ => uA_n h1) uA_s (by omega) (fun u hu => absurd hu (by omega))
      · skip
        intro A1 f1 hA1 hA12 hf1 hno
        refine V.iload_n d_Mo_gossip_32 rfl ?_
        refine V.bipush_ (nI 10) d_Mo_gossip_33 (by decide +kernel) ?_
        refine V.geN (tgt := 88) d_Mo_gossip_35 (by decide) (by omega) (by omega) (fun c_35 => ?_) (fun c_35 => ?_)
        · skip
          refine V.aload_n d_Mo_gossip_88 rfl ?_
          refine V.iconst_ (nI 2) d_Mo_gossip_89 (by decide +kernel) ?_
          refine V.callV1 d_Mo_gossip_90 k_Mo_138_Mo_finds_MoV mo_o (Nat.le_of_ble_eq_true rfl) (by omega) (by omega) (c_Mo_finds (by omega) ?_)
          refine V.iret d_Mo_gossip_93 rfl (Nat.le_of_ble_eq_true rfl) (Nat.le_of_ble_eq_true rfl) ?_
          rw [hA1 3 (by decide) (by decide) (by decide) (by decide) (by decide) (by decide)]
          exact hNo i k a b hi hk rfl rfl ea eb ha hb hno A1 f1 hA1 (by omega)
        · skip
          exact absurd c_35 (by omega)
      · skip
        intro A1 f1 hA1 hA12 hf1 hno
        refine V.iload_n d_Mo_gossip_32 rfl ?_
        refine V.bipush_ (nI 10) d_Mo_gossip_33 (by decide +kernel) ?_
        refine V.geN (tgt := 88) d_Mo_gossip_35 (by decide) (by omega) (by omega) (fun c_35 => ?_) (fun c_35 => ?_)
        · skip
          exact absurd c_35 (by omega)
        · skip
          refine V.aload_n d_Mo_gossip_38 rfl ?_
          refine V.get d_Mo_gossip_39 f_Mo_7_Mo mo_o rfl ?_
          refine V.bipush_ (nI 44) d_Mo_gossip_42 (by decide +kernel) ?_
          refine V.aload_n d_Mo_gossip_44 rfl ?_
          refine V.iload_n d_Mo_gossip_45 rfl ?_
          refine V.iconst_ (nI 2) d_Mo_gossip_46 (by decide +kernel) ?_
          refine V.callV2 d_Mo_gossip_47 k_Mo_158_Mo_of_MoV mo_o (Nat.le_of_ble_eq_true rfl) (by omega) (by omega) (c_Mo_of (by omega) ?_)
          refine V.top ea ?_
          refine V.addN d_Mo_gossip_50 ?_
          refine V.iload_n d_Mo_gossip_51 rfl ?_
          refine V.mstd d_Mo_gossip_52 (by omega) ?_
          refine V.aload_n d_Mo_gossip_53 rfl ?_
          refine V.get d_Mo_gossip_54 f_Mo_7_Mo mo_o rfl ?_
          refine V.bipush_ (nI 44) d_Mo_gossip_57 (by decide +kernel) ?_
          refine V.aload_n d_Mo_gossip_59 rfl ?_
          refine V.iload_n d_Mo_gossip_60 rfl ?_
          refine V.iconst_ (nI 3) d_Mo_gossip_61 (by decide +kernel) ?_
          refine V.callV2 d_Mo_gossip_62 k_Mo_158_Mo_of_MoV mo_o (Nat.le_of_ble_eq_true rfl) (by omega) (by omega) (c_Mo_of (by omega) ?_)
          refine V.top (show _ = nI b by rw [pk_un (by omega)]; exact eb) ?_
          refine V.addN d_Mo_gossip_65 ?_
          refine V.iload_n d_Mo_gossip_66 rfl ?_
          refine V.mstd d_Mo_gossip_67 (by omega) ?_
          refine V.eqH (h' := mo q (gsD D a b v) A1 (uS S 18 (nI f1)) h0) rfl ?_
          refine V.aload_n d_Mo_gossip_68 rfl ?_
          refine V.iload_n d_Mo_gossip_69 rfl ?_
          refine V.callV1 d_Mo_gossip_70 k_Mo_237_Mo_standBehind_MoV mo_o (Nat.le_of_ble_eq_true rfl) (by omega) (by omega) (c_Mo_standBehind (fm := f1) hN (hD.up hN (fun j hj => gsD_x ha hb hj)) (by omega) uS_s (by omega) (fun A2 hA2 => ?_))
          have hl2 := dsD_len (cv := tgv 0 W0 len0) (wv := tgv 1 W1 len1) hN (D := gsD D a b v) k
          have hbk : cpN 106 (cpN 106 D (A 2)) (dsD (tgv 0 W0 len0) (tgv 1 W1 len1) N k (gsD D a b v)).1 = D := bk (fun j hj => (dsD_x hN (by unfold kpt; omega) k).trans (gsD_x ha hb (by omega)))
          rw [hA12, hbk, uS_uu]
          refine V.iload_n d_Mo_gossip_73 rfl ?_
          refine V.ishr d_Mo_gossip_74 ?_
          refine V.iconst_ (nI 1) d_Mo_gossip_75 (by decide +kernel) ?_
          refine V.iand d_Mo_gossip_76 ?_
          refine V.if_ne (tgt := 82) d_Mo_gossip_77 (by decide) (fun c_77 => ?_) (fun c_77 => ?_)
          · skip
            refine V.incN d_Mo_gossip_82 rfl (by decide) ?_
            refine V.goto (tgt := 32) d_Mo_gossip_85 (by decide) ?_
            refine V.lc (ls' := [(0, .ref q), (1, .int (nI i)), (2, .int (nI k)), (3, .int (nI (v + 1)))]) rfl (hn A2 _ (fun j h1 h2 h3 h4 h5 h6 => (hA2 j h2 h3 h4 h5 h6).trans (hA1 j h1 h2 h3 h4 h5 h6)) ((hA2 2 (by decide) (by decide) (by decide) (by decide) (by decide)).trans hA12) (by omega) (fun u hu => ?_))
            by_cases huv : u = v
            · subst huv; exact c_77
            · exact hno u (by omega)
          · skip
            refine V.iload_n d_Mo_gossip_80 rfl ?_
            refine V.iret d_Mo_gossip_81 rfl (Nat.le_of_ble_eq_true rfl) (Nat.le_of_ble_eq_true rfl) ?_
            exact hOk i k a b v hi hk rfl rfl ea eb ha hb hv hno c_77 A2 _ (fun j h1 h2 h3 h4 h5 h6 => (hA2 j h2 h3 h4 h5 h6).trans (hA1 j h1 h2 h3 h4 h5 h6)) (by omega)
    · skip
      refine V.aload_n d_Mo_gossip_20 rfl ?_
      refine V.iconst_ (nI 1) d_Mo_gossip_21 (by decide +kernel) ?_
      refine V.callV1 d_Mo_gossip_22 k_Mo_138_Mo_finds_MoV mo_o (Nat.le_of_ble_eq_true rfl) (by omega) (by omega) (c_Mo_finds (by omega) ?_)
      refine V.iret d_Mo_gossip_25 rfl (Nat.le_of_ble_eq_true rfl) (Nat.le_of_ble_eq_true rfl) ?_
      exact hE (by simp only [c_5, c_17, Bool.and_false, Bool.false_and, Bool.and_true, Bool.true_and])
def abD (D : Nat → Int32) (st : Nat) : Nat → Nat → Int32 := fun p => itr (fun p E => upd E (44 + p) (if ((nI st >>> (nI p &&& 31)) &&& nI 1) = nI 1 then nI 9 else E (44 + p))) p D
theorem abD_x {D : Nat → Int32} {st j : Nat} (hj : j < 44 ∨ 50 ≤ j) : ∀ p, p ≤ 6 → abD D st p j = D j := by
  intro p
  induction p with
  | zero => intro _; rfl
  | succ p ih =>
    intro hp
    show upd (abD D st p) (44 + p) _ j = D j
    rw [pk_un (by omega)]
    exact ih (by omega)
def abB (cv wv : Int32 → Int32 → Int32 → Int32) (N : Nat) (D : Nat → Int32) (k : Nat) (x : Int32) : Nat → Int32 := fun st => itr (fun st best => if ¬ best < 0 ∧ ¬ btc (nI st) < btc best then best else if (stb (dsD cv wv N k (abD D st 6)).1 N &&& x) = 0 then nI st else best) st (-1)
abbrev M_Mo_about : MD := (⟨"FelledByNamesModel", "about", "(II)I"⟩, prog_14_method_61_code, 6, (some .int), fun _ => True)
theorem d_Mo_about_0 : decode prog_14_method_61_code 0 = .ok (.iload_n 1, 1) := by decide +kernel
theorem d_Mo_about_1 : decode prog_14_method_61_code 1 = .ok (.i2l, 1) := by decide +kernel
theorem d_Mo_about_2 : decode prog_14_method_61_code 2 = .ok (.lconst 0, 1) := by decide +kernel
theorem d_Mo_about_3 : decode prog_14_method_61_code 3 = .ok (.iconst 1, 1) := by decide +kernel
theorem d_Mo_about_4 : decode prog_14_method_61_code 4 = .ok (.aload_n 0, 1) := by decide +kernel
theorem d_Mo_about_5 : decode prog_14_method_61_code 5 = .ok (.getfield 7, 3) := by decide +kernel
theorem d_Mo_about_8 : decode prog_14_method_61_code 8 = .ok (.iconst 0, 1) := by decide +kernel
theorem d_Mo_about_9 : decode prog_14_method_61_code 9 = .ok (.iaload, 1) := by decide +kernel
theorem d_Mo_about_10 : decode prog_14_method_61_code 10 = .ok (.ishl, 1) := by decide +kernel
theorem d_Mo_about_11 : decode prog_14_method_61_code 11 = .ok (.iconst 1, 1) := by decide +kernel
theorem d_Mo_about_12 : decode prog_14_method_61_code 12 = .ok (.isub, 1) := by decide +kernel
theorem d_Mo_about_13 : decode prog_14_method_61_code 13 = .ok (.i2l, 1) := by decide +kernel
theorem d_Mo_about_14 : decode prog_14_method_61_code 14 = .ok (.invokestatic 56, 3) := by decide +kernel
theorem d_Mo_about_17 : decode prog_14_method_61_code 17 = .ok (.ifCond .eq 15, 3) := by decide +kernel
theorem d_Mo_about_32 : decode prog_14_method_61_code 32 = .ok (.aload_n 0, 1) := by decide +kernel
theorem d_Mo_about_33 : decode prog_14_method_61_code 33 = .ok (.iconst 1, 1) := by decide +kernel
theorem d_Mo_about_34 : decode prog_14_method_61_code 34 = .ok (.invokevirtual 138, 3) := by decide +kernel
theorem d_Mo_about_37 : decode prog_14_method_61_code 37 = .ok (.ireturn, 1) := by decide +kernel
theorem d_Mo_about_20 : decode prog_14_method_61_code 20 = .ok (.iload_n 2, 1) := by decide +kernel
theorem d_Mo_about_21 : decode prog_14_method_61_code 21 = .ok (.i2l, 1) := by decide +kernel
theorem d_Mo_about_22 : decode prog_14_method_61_code 22 = .ok (.lconst 0, 1) := by decide +kernel
theorem d_Mo_about_23 : decode prog_14_method_61_code 23 = .ok (.ldc2_w 240, 3) := by decide +kernel
theorem d_Mo_about_26 : decode prog_14_method_61_code 26 = .ok (.invokestatic 56, 3) := by decide +kernel
theorem d_Mo_about_29 : decode prog_14_method_61_code 29 = .ok (.ifCond .ne 9, 3) := by decide +kernel
theorem d_Mo_about_38 : decode prog_14_method_61_code 38 = .ok (.aload_n 0, 1) := by decide +kernel
theorem d_Mo_about_39 : decode prog_14_method_61_code 39 = .ok (.invokevirtual 228, 3) := by decide +kernel
theorem d_Mo_about_42 : decode prog_14_method_61_code 42 = .ok (.iconst (-1), 1) := by decide +kernel
theorem d_Mo_about_43 : decode prog_14_method_61_code 43 = .ok (.istore_n 3, 1) := by decide +kernel
theorem d_Mo_about_44 : decode prog_14_method_61_code 44 = .ok (.iconst 0, 1) := by decide +kernel
theorem d_Mo_about_45 : decode prog_14_method_61_code 45 = .ok (.istore 4, 2) := by decide +kernel
theorem d_Mo_about_47 : decode prog_14_method_61_code 47 = .ok (.iload 4, 2) := by decide +kernel
theorem d_Mo_about_49 : decode prog_14_method_61_code 49 = .ok (.bipush 64, 2) := by decide +kernel
theorem d_Mo_about_51 : decode prog_14_method_61_code 51 = .ok (.if_icmp .ge 97, 3) := by decide +kernel
theorem d_Mo_about_148 : decode prog_14_method_61_code 148 = .ok (.iload_n 3, 1) := by decide +kernel
theorem d_Mo_about_149 : decode prog_14_method_61_code 149 = .ok (.ifCond .ge 11, 3) := by decide +kernel
theorem d_Mo_about_160 : decode prog_14_method_61_code 160 = .ok (.iload_n 3, 1) := by decide +kernel
theorem d_Mo_about_161 : decode prog_14_method_61_code 161 = .ok (.ireturn, 1) := by decide +kernel
theorem d_Mo_about_152 : decode prog_14_method_61_code 152 = .ok (.aload_n 0, 1) := by decide +kernel
theorem d_Mo_about_153 : decode prog_14_method_61_code 153 = .ok (.iconst 2, 1) := by decide +kernel
theorem d_Mo_about_154 : decode prog_14_method_61_code 154 = .ok (.invokevirtual 138, 3) := by decide +kernel
theorem d_Mo_about_157 : decode prog_14_method_61_code 157 = .ok (.goto 4, 3) := by decide +kernel
theorem d_Mo_about_54 : decode prog_14_method_61_code 54 = .ok (.iload_n 3, 1) := by decide +kernel
theorem d_Mo_about_55 : decode prog_14_method_61_code 55 = .ok (.ifCond .lt 18, 3) := by decide +kernel
theorem d_Mo_about_73 : decode prog_14_method_61_code 73 = .ok (.iconst 0, 1) := by decide +kernel
theorem d_Mo_about_74 : decode prog_14_method_61_code 74 = .ok (.istore 5, 2) := by decide +kernel
theorem d_Mo_about_76 : decode prog_14_method_61_code 76 = .ok (.iload 5, 2) := by decide +kernel
theorem d_Mo_about_78 : decode prog_14_method_61_code 78 = .ok (.bipush 6, 2) := by decide +kernel
theorem d_Mo_about_80 : decode prog_14_method_61_code 80 = .ok (.if_icmp .ge 45, 3) := by decide +kernel
theorem d_Mo_about_125 : decode prog_14_method_61_code 125 = .ok (.aload_n 0, 1) := by decide +kernel
theorem d_Mo_about_126 : decode prog_14_method_61_code 126 = .ok (.iload_n 2, 1) := by decide +kernel
theorem d_Mo_about_127 : decode prog_14_method_61_code 127 = .ok (.invokevirtual 237, 3) := by decide +kernel
theorem d_Mo_about_130 : decode prog_14_method_61_code 130 = .ok (.iload_n 1, 1) := by decide +kernel
theorem d_Mo_about_131 : decode prog_14_method_61_code 131 = .ok (.iand, 1) := by decide +kernel
theorem d_Mo_about_132 : decode prog_14_method_61_code 132 = .ok (.ifCond .ne 8, 3) := by decide +kernel
theorem d_Mo_about_140 : decode prog_14_method_61_code 140 = .ok (.iload_n 3, 1) := by decide +kernel
theorem d_Mo_about_141 : decode prog_14_method_61_code 141 = .ok (.istore_n 3, 1) := by decide +kernel
theorem d_Mo_about_142 : decode prog_14_method_61_code 142 = .ok (.iinc 4 1, 3) := by decide +kernel
theorem d_Mo_about_145 : decode prog_14_method_61_code 145 = .ok (.goto (-98), 3) := by decide +kernel
theorem d_Mo_about_135 : decode prog_14_method_61_code 135 = .ok (.iload 4, 2) := by decide +kernel
theorem d_Mo_about_137 : decode prog_14_method_61_code 137 = .ok (.goto 4, 3) := by decide +kernel
theorem d_Mo_about_83 : decode prog_14_method_61_code 83 = .ok (.aload_n 0, 1) := by decide +kernel
theorem d_Mo_about_84 : decode prog_14_method_61_code 84 = .ok (.getfield 7, 3) := by decide +kernel
theorem d_Mo_about_87 : decode prog_14_method_61_code 87 = .ok (.bipush 44, 2) := by decide +kernel
theorem d_Mo_about_89 : decode prog_14_method_61_code 89 = .ok (.iload 5, 2) := by decide +kernel
theorem d_Mo_about_91 : decode prog_14_method_61_code 91 = .ok (.iadd, 1) := by decide +kernel
theorem d_Mo_about_92 : decode prog_14_method_61_code 92 = .ok (.iload 4, 2) := by decide +kernel
theorem d_Mo_about_94 : decode prog_14_method_61_code 94 = .ok (.iload 5, 2) := by decide +kernel
theorem d_Mo_about_96 : decode prog_14_method_61_code 96 = .ok (.ishr, 1) := by decide +kernel
theorem d_Mo_about_97 : decode prog_14_method_61_code 97 = .ok (.iconst 1, 1) := by decide +kernel
theorem d_Mo_about_98 : decode prog_14_method_61_code 98 = .ok (.iand, 1) := by decide +kernel
theorem d_Mo_about_99 : decode prog_14_method_61_code 99 = .ok (.iconst 1, 1) := by decide +kernel
theorem d_Mo_about_100 : decode prog_14_method_61_code 100 = .ok (.if_icmp .ne 8, 3) := by decide +kernel
theorem d_Mo_about_108 : decode prog_14_method_61_code 108 = .ok (.aload_n 0, 1) := by decide +kernel
theorem d_Mo_about_109 : decode prog_14_method_61_code 109 = .ok (.getfield 7, 3) := by decide +kernel
theorem d_Mo_about_112 : decode prog_14_method_61_code 112 = .ok (.bipush 44, 2) := by decide +kernel
theorem d_Mo_about_114 : decode prog_14_method_61_code 114 = .ok (.iload 5, 2) := by decide +kernel
theorem d_Mo_about_116 : decode prog_14_method_61_code 116 = .ok (.iadd, 1) := by decide +kernel
theorem d_Mo_about_117 : decode prog_14_method_61_code 117 = .ok (.iaload, 1) := by decide +kernel
theorem d_Mo_about_118 : decode prog_14_method_61_code 118 = .ok (.iastore, 1) := by decide +kernel
theorem d_Mo_about_119 : decode prog_14_method_61_code 119 = .ok (.iinc 5 1, 3) := by decide +kernel
theorem d_Mo_about_122 : decode prog_14_method_61_code 122 = .ok (.goto (-46), 3) := by decide +kernel
theorem d_Mo_about_103 : decode prog_14_method_61_code 103 = .ok (.bipush 9, 2) := by decide +kernel
theorem d_Mo_about_105 : decode prog_14_method_61_code 105 = .ok (.goto 13, 3) := by decide +kernel
theorem d_Mo_about_58 : decode prog_14_method_61_code 58 = .ok (.iload 4, 2) := by decide +kernel
theorem d_Mo_about_60 : decode prog_14_method_61_code 60 = .ok (.invokestatic 242, 3) := by decide +kernel
theorem kB_Mo_bits : kB M_Mo_bits 1 := ⟨tm 15 (by decide +kernel) rfl, tm 1386 (by decide +kernel) rfl, ⟨by decide, by decide, by decide +kernel⟩, by decide⟩
theorem k_Mo_242_Mo_bitsS : kS "FelledByNamesModel" 242 M_Mo_bits 1 := ⟨kB_Mo_bits, tm 1384 (by decide +kernel) rfl, tm 1385 (by decide +kernel) rfl⟩
theorem d_Mo_about_63 : decode prog_14_method_61_code 63 = .ok (.iload_n 3, 1) := by decide +kernel
theorem d_Mo_about_64 : decode prog_14_method_61_code 64 = .ok (.invokestatic 242, 3) := by decide +kernel
theorem d_Mo_about_67 : decode prog_14_method_61_code 67 = .ok (.if_icmp .lt 6, 3) := by decide +kernel
theorem d_Mo_about_70 : decode prog_14_method_61_code 70 = .ok (.goto 72, 3) := by decide +kernel
set_option maxRecDepth 100000 in
theorem c_Mo_about {x y : Int32} {N fm len0 len1 : Nat} {W0 W1 : Nat → Nat} {l : Launch} {d q n : Nat} {D : Nat → Int32} {A : Nat → Nat → Int32} {S : Nat → Int32} {h0 : HP} {Q : QT} (hN : N ≤ 8) (hD : DW D N W0 len0 W1 len1) (hf : fm < 2 ^ 25) (ef : S 18 = nI fm) (hE : (wi x (nI 0) ((nI 1 <<< (nI N &&& 31)) - nI 1) && wi y (nI 0) (nI 30)) = false → Q (some (.int (-1000000000 - nI 1))) n (mo q D (uA A 3 (upd (A 3) 1 (A 3 1 + nI 1))) S h0)) (hNo : ∀ k, k ≤ 30 → y = nI k → wi x (nI 0) ((nI 1 <<< (nI N &&& 31)) - nI 1) = true → abB (tgv 0 W0 len0) (tgv 1 W1 len1) N D k x 64 < 0 → ∀ (A1 : Nat → Nat → Int32) (f1 : Nat), (∀ j, j ≠ 2 → j ≠ 4 → j ≠ 6 → j ≠ 7 → j ≠ 8 → j ≠ 9 → A1 j = A j) → f1 ≤ fm + 40000 →  Q (some (.int (-1000000000 - nI 2))) n (mo q D (uA A1 3 (upd (A 3) 2 (A 3 2 + nI 1))) (uS S 18 (nI f1)) h0)) (hOk : ∀ k, k ≤ 30 → y = nI k → wi x (nI 0) ((nI 1 <<< (nI N &&& 31)) - nI 1) = true → ¬ abB (tgv 0 W0 len0) (tgv 1 W1 len1) N D k x 64 < 0 → ∀ (A1 : Nat → Nat → Int32) (f1 : Nat), (∀ j, j ≠ 2 → j ≠ 4 → j ≠ 6 → j ≠ 7 → j ≠ 8 → j ≠ 9 → A1 j = A j) → f1 ≤ fm + 40000 →  Q (some (.int (abB (tgv 0 W0 len0) (tgv 1 W1 len1) N D k x 64))) n (mo q D A1 (uS S 18 (nI f1)) h0)) : Ct l M_Mo_about (d + 8) 0 0 [.ref q, .int x, .int y] n (mo q D A S h0) Q := by
  refine Ct.of (fun _ => trivial) (by decide) (Nat.le_of_ble_eq_true rfl) ?_
  refine V.iload_n d_Mo_about_0 rfl ?_
  refine V.i2l d_Mo_about_1 ?_
  refine V.lconst_ ((nI 0).toInt64) d_Mo_about_2 (by decide +kernel) ?_
  refine V.iconst_ (nI 1) d_Mo_about_3 (by decide +kernel) ?_
  refine V.aload_n d_Mo_about_4 rfl ?_
  refine V.get d_Mo_about_5 f_Mo_7_Mo mo_o rfl ?_
  refine V.iconst_ (nI 0) d_Mo_about_8 (by decide +kernel) ?_
  refine V.mldd d_Mo_about_9 (by omega) ?_
  refine V.top hD.1 ?_
  refine V.ishl d_Mo_about_10 ?_
  refine V.iconst_ (nI 1) d_Mo_about_11 (by decide +kernel) ?_
  refine V.isub d_Mo_about_12 ?_
  refine V.i2l d_Mo_about_13 ?_
  refine V.callS3 d_Mo_about_14 k_Mo_56_Mo_inS (Nat.le_of_ble_eq_true rfl) (by omega) (by omega) (c_Mo_in ?_)
  refine V.ifeqB (tgt := 32) d_Mo_about_17 (by decide) (fun c_17 => ?_) (fun c_17 => ?_)
  · skip
    refine V.aload_n d_Mo_about_32 rfl ?_
    refine V.iconst_ (nI 1) d_Mo_about_33 (by decide +kernel) ?_
    refine V.callV1 d_Mo_about_34 k_Mo_138_Mo_finds_MoV mo_o (Nat.le_of_ble_eq_true rfl) (by omega) (by omega) (c_Mo_finds (by omega) ?_)
    refine V.iret d_Mo_about_37 rfl (Nat.le_of_ble_eq_true rfl) (Nat.le_of_ble_eq_true rfl) ?_
    exact hE (by simp only [c_17, Bool.and_false, Bool.false_and, Bool.and_true, Bool.true_and])
  · skip
    refine V.iload_n d_Mo_about_20 rfl ?_
    refine V.i2l d_Mo_about_21 ?_
    refine V.lconst_ ((nI 0).toInt64) d_Mo_about_22 (by decide +kernel) ?_
    refine V.ldc2 (v := 30) d_Mo_about_23 (tm 1379 (by decide +kernel) rfl) ?_
    refine V.eqS (st' := .long ((nI 30).toInt64) :: _) rfl ?_
    refine V.callS3 d_Mo_about_26 k_Mo_56_Mo_inS (Nat.le_of_ble_eq_true rfl) (by omega) (by omega) (c_Mo_in ?_)
    refine V.ifneB (tgt := 38) d_Mo_about_29 (by decide) (fun c_29 => ?_) (fun c_29 => ?_)
    · skip
      obtain ⟨k, hk, rfl⟩ := wi_nat (by decide) c_29
      refine V.aload_n d_Mo_about_38 rfl ?_
      refine V.callV0 d_Mo_about_39 k_Mo_228_Mo_keepAside_MoV mo_o (Nat.le_of_ble_eq_true rfl) (by omega) (by omega) (c_Mo_keepAside ?_)
      refine V.iconst_ (-1) d_Mo_about_42 (by decide +kernel) ?_
      refine V.istore_n d_Mo_about_43 (by decide) ?_
      refine V.iconst_ (nI 0) d_Mo_about_44 (by decide +kernel) ?_
      refine V.istore d_Mo_about_45 (by decide) ?_
      refine V.eqH (h' := mo q D (uA A 2 (cpN 106 D (A 2))) (uS S 18 (nI fm)) h0) (by rw [show uS S 18 (nI fm) = S from uS_18 ef]) ?_
      refine V.lc (ls' := [(0, .ref q), (1, .int x), (2, .int (nI k)), (3, .int (abB (tgv 0 W0 len0) (tgv 1 W1 len1) N D k x 0)), (4, .int (nI 0))]) rfl ?_
      refine up_to (G := fun u => ∀ (A1 : Nat → Nat → Int32) (f1 : Nat), (∀ j, j ≠ 2 → j ≠ 4 → j ≠ 6 → j ≠ 7 → j ≠ 8 → j ≠ 9 → A1 j = A j) → A1 2 = cpN 106 D (A 2) → f1 ≤ fm + 500 * u → V l M_Mo_about (d + 8) 0 0 47 [(0, .ref q), (1, .int x), (2, .int (nI k)), (3, .int (abB (tgv 0 W0 len0) (tgv 1 W1 len1) N D k x u)), (4, .int (nI u))] [] n (mo q D A1 (uS S 18 (nI f1)) h0) 0 0 Q) (64) ?_ (fun u hu hn => ?_) 0 (by omega) (uA A 2 (cpN 106 D (A 2))) fm (fun j h1 _ _ _ _ _ => uA_n h1) uA_s (by omega)
      · skip
        intro A1 f1 hA1 hA12 hf1
        refine V.iload d_Mo_about_47 rfl ?_
        refine V.bipush_ (nI 64) d_Mo_about_49 (by decide +kernel) ?_
        refine V.geN (tgt := 148) d_Mo_about_51 (by decide) (by omega) (by omega) (fun c_51 => ?_) (fun c_51 => ?_)
        · skip
          refine V.iload_n d_Mo_about_148 rfl ?_
          refine V.if_ge (tgt := 160) d_Mo_about_149 (by decide) (fun c_149 => ?_) (fun c_149 => ?_)
          · skip
            refine V.iload_n d_Mo_about_160 rfl ?_
            refine V.iret d_Mo_about_161 rfl (Nat.le_of_ble_eq_true rfl) (Nat.le_of_ble_eq_true rfl) ?_
            first
            | exact hOk k hk rfl c_17 (Int32.not_lt.mpr c_149) A1 f1 hA1 (by omega)
            | (rw [hA1 3 (by decide) (by decide) (by decide) (by decide) (by decide) (by decide)]; exact hNo k hk rfl c_17 (Int32.not_le.mp c_149) A1 f1 hA1 (by omega))
          · skip
            refine V.aload_n d_Mo_about_152 rfl ?_
            refine V.iconst_ (nI 2) d_Mo_about_153 (by decide +kernel) ?_
            refine V.callV1 d_Mo_about_154 k_Mo_138_Mo_finds_MoV mo_o (Nat.le_of_ble_eq_true rfl) (by omega) (by omega) (c_Mo_finds (by omega) ?_)
            refine V.goto (tgt := 161) d_Mo_about_157 (by decide) ?_
            refine V.iret d_Mo_about_161 rfl (Nat.le_of_ble_eq_true rfl) (Nat.le_of_ble_eq_true rfl) ?_
            first
            | exact hOk k hk rfl c_17 (Int32.not_lt.mpr c_149) A1 f1 hA1 (by omega)
            | (rw [hA1 3 (by decide) (by decide) (by decide) (by decide) (by decide) (by decide)]; exact hNo k hk rfl c_17 (Int32.not_le.mp c_149) A1 f1 hA1 (by omega))
        · skip
          exact absurd c_51 (by omega)
      · skip
        intro A1 f1 hA1 hA12 hf1
        have eS : abB (tgv 0 W0 len0) (tgv 1 W1 len1) N D k x (u + 1) = (if ¬ abB (tgv 0 W0 len0) (tgv 1 W1 len1) N D k x u < 0 ∧ ¬ btc (nI u) < btc (abB (tgv 0 W0 len0) (tgv 1 W1 len1) N D k x u) then abB (tgv 0 W0 len0) (tgv 1 W1 len1) N D k x u else if (stb (dsD (tgv 0 W0 len0) (tgv 1 W1 len1) N k (abD D u 6)).1 N &&& x) = 0 then nI u else abB (tgv 0 W0 len0) (tgv 1 W1 len1) N D k x u) := rfl
        rw [eS] at hn
        refine V.iload d_Mo_about_47 rfl ?_
        refine V.bipush_ (nI 64) d_Mo_about_49 (by decide +kernel) ?_
        refine V.geN (tgt := 148) d_Mo_about_51 (by decide) (by omega) (by omega) (fun c_51 => ?_) (fun c_51 => ?_)
        · skip
          exact absurd c_51 (by omega)
        · skip
          refine V.iload_n d_Mo_about_54 rfl ?_
          refine V.if_lt (tgt := 73) d_Mo_about_55 (by decide) (fun c_55 => ?_) (fun c_55 => ?_)
          · skip
            refine V.iconst_ (nI 0) d_Mo_about_73 (by decide +kernel) ?_
            refine V.istore d_Mo_about_74 (by decide) ?_
            refine V.lc (ls' := [(0, .ref q), (1, .int x), (2, .int (nI k)), (3, .int (abB (tgv 0 W0 len0) (tgv 1 W1 len1) N D k x u)), (4, .int (nI u)), (5, .int (nI 0))]) rfl ?_
            refine up_to (G := fun p => V l M_Mo_about (d + 8) 0 0 76 [(0, .ref q), (1, .int x), (2, .int (nI k)), (3, .int (abB (tgv 0 W0 len0) (tgv 1 W1 len1) N D k x u)), (4, .int (nI u)), (5, .int (nI p))] [] n (mo q (abD D u p) A1 (uS S 18 (nI f1)) h0) 0 0 Q) (6) ?_ (fun p hp hn => ?_) 0 (by omega)
            · skip
              refine V.iload d_Mo_about_76 rfl ?_
              refine V.bipush_ (nI 6) d_Mo_about_78 (by decide +kernel) ?_
              refine V.geN (tgt := 125) d_Mo_about_80 (by decide) (by omega) (by omega) (fun c_80 => ?_) (fun c_80 => ?_)
              · skip
                refine V.aload_n d_Mo_about_125 rfl ?_
                refine V.iload_n d_Mo_about_126 rfl ?_
                refine V.callV1 d_Mo_about_127 k_Mo_237_Mo_standBehind_MoV mo_o (Nat.le_of_ble_eq_true rfl) (by omega) (by omega) (c_Mo_standBehind (fm := f1) hN (hD.up hN (fun j hj => abD_x (by omega) 6 (by omega))) (by omega) uS_s (by omega) (fun A2 hA2 => ?_))
                have hl2 := dsD_len (cv := tgv 0 W0 len0) (wv := tgv 1 W1 len1) hN (D := abD D u 6) k
                have hbk : cpN 106 (cpN 106 D (A 2)) (dsD (tgv 0 W0 len0) (tgv 1 W1 len1) N k (abD D u 6)).1 = D := bk (fun j hj => (dsD_x hN (by unfold kpt; omega) k).trans (abD_x (by omega) 6 (by omega)))
                rw [hA12, hbk, uS_uu]
                refine V.iload_n d_Mo_about_130 rfl ?_
                refine V.iand d_Mo_about_131 ?_
                refine V.if_ne (tgt := 140) d_Mo_about_132 (by decide) (fun c_132 => ?_) (fun c_132 => ?_)
                · skip
                  refine V.iload_n d_Mo_about_140 rfl ?_
                  refine V.istore_n d_Mo_about_141 (by decide) ?_
                  refine V.incN d_Mo_about_142 rfl (by decide) ?_
                  refine V.goto (tgt := 47) d_Mo_about_145 (by decide) ?_
                  first
                  | (rw [if_pos ⟨c_55, c_67⟩] at hn; exact V.lc rfl (hn A1 f1 hA1 hA12 (by omega)))
                  | (rw [if_neg (by first | exact fun z => z.1 c_55 | exact fun z => z.2 c_67)] at hn
                     first
                     | (rw [if_pos c_132] at hn; exact V.lc rfl (hn A2 _ (fun j h1 h2 h3 h4 h5 h6 => (hA2 j h2 h3 h4 h5 h6).trans (hA1 j h1 h2 h3 h4 h5 h6)) ((hA2 2 (by decide) (by decide) (by decide) (by decide) (by decide)).trans hA12) (by omega)))
                     | (rw [if_neg c_132] at hn; exact V.lc rfl (hn A2 _ (fun j h1 h2 h3 h4 h5 h6 => (hA2 j h2 h3 h4 h5 h6).trans (hA1 j h1 h2 h3 h4 h5 h6)) ((hA2 2 (by decide) (by decide) (by decide) (by decide) (by decide)).trans hA12) (by omega))))
                · skip
                  refine V.iload d_Mo_about_135 rfl ?_
                  refine V.goto (tgt := 141) d_Mo_about_137 (by decide) ?_
                  refine V.istore_n d_Mo_about_141 (by decide) ?_
                  refine V.incN d_Mo_about_142 rfl (by decide) ?_
                  refine V.goto (tgt := 47) d_Mo_about_145 (by decide) ?_
                  first
                  | (rw [if_pos ⟨c_55, c_67⟩] at hn; exact V.lc rfl (hn A1 f1 hA1 hA12 (by omega)))
                  | (rw [if_neg (by first | exact fun z => z.1 c_55 | exact fun z => z.2 c_67)] at hn
                     first
                     | (rw [if_pos c_132] at hn; exact V.lc rfl (hn A2 _ (fun j h1 h2 h3 h4 h5 h6 => (hA2 j h2 h3 h4 h5 h6).trans (hA1 j h1 h2 h3 h4 h5 h6)) ((hA2 2 (by decide) (by decide) (by decide) (by decide) (by decide)).trans hA12) (by omega)))
                     | (rw [if_neg c_132] at hn; exact V.lc rfl (hn A2 _ (fun j h1 h2 h3 h4 h5 h6 => (hA2 j h2 h3 h4 h5 h6).trans (hA1 j h1 h2 h3 h4 h5 h6)) ((hA2 2 (by decide) (by decide) (by decide) (by decide) (by decide)).trans hA12) (by omega))))
              · skip
                exact absurd c_80 (by omega)
            · skip
              refine V.iload d_Mo_about_76 rfl ?_
              refine V.bipush_ (nI 6) d_Mo_about_78 (by decide +kernel) ?_
              refine V.geN (tgt := 125) d_Mo_about_80 (by decide) (by omega) (by omega) (fun c_80 => ?_) (fun c_80 => ?_)
              · skip
                exact absurd c_80 (by omega)
              · skip
                refine V.aload_n d_Mo_about_83 rfl ?_
                refine V.get d_Mo_about_84 f_Mo_7_Mo mo_o rfl ?_
                refine V.bipush_ (nI 44) d_Mo_about_87 (by decide +kernel) ?_
                refine V.iload d_Mo_about_89 rfl ?_
                refine V.addN d_Mo_about_91 ?_
                refine V.iload d_Mo_about_92 rfl ?_
                refine V.iload d_Mo_about_94 rfl ?_
                refine V.ishr d_Mo_about_96 ?_
                refine V.iconst_ (nI 1) d_Mo_about_97 (by decide +kernel) ?_
                refine V.iand d_Mo_about_98 ?_
                refine V.iconst_ (nI 1) d_Mo_about_99 (by decide +kernel) ?_
                refine V.icmp_ne (tgt := 108) d_Mo_about_100 (by decide) (fun c_100 => ?_) (fun c_100 => ?_)
                · skip
                  refine V.aload_n d_Mo_about_108 rfl ?_
                  refine V.get d_Mo_about_109 f_Mo_7_Mo mo_o rfl ?_
                  refine V.bipush_ (nI 44) d_Mo_about_112 (by decide +kernel) ?_
                  refine V.iload d_Mo_about_114 rfl ?_
                  refine V.addN d_Mo_about_116 ?_
                  refine V.mldd d_Mo_about_117 (by omega) ?_
                  refine V.mstd d_Mo_about_118 (by omega) ?_
                  refine V.incN d_Mo_about_119 rfl (by decide) ?_
                  refine V.goto (tgt := 76) d_Mo_about_122 (by decide) ?_
                  have eP : abD D u (p + 1) = upd (abD D u p) (44 + p) (if ((nI u >>> (nI p &&& 31)) &&& nI 1) = nI 1 then nI 9 else abD D u p (44 + p)) := rfl
                  rw [eP] at hn
                  first
                  | (rw [if_pos c_100] at hn; exact V.lc rfl hn)
                  | (rw [if_neg c_100] at hn; exact V.lc rfl hn)
                · skip
                  refine V.bipush_ (nI 9) d_Mo_about_103 (by decide +kernel) ?_
                  refine V.goto (tgt := 118) d_Mo_about_105 (by decide) ?_
                  refine V.mstd d_Mo_about_118 (by omega) ?_
                  refine V.incN d_Mo_about_119 rfl (by decide) ?_
                  refine V.goto (tgt := 76) d_Mo_about_122 (by decide) ?_
                  have eP : abD D u (p + 1) = upd (abD D u p) (44 + p) (if ((nI u >>> (nI p &&& 31)) &&& nI 1) = nI 1 then nI 9 else abD D u p (44 + p)) := rfl
                  rw [eP] at hn
                  first
                  | (rw [if_pos c_100] at hn; exact V.lc rfl hn)
                  | (rw [if_neg c_100] at hn; exact V.lc rfl hn)
          · skip
            refine V.iload d_Mo_about_58 rfl ?_
            refine V.callS1 d_Mo_about_60 k_Mo_242_Mo_bitsS (Nat.le_of_ble_eq_true rfl) (by omega) (by omega) (c_Mo_bits ?_)
            refine V.iload_n d_Mo_about_63 rfl ?_
            refine V.callS1 d_Mo_about_64 k_Mo_242_Mo_bitsS (Nat.le_of_ble_eq_true rfl) (by omega) (by omega) (c_Mo_bits ?_)
            refine V.icmp_lt (tgt := 73) d_Mo_about_67 (by decide) (fun c_67 => ?_) (fun c_67 => ?_)
            · skip
              refine V.iconst_ (nI 0) d_Mo_about_73 (by decide +kernel) ?_
              refine V.istore d_Mo_about_74 (by decide) ?_
              refine V.lc (ls' := [(0, .ref q), (1, .int x), (2, .int (nI k)), (3, .int (abB (tgv 0 W0 len0) (tgv 1 W1 len1) N D k x u)), (4, .int (nI u)), (5, .int (nI 0))]) rfl ?_
              refine up_to (G := fun p => V l M_Mo_about (d + 8) 0 0 76 [(0, .ref q), (1, .int x), (2, .int (nI k)), (3, .int (abB (tgv 0 W0 len0) (tgv 1 W1 len1) N D k x u)), (4, .int (nI u)), (5, .int (nI p))] [] n (mo q (abD D u p) A1 (uS S 18 (nI f1)) h0) 0 0 Q) (6) ?_ (fun p hp hn => ?_) 0 (by omega)
              · skip
                refine V.iload d_Mo_about_76 rfl ?_
                refine V.bipush_ (nI 6) d_Mo_about_78 (by decide +kernel) ?_
                refine V.geN (tgt := 125) d_Mo_about_80 (by decide) (by omega) (by omega) (fun c_80 => ?_) (fun c_80 => ?_)
                · skip
                  refine V.aload_n d_Mo_about_125 rfl ?_
                  refine V.iload_n d_Mo_about_126 rfl ?_
                  refine V.callV1 d_Mo_about_127 k_Mo_237_Mo_standBehind_MoV mo_o (Nat.le_of_ble_eq_true rfl) (by omega) (by omega) (c_Mo_standBehind (fm := f1) hN (hD.up hN (fun j hj => abD_x (by omega) 6 (by omega))) (by omega) uS_s (by omega) (fun A2 hA2 => ?_))
                  have hl2 := dsD_len (cv := tgv 0 W0 len0) (wv := tgv 1 W1 len1) hN (D := abD D u 6) k
                  have hbk : cpN 106 (cpN 106 D (A 2)) (dsD (tgv 0 W0 len0) (tgv 1 W1 len1) N k (abD D u 6)).1 = D := bk (fun j hj => (dsD_x hN (by unfold kpt; omega) k).trans (abD_x (by omega) 6 (by omega)))
                  rw [hA12, hbk, uS_uu]
                  refine V.iload_n d_Mo_about_130 rfl ?_
                  refine V.iand d_Mo_about_131 ?_
                  refine V.if_ne (tgt := 140) d_Mo_about_132 (by decide) (fun c_132 => ?_) (fun c_132 => ?_)
                  · skip
                    refine V.iload_n d_Mo_about_140 rfl ?_
                    refine V.istore_n d_Mo_about_141 (by decide) ?_
                    refine V.incN d_Mo_about_142 rfl (by decide) ?_
                    refine V.goto (tgt := 47) d_Mo_about_145 (by decide) ?_
                    first
                    | (rw [if_pos ⟨c_55, c_67⟩] at hn; exact V.lc rfl (hn A1 f1 hA1 hA12 (by omega)))
                    | (rw [if_neg (by first | exact fun z => z.1 c_55 | exact fun z => z.2 c_67)] at hn
                       first
                       | (rw [if_pos c_132] at hn; exact V.lc rfl (hn A2 _ (fun j h1 h2 h3 h4 h5 h6 => (hA2 j h2 h3 h4 h5 h6).trans (hA1 j h1 h2 h3 h4 h5 h6)) ((hA2 2 (by decide) (by decide) (by decide) (by decide) (by decide)).trans hA12) (by omega)))
                       | (rw [if_neg c_132] at hn; exact V.lc rfl (hn A2 _ (fun j h1 h2 h3 h4 h5 h6 => (hA2 j h2 h3 h4 h5 h6).trans (hA1 j h1 h2 h3 h4 h5 h6)) ((hA2 2 (by decide) (by decide) (by decide) (by decide) (by decide)).trans hA12) (by omega))))
                  · skip
                    refine V.iload d_Mo_about_135 rfl ?_
                    refine V.goto (tgt := 141) d_Mo_about_137 (by decide) ?_
                    refine V.istore_n d_Mo_about_141 (by decide) ?_
                    refine V.incN d_Mo_about_142 rfl (by decide) ?_
                    refine V.goto (tgt := 47) d_Mo_about_145 (by decide) ?_
                    first
                    | (rw [if_pos ⟨c_55, c_67⟩] at hn; exact V.lc rfl (hn A1 f1 hA1 hA12 (by omega)))
                    | (rw [if_neg (by first | exact fun z => z.1 c_55 | exact fun z => z.2 c_67)] at hn
                       first
                       | (rw [if_pos c_132] at hn; exact V.lc rfl (hn A2 _ (fun j h1 h2 h3 h4 h5 h6 => (hA2 j h2 h3 h4 h5 h6).trans (hA1 j h1 h2 h3 h4 h5 h6)) ((hA2 2 (by decide) (by decide) (by decide) (by decide) (by decide)).trans hA12) (by omega)))
                       | (rw [if_neg c_132] at hn; exact V.lc rfl (hn A2 _ (fun j h1 h2 h3 h4 h5 h6 => (hA2 j h2 h3 h4 h5 h6).trans (hA1 j h1 h2 h3 h4 h5 h6)) ((hA2 2 (by decide) (by decide) (by decide) (by decide) (by decide)).trans hA12) (by omega))))
                · skip
                  exact absurd c_80 (by omega)
              · skip
                refine V.iload d_Mo_about_76 rfl ?_
                refine V.bipush_ (nI 6) d_Mo_about_78 (by decide +kernel) ?_
                refine V.geN (tgt := 125) d_Mo_about_80 (by decide) (by omega) (by omega) (fun c_80 => ?_) (fun c_80 => ?_)
                · skip
                  exact absurd c_80 (by omega)
                · skip
                  refine V.aload_n d_Mo_about_83 rfl ?_
                  refine V.get d_Mo_about_84 f_Mo_7_Mo mo_o rfl ?_
                  refine V.bipush_ (nI 44) d_Mo_about_87 (by decide +kernel) ?_
                  refine V.iload d_Mo_about_89 rfl ?_
                  refine V.addN d_Mo_about_91 ?_
                  refine V.iload d_Mo_about_92 rfl ?_
                  refine V.iload d_Mo_about_94 rfl ?_
                  refine V.ishr d_Mo_about_96 ?_
                  refine V.iconst_ (nI 1) d_Mo_about_97 (by decide +kernel) ?_
                  refine V.iand d_Mo_about_98 ?_
                  refine V.iconst_ (nI 1) d_Mo_about_99 (by decide +kernel) ?_
                  refine V.icmp_ne (tgt := 108) d_Mo_about_100 (by decide) (fun c_100 => ?_) (fun c_100 => ?_)
                  · skip
                    refine V.aload_n d_Mo_about_108 rfl ?_
                    refine V.get d_Mo_about_109 f_Mo_7_Mo mo_o rfl ?_
                    refine V.bipush_ (nI 44) d_Mo_about_112 (by decide +kernel) ?_
                    refine V.iload d_Mo_about_114 rfl ?_
                    refine V.addN d_Mo_about_116 ?_
                    refine V.mldd d_Mo_about_117 (by omega) ?_
                    refine V.mstd d_Mo_about_118 (by omega) ?_
                    refine V.incN d_Mo_about_119 rfl (by decide) ?_
                    refine V.goto (tgt := 76) d_Mo_about_122 (by decide) ?_
                    have eP : abD D u (p + 1) = upd (abD D u p) (44 + p) (if ((nI u >>> (nI p &&& 31)) &&& nI 1) = nI 1 then nI 9 else abD D u p (44 + p)) := rfl
                    rw [eP] at hn
                    first
                    | (rw [if_pos c_100] at hn; exact V.lc rfl hn)
                    | (rw [if_neg c_100] at hn; exact V.lc rfl hn)
                  · skip
                    refine V.bipush_ (nI 9) d_Mo_about_103 (by decide +kernel) ?_
                    refine V.goto (tgt := 118) d_Mo_about_105 (by decide) ?_
                    refine V.mstd d_Mo_about_118 (by omega) ?_
                    refine V.incN d_Mo_about_119 rfl (by decide) ?_
                    refine V.goto (tgt := 76) d_Mo_about_122 (by decide) ?_
                    have eP : abD D u (p + 1) = upd (abD D u p) (44 + p) (if ((nI u >>> (nI p &&& 31)) &&& nI 1) = nI 1 then nI 9 else abD D u p (44 + p)) := rfl
                    rw [eP] at hn
                    first
                    | (rw [if_pos c_100] at hn; exact V.lc rfl hn)
                    | (rw [if_neg c_100] at hn; exact V.lc rfl hn)
            · skip
              refine V.goto (tgt := 142) d_Mo_about_70 (by decide) ?_
              refine V.incN d_Mo_about_142 rfl (by decide) ?_
              refine V.goto (tgt := 47) d_Mo_about_145 (by decide) ?_
              first
              | (rw [if_pos ⟨c_55, c_67⟩] at hn; exact V.lc rfl (hn A1 f1 hA1 hA12 (by omega)))
              | (rw [if_neg (by first | exact fun z => z.1 c_55 | exact fun z => z.2 c_67)] at hn
                 first
                 | (rw [if_pos c_132] at hn; exact V.lc rfl (hn A2 _ (fun j h1 h2 h3 h4 h5 h6 => (hA2 j h2 h3 h4 h5 h6).trans (hA1 j h1 h2 h3 h4 h5 h6)) ((hA2 2 (by decide) (by decide) (by decide) (by decide) (by decide)).trans hA12) (by omega)))
                 | (rw [if_neg c_132] at hn; exact V.lc rfl (hn A2 _ (fun j h1 h2 h3 h4 h5 h6 => (hA2 j h2 h3 h4 h5 h6).trans (hA1 j h1 h2 h3 h4 h5 h6)) ((hA2 2 (by decide) (by decide) (by decide) (by decide) (by decide)).trans hA12) (by omega))))
    · skip
      refine V.aload_n d_Mo_about_32 rfl ?_
      refine V.iconst_ (nI 1) d_Mo_about_33 (by decide +kernel) ?_
      refine V.callV1 d_Mo_about_34 k_Mo_138_Mo_finds_MoV mo_o (Nat.le_of_ble_eq_true rfl) (by omega) (by omega) (c_Mo_finds (by omega) ?_)
      refine V.iret d_Mo_about_37 rfl (Nat.le_of_ble_eq_true rfl) (Nat.le_of_ble_eq_true rfl) ?_
      exact hE (by simp only [c_17, c_29, Bool.and_false, Bool.false_and, Bool.and_true, Bool.true_and])
abbrev M_Mo_crash : MD := (⟨"FelledByNamesModel", "crash", "(I)I"⟩, prog_14_method_63_code, 2, (some .int), fun _ => True)
theorem d_Mo_crash_0 : decode prog_14_method_63_code 0 = .ok (.aload_n 0, 1) := by decide +kernel
theorem d_Mo_crash_1 : decode prog_14_method_63_code 1 = .ok (.iload_n 1, 1) := by decide +kernel
theorem d_Mo_crash_2 : decode prog_14_method_63_code 2 = .ok (.invokevirtual 207, 3) := by decide +kernel
theorem d_Mo_crash_5 : decode prog_14_method_63_code 5 = .ok (.ifCond .ne 9, 3) := by decide +kernel
theorem d_Mo_crash_14 : decode prog_14_method_63_code 14 = .ok (.aload_n 0, 1) := by decide +kernel
theorem d_Mo_crash_15 : decode prog_14_method_63_code 15 = .ok (.iload_n 1, 1) := by decide +kernel
theorem d_Mo_crash_16 : decode prog_14_method_63_code 16 = .ok (.bipush 6, 2) := by decide +kernel
theorem d_Mo_crash_18 : decode prog_14_method_63_code 18 = .ok (.invokevirtual 158, 3) := by decide +kernel
theorem d_Mo_crash_21 : decode prog_14_method_63_code 21 = .ok (.ifCond .ne 5, 3) := by decide +kernel
theorem d_Mo_crash_26 : decode prog_14_method_63_code 26 = .ok (.aload_n 0, 1) := by decide +kernel
theorem d_Mo_crash_27 : decode prog_14_method_63_code 27 = .ok (.invokevirtual 228, 3) := by decide +kernel
theorem d_Mo_crash_30 : decode prog_14_method_63_code 30 = .ok (.aload_n 0, 1) := by decide +kernel
theorem d_Mo_crash_31 : decode prog_14_method_63_code 31 = .ok (.iconst 0, 1) := by decide +kernel
theorem d_Mo_crash_32 : decode prog_14_method_63_code 32 = .ok (.putfield 168, 3) := by decide +kernel
theorem d_Mo_crash_35 : decode prog_14_method_63_code 35 = .ok (.aload_n 0, 1) := by decide +kernel
theorem d_Mo_crash_36 : decode prog_14_method_63_code 36 = .ok (.iload_n 1, 1) := by decide +kernel
theorem d_Mo_crash_37 : decode prog_14_method_63_code 37 = .ok (.invokevirtual 183, 3) := by decide +kernel
theorem d_Mo_crash_40 : decode prog_14_method_63_code 40 = .ok (.aload_n 0, 1) := by decide +kernel
theorem d_Mo_crash_41 : decode prog_14_method_63_code 41 = .ok (.invokevirtual 231, 3) := by decide +kernel
theorem d_Mo_crash_44 : decode prog_14_method_63_code 44 = .ok (.aload_n 0, 1) := by decide +kernel
theorem d_Mo_crash_45 : decode prog_14_method_63_code 45 = .ok (.getfield 168, 3) := by decide +kernel
theorem d_Mo_crash_48 : decode prog_14_method_63_code 48 = .ok (.ireturn, 1) := by decide +kernel
theorem d_Mo_crash_24 : decode prog_14_method_63_code 24 = .ok (.iconst 0, 1) := by decide +kernel
theorem d_Mo_crash_25 : decode prog_14_method_63_code 25 = .ok (.ireturn, 1) := by decide +kernel
theorem d_Mo_crash_8 : decode prog_14_method_63_code 8 = .ok (.aload_n 0, 1) := by decide +kernel
theorem d_Mo_crash_9 : decode prog_14_method_63_code 9 = .ok (.iconst 1, 1) := by decide +kernel
theorem d_Mo_crash_10 : decode prog_14_method_63_code 10 = .ok (.invokevirtual 138, 3) := by decide +kernel
theorem d_Mo_crash_13 : decode prog_14_method_63_code 13 = .ok (.ireturn, 1) := by decide +kernel
set_option maxRecDepth 100000 in
theorem c_Mo_crash {x : Int32} {N fm len0 len1 : Nat} {W0 W1 : Nat → Nat} {l : Launch} {d q n : Nat} {D : Nat → Int32} {A : Nat → Nat → Int32} {S : Nat → Int32} {h0 : HP} {Q : QT} (hN : N ≤ 8) (hD : DW D N W0 len0 W1 len1) (hf : fm < 2 ^ 25) (ef : S 18 = nI fm) (hE : wi x (nI 0) (nI N - nI 1) = false → Q (some (.int (-1000000000 - nI 1))) n (mo q D (uA A 3 (upd (A 3) 1 (A 3 1 + nI 1))) S h0)) (h0k : ∀ i, i < N → x = nI i → D (50 + 7 * i + 6) = 0 → Q (some (.int (nI 0))) n (mo q D A S h0)) (hOk : ∀ i, i < N → x = nI i → D (50 + 7 * i + 6) = nI 1 → ∀ (A1 : Nat → Nat → Int32) (f1 : Nat), (∀ j, j ≠ 2 → j ≠ 4 → j ≠ 6 → j ≠ 7 → j ≠ 8 → j ≠ 9 → A1 j = A j) → f1 ≤ 8 → Q (some (.int (nI (fl (tgv 1 W1 len1) N 7 i (D, [])).2.length))) n (mo q D A1 (uS S 18 (nI f1)) h0)) : Ct l M_Mo_crash (d + 6) 0 0 [.ref q, .int x] n (mo q D A S h0) Q := by
  refine Ct.of (fun _ => trivial) (by decide) (Nat.le_of_ble_eq_true rfl) ?_
  refine V.aload_n d_Mo_crash_0 rfl ?_
  refine V.iload_n d_Mo_crash_1 rfl ?_
  refine V.callV1 d_Mo_crash_2 k_Mo_207_Mo_isTree_MoV mo_o (Nat.le_of_ble_eq_true rfl) (by omega) (by omega) (c_Mo_isTree ?_)
  rw [hD.1]
  refine V.ifneB (tgt := 14) d_Mo_crash_5 (by decide) (fun c_5 => ?_) (fun c_5 => ?_)
  · skip
    obtain ⟨i, hi, rfl⟩ := tre_nat hN c_5
    refine V.aload_n d_Mo_crash_14 rfl ?_
    refine V.iload_n d_Mo_crash_15 rfl ?_
    refine V.bipush_ (nI 6) d_Mo_crash_16 (by decide +kernel) ?_
    refine V.callV2 d_Mo_crash_18 k_Mo_158_Mo_of_MoV mo_o (Nat.le_of_ble_eq_true rfl) (by omega) (by omega) (c_Mo_of (by omega) ?_)
    refine V.if_ne (tgt := 26) d_Mo_crash_21 (by decide) (fun c_21 => ?_) (fun c_21 => ?_)
    · skip
      have hs1 : D (50 + 7 * i + 6) = nI 1 := by
        obtain ⟨e, he, ee⟩ := hD.2.2.2.2 i (by omega)
        rcases (show e = 0 ∨ e = 1 by omega) with rfl | rfl
        · exact absurd ee c_21
        · exact ee
      refine V.aload_n d_Mo_crash_26 rfl ?_
      refine V.callV0 d_Mo_crash_27 k_Mo_228_Mo_keepAside_MoV mo_o (Nat.le_of_ble_eq_true rfl) (by omega) (by omega) (c_Mo_keepAside ?_)
      refine V.aload_n d_Mo_crash_30 rfl ?_
      refine V.iconst_ (nI 0) d_Mo_crash_31 (by decide +kernel) ?_
      refine V.mput d_Mo_crash_32 f_Mo_168_Mo fp_Mo_18 rfl (by decide) ?_
      refine V.aload_n d_Mo_crash_35 rfl ?_
      refine V.iload_n d_Mo_crash_36 rfl ?_
      refine V.callV1 d_Mo_crash_37 k_Mo_183_Mo_falls_MoV mo_o (Nat.le_of_ble_eq_true rfl) (by omega) (by omega) (c_Mo_falls (fm := 0) hi hN hD.1 hs1 hD.2.2.2.1 (by decide) uS_s (fun A2 hA2 hA92 => ?_))
      refine V.aload_n d_Mo_crash_40 rfl ?_
      refine V.callV0 d_Mo_crash_41 k_Mo_231_Mo_putBack_MoV mo_o (Nat.le_of_ble_eq_true rfl) (by omega) (by omega) (c_Mo_putBack ?_)
      have hbk : cpN 106 (cpN 106 D (A 2)) (fl (tgv 1 W1 len1) N 7 i (D, [])).1 = D := bk (fun j hj => fl_keep8 hN hj _ _ _ hi)
      rw [hA2 2 (by decide) (by decide) (by decide) (by decide) (by decide), uA_s, hbk, uS_uu]
      refine V.aload_n d_Mo_crash_44 rfl ?_
      refine V.get d_Mo_crash_45 f_Mo_168_Mo mo_o rfl ?_
      refine V.top (show _ = nI (fl (tgv 1 W1 len1) N 7 i (D, [])).2.length by rw [uS_s, Nat.zero_add]) ?_
      refine V.iret d_Mo_crash_48 rfl (Nat.le_of_ble_eq_true rfl) (Nat.le_of_ble_eq_true rfl) ?_
      rw [Nat.zero_add]
      exact hOk i hi rfl hs1 A2 _ (fun j h1 h2 h3 h4 h5 h6 => (hA2 j h2 h3 h4 h5 h6).trans (uA_n h1)) (by have h1 := fl_cnt (wv := tgv 1 W1 len1) 7 i (D, []) hi hs1; have h2 := cst_le (D := D) N; have h3 : (fl (tgv 1 W1 len1) N 7 i (D, [])).2.length + cst (fl (tgv 1 W1 len1) N 7 i (D, [])).1 N = 0 + cst D N := h1; omega)
    · skip
      refine V.iconst_ (nI 0) d_Mo_crash_24 (by decide +kernel) ?_
      refine V.iret d_Mo_crash_25 rfl (Nat.le_of_ble_eq_true rfl) (Nat.le_of_ble_eq_true rfl) ?_
      exact h0k i hi rfl c_21
  · skip
    refine V.aload_n d_Mo_crash_8 rfl ?_
    refine V.iconst_ (nI 1) d_Mo_crash_9 (by decide +kernel) ?_
    refine V.callV1 d_Mo_crash_10 k_Mo_138_Mo_finds_MoV mo_o (Nat.le_of_ble_eq_true rfl) (by omega) (by omega) (c_Mo_finds (by omega) ?_)
    refine V.iret d_Mo_crash_13 rfl (Nat.le_of_ble_eq_true rfl) (Nat.le_of_ble_eq_true rfl) ?_
    exact hE c_5
end
section
def kpD (D : Nat → Int32) (p : Nat) : Nat → Nat → Int32 := fun o => itr (fun o E => if o = p then E else upd (upd E (8 + 6 * p + o) (nI 99)) (8 + 6 * o + p) (nI 99)) o D
theorem kpD_x {D : Nat → Int32} {p j : Nat} (hp : p < 6) (hj : j < 8 ∨ 44 ≤ j) : ∀ o, o ≤ 6 → kpD D p o j = D j := by
  intro o
  induction o with
  | zero => intro _; rfl
  | succ o ih =>
    intro ho
    show (if o = p then kpD D p o else upd (upd (kpD D p o) (8 + 6 * p + o) (nI 99)) (8 + 6 * o + p) (nI 99)) j = D j
    split
    · exact ih (by omega)
    · rw [pk_un (by omega), pk_un (by omega)]; exact ih (by omega)
def kpB (cv wv : Int32 → Int32 → Int32 → Int32) (N : Nat) (D : Nat → Int32) (k : Nat) : Nat → Int32 × Int32 := fun p => itr (fun p bm => if bm.2 < btc (stb (dsD cv wv N k (kpD D p 6)).1 N) then (nI p, btc (stb (dsD cv wv N k (kpD D p 6)).1 N)) else bm) p (nI 0, -1)
abbrev M_Mo_keeper : MD := (⟨"FelledByNamesModel", "keeper", "(II)I"⟩, prog_14_method_64_code, 7, (some .int), fun _ => True)
theorem d_Mo_keeper_0 : decode prog_14_method_64_code 0 = .ok (.iload_n 1, 1) := by decide +kernel
theorem d_Mo_keeper_1 : decode prog_14_method_64_code 1 = .ok (.i2l, 1) := by decide +kernel
theorem d_Mo_keeper_2 : decode prog_14_method_64_code 2 = .ok (.lconst 0, 1) := by decide +kernel
theorem d_Mo_keeper_3 : decode prog_14_method_64_code 3 = .ok (.ldc2_w 240, 3) := by decide +kernel
theorem d_Mo_keeper_6 : decode prog_14_method_64_code 6 = .ok (.invokestatic 56, 3) := by decide +kernel
theorem d_Mo_keeper_9 : decode prog_14_method_64_code 9 = .ok (.ifCond .eq 13, 3) := by decide +kernel
theorem d_Mo_keeper_22 : decode prog_14_method_64_code 22 = .ok (.aload_n 0, 1) := by decide +kernel
theorem d_Mo_keeper_23 : decode prog_14_method_64_code 23 = .ok (.iconst 1, 1) := by decide +kernel
theorem d_Mo_keeper_24 : decode prog_14_method_64_code 24 = .ok (.invokevirtual 138, 3) := by decide +kernel
theorem d_Mo_keeper_27 : decode prog_14_method_64_code 27 = .ok (.ireturn, 1) := by decide +kernel
theorem d_Mo_keeper_12 : decode prog_14_method_64_code 12 = .ok (.iload_n 2, 1) := by decide +kernel
theorem d_Mo_keeper_13 : decode prog_14_method_64_code 13 = .ok (.i2l, 1) := by decide +kernel
theorem d_Mo_keeper_14 : decode prog_14_method_64_code 14 = .ok (.lconst 0, 1) := by decide +kernel
theorem d_Mo_keeper_15 : decode prog_14_method_64_code 15 = .ok (.lconst 1, 1) := by decide +kernel
theorem d_Mo_keeper_16 : decode prog_14_method_64_code 16 = .ok (.invokestatic 56, 3) := by decide +kernel
theorem d_Mo_keeper_19 : decode prog_14_method_64_code 19 = .ok (.ifCond .ne 9, 3) := by decide +kernel
theorem d_Mo_keeper_28 : decode prog_14_method_64_code 28 = .ok (.aload_n 0, 1) := by decide +kernel
theorem d_Mo_keeper_29 : decode prog_14_method_64_code 29 = .ok (.invokevirtual 228, 3) := by decide +kernel
theorem d_Mo_keeper_32 : decode prog_14_method_64_code 32 = .ok (.iconst 0, 1) := by decide +kernel
theorem d_Mo_keeper_33 : decode prog_14_method_64_code 33 = .ok (.istore_n 3, 1) := by decide +kernel
theorem d_Mo_keeper_34 : decode prog_14_method_64_code 34 = .ok (.iconst (-1), 1) := by decide +kernel
theorem d_Mo_keeper_35 : decode prog_14_method_64_code 35 = .ok (.istore 4, 2) := by decide +kernel
theorem d_Mo_keeper_37 : decode prog_14_method_64_code 37 = .ok (.iconst 0, 1) := by decide +kernel
theorem d_Mo_keeper_38 : decode prog_14_method_64_code 38 = .ok (.istore 5, 2) := by decide +kernel
theorem d_Mo_keeper_40 : decode prog_14_method_64_code 40 = .ok (.iload 5, 2) := by decide +kernel
theorem d_Mo_keeper_42 : decode prog_14_method_64_code 42 = .ok (.bipush 6, 2) := by decide +kernel
theorem d_Mo_keeper_44 : decode prog_14_method_64_code 44 = .ok (.if_icmp .ge 92, 3) := by decide +kernel
theorem d_Mo_keeper_136 : decode prog_14_method_64_code 136 = .ok (.iload_n 2, 1) := by decide +kernel
theorem d_Mo_keeper_137 : decode prog_14_method_64_code 137 = .ok (.ifCond .ne 7, 3) := by decide +kernel
theorem d_Mo_keeper_144 : decode prog_14_method_64_code 144 = .ok (.iload 4, 2) := by decide +kernel
theorem d_Mo_keeper_146 : decode prog_14_method_64_code 146 = .ok (.ireturn, 1) := by decide +kernel
theorem d_Mo_keeper_140 : decode prog_14_method_64_code 140 = .ok (.iload_n 3, 1) := by decide +kernel
theorem d_Mo_keeper_141 : decode prog_14_method_64_code 141 = .ok (.goto 5, 3) := by decide +kernel
theorem d_Mo_keeper_47 : decode prog_14_method_64_code 47 = .ok (.iconst 0, 1) := by decide +kernel
theorem d_Mo_keeper_48 : decode prog_14_method_64_code 48 = .ok (.istore 6, 2) := by decide +kernel
theorem d_Mo_keeper_50 : decode prog_14_method_64_code 50 = .ok (.iload 6, 2) := by decide +kernel
theorem d_Mo_keeper_52 : decode prog_14_method_64_code 52 = .ok (.bipush 6, 2) := by decide +kernel
theorem d_Mo_keeper_54 : decode prog_14_method_64_code 54 = .ok (.if_icmp .ge 52, 3) := by decide +kernel
theorem d_Mo_keeper_106 : decode prog_14_method_64_code 106 = .ok (.aload_n 0, 1) := by decide +kernel
theorem d_Mo_keeper_107 : decode prog_14_method_64_code 107 = .ok (.iload_n 1, 1) := by decide +kernel
theorem d_Mo_keeper_108 : decode prog_14_method_64_code 108 = .ok (.invokevirtual 237, 3) := by decide +kernel
theorem d_Mo_keeper_111 : decode prog_14_method_64_code 111 = .ok (.invokestatic 242, 3) := by decide +kernel
theorem d_Mo_keeper_114 : decode prog_14_method_64_code 114 = .ok (.istore 6, 2) := by decide +kernel
theorem d_Mo_keeper_116 : decode prog_14_method_64_code 116 = .ok (.iload 6, 2) := by decide +kernel
theorem d_Mo_keeper_118 : decode prog_14_method_64_code 118 = .ok (.iload 4, 2) := by decide +kernel
theorem d_Mo_keeper_120 : decode prog_14_method_64_code 120 = .ok (.if_icmp .le 10, 3) := by decide +kernel
theorem d_Mo_keeper_130 : decode prog_14_method_64_code 130 = .ok (.iinc 5 1, 3) := by decide +kernel
theorem d_Mo_keeper_133 : decode prog_14_method_64_code 133 = .ok (.goto (-93), 3) := by decide +kernel
theorem d_Mo_keeper_123 : decode prog_14_method_64_code 123 = .ok (.iload 5, 2) := by decide +kernel
theorem d_Mo_keeper_125 : decode prog_14_method_64_code 125 = .ok (.istore_n 3, 1) := by decide +kernel
theorem d_Mo_keeper_126 : decode prog_14_method_64_code 126 = .ok (.iload 6, 2) := by decide +kernel
theorem d_Mo_keeper_128 : decode prog_14_method_64_code 128 = .ok (.istore 4, 2) := by decide +kernel
theorem d_Mo_keeper_57 : decode prog_14_method_64_code 57 = .ok (.iload 6, 2) := by decide +kernel
theorem d_Mo_keeper_59 : decode prog_14_method_64_code 59 = .ok (.iload 5, 2) := by decide +kernel
theorem d_Mo_keeper_61 : decode prog_14_method_64_code 61 = .ok (.if_icmp .eq 39, 3) := by decide +kernel
theorem d_Mo_keeper_100 : decode prog_14_method_64_code 100 = .ok (.iinc 6 1, 3) := by decide +kernel
theorem d_Mo_keeper_103 : decode prog_14_method_64_code 103 = .ok (.goto (-53), 3) := by decide +kernel
theorem d_Mo_keeper_64 : decode prog_14_method_64_code 64 = .ok (.aload_n 0, 1) := by decide +kernel
theorem d_Mo_keeper_65 : decode prog_14_method_64_code 65 = .ok (.getfield 7, 3) := by decide +kernel
theorem d_Mo_keeper_68 : decode prog_14_method_64_code 68 = .ok (.bipush 8, 2) := by decide +kernel
theorem d_Mo_keeper_70 : decode prog_14_method_64_code 70 = .ok (.bipush 6, 2) := by decide +kernel
theorem d_Mo_keeper_72 : decode prog_14_method_64_code 72 = .ok (.iload 5, 2) := by decide +kernel
theorem d_Mo_keeper_74 : decode prog_14_method_64_code 74 = .ok (.imul, 1) := by decide +kernel
theorem d_Mo_keeper_75 : decode prog_14_method_64_code 75 = .ok (.iadd, 1) := by decide +kernel
theorem d_Mo_keeper_76 : decode prog_14_method_64_code 76 = .ok (.iload 6, 2) := by decide +kernel
theorem d_Mo_keeper_78 : decode prog_14_method_64_code 78 = .ok (.iadd, 1) := by decide +kernel
theorem d_Mo_keeper_79 : decode prog_14_method_64_code 79 = .ok (.bipush 99, 2) := by decide +kernel
theorem d_Mo_keeper_81 : decode prog_14_method_64_code 81 = .ok (.iastore, 1) := by decide +kernel
theorem d_Mo_keeper_82 : decode prog_14_method_64_code 82 = .ok (.aload_n 0, 1) := by decide +kernel
theorem d_Mo_keeper_83 : decode prog_14_method_64_code 83 = .ok (.getfield 7, 3) := by decide +kernel
theorem d_Mo_keeper_86 : decode prog_14_method_64_code 86 = .ok (.bipush 8, 2) := by decide +kernel
theorem d_Mo_keeper_88 : decode prog_14_method_64_code 88 = .ok (.bipush 6, 2) := by decide +kernel
theorem d_Mo_keeper_90 : decode prog_14_method_64_code 90 = .ok (.iload 6, 2) := by decide +kernel
theorem d_Mo_keeper_92 : decode prog_14_method_64_code 92 = .ok (.imul, 1) := by decide +kernel
theorem d_Mo_keeper_93 : decode prog_14_method_64_code 93 = .ok (.iadd, 1) := by decide +kernel
theorem d_Mo_keeper_94 : decode prog_14_method_64_code 94 = .ok (.iload 5, 2) := by decide +kernel
theorem d_Mo_keeper_96 : decode prog_14_method_64_code 96 = .ok (.iadd, 1) := by decide +kernel
theorem d_Mo_keeper_97 : decode prog_14_method_64_code 97 = .ok (.bipush 99, 2) := by decide +kernel
theorem d_Mo_keeper_99 : decode prog_14_method_64_code 99 = .ok (.iastore, 1) := by decide +kernel
set_option maxRecDepth 100000 in
theorem c_Mo_keeper {x y : Int32} {N fm len0 len1 : Nat} {W0 W1 : Nat → Nat} {l : Launch} {d q n : Nat} {D : Nat → Int32} {A : Nat → Nat → Int32} {S : Nat → Int32} {h0 : HP} {Q : QT} (hN : N ≤ 8) (hD : DW D N W0 len0 W1 len1) (hf : fm < 2 ^ 25) (ef : S 18 = nI fm) (hE : (wi x (nI 0) (nI 30) && wi y (nI 0) (nI 1)) = false → Q (some (.int (-1000000000 - nI 1))) n (mo q D (uA A 3 (upd (A 3) 1 (A 3 1 + nI 1))) S h0)) (hOk : ∀ k w, k ≤ 30 → w ≤ 1 → x = nI k → y = nI w → ∀ (A1 : Nat → Nat → Int32) (f1 : Nat), (∀ j, j ≠ 2 → j ≠ 4 → j ≠ 6 → j ≠ 7 → j ≠ 8 → j ≠ 9 → A1 j = A j) → f1 ≤ fm + 40000 →  Q (some (.int (if w = 0 then (kpB (tgv 0 W0 len0) (tgv 1 W1 len1) N D k 6).1 else (kpB (tgv 0 W0 len0) (tgv 1 W1 len1) N D k 6).2))) n (mo q D A1 (uS S 18 (nI f1)) h0)) : Ct l M_Mo_keeper (d + 8) 0 0 [.ref q, .int x, .int y] n (mo q D A S h0) Q := by
  refine Ct.of (fun _ => trivial) (by decide) (Nat.le_of_ble_eq_true rfl) ?_
  refine V.iload_n d_Mo_keeper_0 rfl ?_
  refine V.i2l d_Mo_keeper_1 ?_
  refine V.lconst_ ((nI 0).toInt64) d_Mo_keeper_2 (by decide +kernel) ?_
  refine V.ldc2 (v := 30) d_Mo_keeper_3 (tm 1379 (by decide +kernel) rfl) ?_
  refine V.eqS (st' := .long ((nI 30).toInt64) :: _) rfl ?_
  refine V.callS3 d_Mo_keeper_6 k_Mo_56_Mo_inS (Nat.le_of_ble_eq_true rfl) (by omega) (by omega) (c_Mo_in ?_)
  refine V.ifeqB (tgt := 22) d_Mo_keeper_9 (by decide) (fun c_9 => ?_) (fun c_9 => ?_)
  · skip
    refine V.aload_n d_Mo_keeper_22 rfl ?_
    refine V.iconst_ (nI 1) d_Mo_keeper_23 (by decide +kernel) ?_
    refine V.callV1 d_Mo_keeper_24 k_Mo_138_Mo_finds_MoV mo_o (Nat.le_of_ble_eq_true rfl) (by omega) (by omega) (c_Mo_finds (by omega) ?_)
    refine V.iret d_Mo_keeper_27 rfl (Nat.le_of_ble_eq_true rfl) (Nat.le_of_ble_eq_true rfl) ?_
    exact hE (by simp only [c_9, Bool.and_false, Bool.false_and, Bool.and_true, Bool.true_and])
  · skip
    refine V.iload_n d_Mo_keeper_12 rfl ?_
    refine V.i2l d_Mo_keeper_13 ?_
    refine V.lconst_ ((nI 0).toInt64) d_Mo_keeper_14 (by decide +kernel) ?_
    refine V.lconst_ ((nI 1).toInt64) d_Mo_keeper_15 (by decide +kernel) ?_
    refine V.callS3 d_Mo_keeper_16 k_Mo_56_Mo_inS (Nat.le_of_ble_eq_true rfl) (by omega) (by omega) (c_Mo_in ?_)
    refine V.ifneB (tgt := 28) d_Mo_keeper_19 (by decide) (fun c_19 => ?_) (fun c_19 => ?_)
    · skip
      obtain ⟨k, hk, rfl⟩ := wi_nat (by decide) c_9
      obtain ⟨w, hw, rfl⟩ := wi_nat (by decide) c_19
      refine V.aload_n d_Mo_keeper_28 rfl ?_
      refine V.callV0 d_Mo_keeper_29 k_Mo_228_Mo_keepAside_MoV mo_o (Nat.le_of_ble_eq_true rfl) (by omega) (by omega) (c_Mo_keepAside ?_)
      refine V.iconst_ (nI 0) d_Mo_keeper_32 (by decide +kernel) ?_
      refine V.istore_n d_Mo_keeper_33 (by decide) ?_
      refine V.iconst_ (-1) d_Mo_keeper_34 (by decide +kernel) ?_
      refine V.istore d_Mo_keeper_35 (by decide) ?_
      refine V.iconst_ (nI 0) d_Mo_keeper_37 (by decide +kernel) ?_
      refine V.istore d_Mo_keeper_38 (by decide) ?_
      refine V.eqH (h' := mo q D (uA A 2 (cpN 106 D (A 2))) (uS S 18 (nI fm)) h0) (by rw [show uS S 18 (nI fm) = S from uS_18 ef]) ?_
      refine V.lc (ls' := [(0, .ref q), (1, .int (nI k)), (2, .int (nI w)), (3, .int (kpB (tgv 0 W0 len0) (tgv 1 W1 len1) N D k 0).1), (4, .int (kpB (tgv 0 W0 len0) (tgv 1 W1 len1) N D k 0).2), (5, .int (nI 0))]) rfl ?_
      refine up_to (G := fun p => ∀ (A1 : Nat → Nat → Int32) (f1 : Nat), (∀ j, j ≠ 2 → j ≠ 4 → j ≠ 6 → j ≠ 7 → j ≠ 8 → j ≠ 9 → A1 j = A j) → A1 2 = cpN 106 D (A 2) → f1 ≤ fm + 500 * p → V l M_Mo_keeper (d + 8) 0 0 40 [(0, .ref q), (1, .int (nI k)), (2, .int (nI w)), (3, .int (kpB (tgv 0 W0 len0) (tgv 1 W1 len1) N D k p).1), (4, .int (kpB (tgv 0 W0 len0) (tgv 1 W1 len1) N D k p).2), (5, .int (nI p))] [] n (mo q D A1 (uS S 18 (nI f1)) h0) 0 0 Q) (6) ?_ (fun p hp hn => ?_) 0 (by omega) (uA A 2 (cpN 106 D (A 2))) fm (fun j h1 _ _ _ _ _ => uA_n h1) uA_s (by omega)
      · skip
        intro A1 f1 hA1 hA12 hf1
        refine V.iload d_Mo_keeper_40 rfl ?_
        refine V.bipush_ (nI 6) d_Mo_keeper_42 (by decide +kernel) ?_
        refine V.geN (tgt := 136) d_Mo_keeper_44 (by decide) (by omega) (by omega) (fun c_44 => ?_) (fun c_44 => ?_)
        · skip
          refine V.iload_n d_Mo_keeper_136 rfl ?_
          refine V.if_ne (tgt := 144) d_Mo_keeper_137 (by decide) (fun c_137 => ?_) (fun c_137 => ?_)
          · skip
            refine V.iload d_Mo_keeper_144 rfl ?_
            refine V.iret d_Mo_keeper_146 rfl (Nat.le_of_ble_eq_true rfl) (Nat.le_of_ble_eq_true rfl) ?_
            have hOk' := hOk k w hk hw rfl rfl A1 f1 hA1 (by omega)
            first
            | (rw [if_pos ((nI_eq (by omega) (by decide)).mp (show nI w = nI 0 from c_137))] at hOk'; exact hOk')
            | (rw [if_neg (fun z => c_137 (by rw [z]; rfl))] at hOk'; exact hOk')
          · skip
            refine V.iload_n d_Mo_keeper_140 rfl ?_
            refine V.goto (tgt := 146) d_Mo_keeper_141 (by decide) ?_
            refine V.iret d_Mo_keeper_146 rfl (Nat.le_of_ble_eq_true rfl) (Nat.le_of_ble_eq_true rfl) ?_
            have hOk' := hOk k w hk hw rfl rfl A1 f1 hA1 (by omega)
            first
            | (rw [if_pos ((nI_eq (by omega) (by decide)).mp (show nI w = nI 0 from c_137))] at hOk'; exact hOk')
            | (rw [if_neg (fun z => c_137 (by rw [z]; rfl))] at hOk'; exact hOk')
        · skip
          exact absurd c_44 (by omega)
      · skip
        intro A1 f1 hA1 hA12 hf1
        have eS : kpB (tgv 0 W0 len0) (tgv 1 W1 len1) N D k (p + 1) = (if (kpB (tgv 0 W0 len0) (tgv 1 W1 len1) N D k p).2 < btc (stb (dsD (tgv 0 W0 len0) (tgv 1 W1 len1) N k (kpD D p 6)).1 N) then (nI p, btc (stb (dsD (tgv 0 W0 len0) (tgv 1 W1 len1) N k (kpD D p 6)).1 N)) else kpB (tgv 0 W0 len0) (tgv 1 W1 len1) N D k p) := rfl
        rw [eS] at hn
        refine V.iload d_Mo_keeper_40 rfl ?_
        refine V.bipush_ (nI 6) d_Mo_keeper_42 (by decide +kernel) ?_
        refine V.geN (tgt := 136) d_Mo_keeper_44 (by decide) (by omega) (by omega) (fun c_44 => ?_) (fun c_44 => ?_)
        · skip
          exact absurd c_44 (by omega)
        · skip
          refine V.iconst_ (nI 0) d_Mo_keeper_47 (by decide +kernel) ?_
          refine V.istore d_Mo_keeper_48 (by decide) ?_
          refine V.lc (ls' := [(0, .ref q), (1, .int (nI k)), (2, .int (nI w)), (3, .int (kpB (tgv 0 W0 len0) (tgv 1 W1 len1) N D k p).1), (4, .int (kpB (tgv 0 W0 len0) (tgv 1 W1 len1) N D k p).2), (5, .int (nI p)), (6, .int (nI 0))]) rfl ?_
          refine up_to (G := fun o => V l M_Mo_keeper (d + 8) 0 0 50 [(0, .ref q), (1, .int (nI k)), (2, .int (nI w)), (3, .int (kpB (tgv 0 W0 len0) (tgv 1 W1 len1) N D k p).1), (4, .int (kpB (tgv 0 W0 len0) (tgv 1 W1 len1) N D k p).2), (5, .int (nI p)), (6, .int (nI o))] [] n (mo q (kpD D p o) A1 (uS S 18 (nI f1)) h0) 0 0 Q) (6) ?_ (fun o ho hn => ?_) 0 (by omega)
          · skip
            refine V.iload d_Mo_keeper_50 rfl ?_
            refine V.bipush_ (nI 6) d_Mo_keeper_52 (by decide +kernel) ?_
            refine V.geN (tgt := 106) d_Mo_keeper_54 (by decide) (by omega) (by omega) (fun c_54 => ?_) (fun c_54 => ?_)
            · skip
              refine V.aload_n d_Mo_keeper_106 rfl ?_
              refine V.iload_n d_Mo_keeper_107 rfl ?_
              refine V.callV1 d_Mo_keeper_108 k_Mo_237_Mo_standBehind_MoV mo_o (Nat.le_of_ble_eq_true rfl) (by omega) (by omega) (c_Mo_standBehind (fm := f1) hN (hD.up hN (fun j hj => kpD_x hp (by omega) 6 (by omega))) (by omega) uS_s (by omega) (fun A2 hA2 => ?_))
              have hl2 := dsD_len (cv := tgv 0 W0 len0) (wv := tgv 1 W1 len1) hN (D := kpD D p 6) k
              have hbk : cpN 106 (cpN 106 D (A 2)) (dsD (tgv 0 W0 len0) (tgv 1 W1 len1) N k (kpD D p 6)).1 = D := bk (fun j hj => (dsD_x hN (by unfold kpt; omega) k).trans (kpD_x hp (by omega) 6 (by omega)))
              rw [hA12, hbk, uS_uu]
              refine V.callS1 d_Mo_keeper_111 k_Mo_242_Mo_bitsS (Nat.le_of_ble_eq_true rfl) (by omega) (by omega) (c_Mo_bits ?_)
              refine V.istore d_Mo_keeper_114 (by decide) ?_
              refine V.iload d_Mo_keeper_116 rfl ?_
              refine V.iload d_Mo_keeper_118 rfl ?_
              refine V.icmp_le (tgt := 130) d_Mo_keeper_120 (by decide) (fun c_120 => ?_) (fun c_120 => ?_)
              · skip
                refine V.incN d_Mo_keeper_130 rfl (by decide) ?_
                refine V.goto (tgt := 40) d_Mo_keeper_133 (by decide) ?_
                first
                | (rw [if_pos (Int32.not_le.mp c_120)] at hn; exact V.lc rfl (hn A2 _ (fun j h1 h2 h3 h4 h5 h6 => (hA2 j h2 h3 h4 h5 h6).trans (hA1 j h1 h2 h3 h4 h5 h6)) ((hA2 2 (by decide) (by decide) (by decide) (by decide) (by decide)).trans hA12) (by omega)))
                | (rw [if_neg (Int32.not_lt.mpr c_120)] at hn; exact V.lc rfl (hn A2 _ (fun j h1 h2 h3 h4 h5 h6 => (hA2 j h2 h3 h4 h5 h6).trans (hA1 j h1 h2 h3 h4 h5 h6)) ((hA2 2 (by decide) (by decide) (by decide) (by decide) (by decide)).trans hA12) (by omega)))
              · skip
                refine V.iload d_Mo_keeper_123 rfl ?_
                refine V.istore_n d_Mo_keeper_125 (by decide) ?_
                refine V.iload d_Mo_keeper_126 rfl ?_
                refine V.istore d_Mo_keeper_128 (by decide) ?_
                refine V.incN d_Mo_keeper_130 rfl (by decide) ?_
                refine V.goto (tgt := 40) d_Mo_keeper_133 (by decide) ?_
                first
                | (rw [if_pos (Int32.not_le.mp c_120)] at hn; exact V.lc rfl (hn A2 _ (fun j h1 h2 h3 h4 h5 h6 => (hA2 j h2 h3 h4 h5 h6).trans (hA1 j h1 h2 h3 h4 h5 h6)) ((hA2 2 (by decide) (by decide) (by decide) (by decide) (by decide)).trans hA12) (by omega)))
                | (rw [if_neg (Int32.not_lt.mpr c_120)] at hn; exact V.lc rfl (hn A2 _ (fun j h1 h2 h3 h4 h5 h6 => (hA2 j h2 h3 h4 h5 h6).trans (hA1 j h1 h2 h3 h4 h5 h6)) ((hA2 2 (by decide) (by decide) (by decide) (by decide) (by decide)).trans hA12) (by omega)))
            · skip
              exact absurd c_54 (by omega)
          · skip
            refine V.iload d_Mo_keeper_50 rfl ?_
            refine V.bipush_ (nI 6) d_Mo_keeper_52 (by decide +kernel) ?_
            refine V.geN (tgt := 106) d_Mo_keeper_54 (by decide) (by omega) (by omega) (fun c_54 => ?_) (fun c_54 => ?_)
            · skip
              exact absurd c_54 (by omega)
            · skip
              refine V.iload d_Mo_keeper_57 rfl ?_
              refine V.iload d_Mo_keeper_59 rfl ?_
              refine V.eqN (tgt := 100) d_Mo_keeper_61 (by decide) (by omega) (by omega) (fun c_61 => ?_) (fun c_61 => ?_)
              · skip
                refine V.incN d_Mo_keeper_100 rfl (by decide) ?_
                refine V.goto (tgt := 50) d_Mo_keeper_103 (by decide) ?_
                have eP : kpD D p (o + 1) = (if o = p then kpD D p o else upd (upd (kpD D p o) (8 + 6 * p + o) (nI 99)) (8 + 6 * o + p) (nI 99)) := rfl
                rw [eP] at hn
                first
                | (rw [if_pos c_61] at hn; exact V.lc rfl hn)
                | (rw [if_neg c_61] at hn; exact V.lc rfl hn)
              · skip
                refine V.aload_n d_Mo_keeper_64 rfl ?_
                refine V.get d_Mo_keeper_65 f_Mo_7_Mo mo_o rfl ?_
                refine V.bipush_ (nI 8) d_Mo_keeper_68 (by decide +kernel) ?_
                refine V.bipush_ (nI 6) d_Mo_keeper_70 (by decide +kernel) ?_
                refine V.iload d_Mo_keeper_72 rfl ?_
                refine V.mulN d_Mo_keeper_74 ?_
                refine V.addN d_Mo_keeper_75 ?_
                refine V.iload d_Mo_keeper_76 rfl ?_
                refine V.addN d_Mo_keeper_78 ?_
                refine V.bipush_ (nI 99) d_Mo_keeper_79 (by decide +kernel) ?_
                refine V.mstd d_Mo_keeper_81 (by omega) ?_
                refine V.aload_n d_Mo_keeper_82 rfl ?_
                refine V.get d_Mo_keeper_83 f_Mo_7_Mo mo_o rfl ?_
                refine V.bipush_ (nI 8) d_Mo_keeper_86 (by decide +kernel) ?_
                refine V.bipush_ (nI 6) d_Mo_keeper_88 (by decide +kernel) ?_
                refine V.iload d_Mo_keeper_90 rfl ?_
                refine V.mulN d_Mo_keeper_92 ?_
                refine V.addN d_Mo_keeper_93 ?_
                refine V.iload d_Mo_keeper_94 rfl ?_
                refine V.addN d_Mo_keeper_96 ?_
                refine V.bipush_ (nI 99) d_Mo_keeper_97 (by decide +kernel) ?_
                refine V.mstd d_Mo_keeper_99 (by omega) ?_
                refine V.incN d_Mo_keeper_100 rfl (by decide) ?_
                refine V.goto (tgt := 50) d_Mo_keeper_103 (by decide) ?_
                have eP : kpD D p (o + 1) = (if o = p then kpD D p o else upd (upd (kpD D p o) (8 + 6 * p + o) (nI 99)) (8 + 6 * o + p) (nI 99)) := rfl
                rw [eP] at hn
                first
                | (rw [if_pos c_61] at hn; exact V.lc rfl hn)
                | (rw [if_neg c_61] at hn; exact V.lc rfl hn)
    · skip
      refine V.aload_n d_Mo_keeper_22 rfl ?_
      refine V.iconst_ (nI 1) d_Mo_keeper_23 (by decide +kernel) ?_
      refine V.callV1 d_Mo_keeper_24 k_Mo_138_Mo_finds_MoV mo_o (Nat.le_of_ble_eq_true rfl) (by omega) (by omega) (c_Mo_finds (by omega) ?_)
      refine V.iret d_Mo_keeper_27 rfl (Nat.le_of_ble_eq_true rfl) (Nat.le_of_ble_eq_true rfl) ?_
      exact hE (by simp only [c_9, c_19, Bool.and_false, Bool.false_and, Bool.and_true, Bool.true_and])
def sfB (cv wv : Int32 → Int32 → Int32 → Int32) (N : Nat) (D : Nat → Int32) (k : Nat) : Nat → Int32 × Int32 := fun p => itr (fun p bl => if (dsD cv wv N k (upd D 2 (nI p))).1 3 ≤ bl.2 then (nI p, (dsD cv wv N k (upd D 2 (nI p))).1 3) else bl) p (nI 0, nI 1000)
abbrev M_Mo_safe : MD := (⟨"FelledByNamesModel", "safe", "(I)I"⟩, prog_14_method_67_code, 5, (some .int), fun _ => True)
theorem d_Mo_safe_0 : decode prog_14_method_67_code 0 = .ok (.iload_n 1, 1) := by decide +kernel
theorem d_Mo_safe_1 : decode prog_14_method_67_code 1 = .ok (.i2l, 1) := by decide +kernel
theorem d_Mo_safe_2 : decode prog_14_method_67_code 2 = .ok (.lconst 0, 1) := by decide +kernel
theorem d_Mo_safe_3 : decode prog_14_method_67_code 3 = .ok (.ldc2_w 217, 3) := by decide +kernel
theorem d_Mo_safe_6 : decode prog_14_method_67_code 6 = .ok (.invokestatic 56, 3) := by decide +kernel
theorem d_Mo_safe_9 : decode prog_14_method_67_code 9 = .ok (.ifCond .ne 9, 3) := by decide +kernel
theorem d_Mo_safe_18 : decode prog_14_method_67_code 18 = .ok (.aload_n 0, 1) := by decide +kernel
theorem d_Mo_safe_19 : decode prog_14_method_67_code 19 = .ok (.invokevirtual 228, 3) := by decide +kernel
theorem d_Mo_safe_22 : decode prog_14_method_67_code 22 = .ok (.iconst 0, 1) := by decide +kernel
theorem d_Mo_safe_23 : decode prog_14_method_67_code 23 = .ok (.istore_n 2, 1) := by decide +kernel
theorem d_Mo_safe_24 : decode prog_14_method_67_code 24 = .ok (.sipush 1000, 3) := by decide +kernel
theorem d_Mo_safe_27 : decode prog_14_method_67_code 27 = .ok (.istore_n 3, 1) := by decide +kernel
theorem d_Mo_safe_28 : decode prog_14_method_67_code 28 = .ok (.iconst 0, 1) := by decide +kernel
theorem d_Mo_safe_29 : decode prog_14_method_67_code 29 = .ok (.istore 4, 2) := by decide +kernel
theorem d_Mo_safe_31 : decode prog_14_method_67_code 31 = .ok (.iload 4, 2) := by decide +kernel
theorem d_Mo_safe_33 : decode prog_14_method_67_code 33 = .ok (.bipush 16, 2) := by decide +kernel
theorem d_Mo_safe_35 : decode prog_14_method_67_code 35 = .ok (.if_icmp .ge 46, 3) := by decide +kernel
theorem d_Mo_safe_81 : decode prog_14_method_67_code 81 = .ok (.iload_n 2, 1) := by decide +kernel
theorem d_Mo_safe_82 : decode prog_14_method_67_code 82 = .ok (.ireturn, 1) := by decide +kernel
theorem d_Mo_safe_38 : decode prog_14_method_67_code 38 = .ok (.aload_n 0, 1) := by decide +kernel
theorem d_Mo_safe_39 : decode prog_14_method_67_code 39 = .ok (.getfield 7, 3) := by decide +kernel
theorem d_Mo_safe_42 : decode prog_14_method_67_code 42 = .ok (.iconst 2, 1) := by decide +kernel
theorem d_Mo_safe_43 : decode prog_14_method_67_code 43 = .ok (.iload 4, 2) := by decide +kernel
theorem d_Mo_safe_45 : decode prog_14_method_67_code 45 = .ok (.iastore, 1) := by decide +kernel
theorem d_Mo_safe_46 : decode prog_14_method_67_code 46 = .ok (.aload_n 0, 1) := by decide +kernel
theorem d_Mo_safe_47 : decode prog_14_method_67_code 47 = .ok (.iload_n 1, 1) := by decide +kernel
theorem d_Mo_safe_48 : decode prog_14_method_67_code 48 = .ok (.invokevirtual 219, 3) := by decide +kernel
theorem d_Mo_safe_51 : decode prog_14_method_67_code 51 = .ok (.aload_n 0, 1) := by decide +kernel
theorem d_Mo_safe_52 : decode prog_14_method_67_code 52 = .ok (.getfield 7, 3) := by decide +kernel
theorem d_Mo_safe_55 : decode prog_14_method_67_code 55 = .ok (.iconst 3, 1) := by decide +kernel
theorem d_Mo_safe_56 : decode prog_14_method_67_code 56 = .ok (.iaload, 1) := by decide +kernel
theorem d_Mo_safe_57 : decode prog_14_method_67_code 57 = .ok (.iload_n 3, 1) := by decide +kernel
theorem d_Mo_safe_58 : decode prog_14_method_67_code 58 = .ok (.if_icmp .gt 13, 3) := by decide +kernel
theorem d_Mo_safe_71 : decode prog_14_method_67_code 71 = .ok (.aload_n 0, 1) := by decide +kernel
theorem d_Mo_safe_72 : decode prog_14_method_67_code 72 = .ok (.invokevirtual 231, 3) := by decide +kernel
theorem d_Mo_safe_75 : decode prog_14_method_67_code 75 = .ok (.iinc 4 1, 3) := by decide +kernel
theorem d_Mo_safe_78 : decode prog_14_method_67_code 78 = .ok (.goto (-47), 3) := by decide +kernel
theorem d_Mo_safe_61 : decode prog_14_method_67_code 61 = .ok (.iload 4, 2) := by decide +kernel
theorem d_Mo_safe_63 : decode prog_14_method_67_code 63 = .ok (.istore_n 2, 1) := by decide +kernel
theorem d_Mo_safe_64 : decode prog_14_method_67_code 64 = .ok (.aload_n 0, 1) := by decide +kernel
theorem d_Mo_safe_65 : decode prog_14_method_67_code 65 = .ok (.getfield 7, 3) := by decide +kernel
theorem d_Mo_safe_68 : decode prog_14_method_67_code 68 = .ok (.iconst 3, 1) := by decide +kernel
theorem d_Mo_safe_69 : decode prog_14_method_67_code 69 = .ok (.iaload, 1) := by decide +kernel
theorem d_Mo_safe_70 : decode prog_14_method_67_code 70 = .ok (.istore_n 3, 1) := by decide +kernel
theorem d_Mo_safe_12 : decode prog_14_method_67_code 12 = .ok (.aload_n 0, 1) := by decide +kernel
theorem d_Mo_safe_13 : decode prog_14_method_67_code 13 = .ok (.iconst 1, 1) := by decide +kernel
theorem d_Mo_safe_14 : decode prog_14_method_67_code 14 = .ok (.invokevirtual 138, 3) := by decide +kernel
theorem d_Mo_safe_17 : decode prog_14_method_67_code 17 = .ok (.ireturn, 1) := by decide +kernel
set_option maxRecDepth 100000 in
theorem c_Mo_safe {x : Int32} {N fm len0 len1 : Nat} {W0 W1 : Nat → Nat} {l : Launch} {d q n : Nat} {D : Nat → Int32} {A : Nat → Nat → Int32} {S : Nat → Int32} {h0 : HP} {Q : QT} (hN : N ≤ 8) (hD : DW D N W0 len0 W1 len1) (hf : fm < 2 ^ 25) (ef : S 18 = nI fm) (hE : wi x (nI 0) (nI 60) = false → Q (some (.int (-1000000000 - nI 1))) n (mo q D (uA A 3 (upd (A 3) 1 (A 3 1 + nI 1))) S h0)) (hOk : ∀ k, k ≤ 60 → x = nI k → ∀ (A1 : Nat → Nat → Int32) (f1 : Nat), (∀ j, j ≠ 2 → j ≠ 4 → j ≠ 6 → j ≠ 7 → j ≠ 8 → j ≠ 9 → A1 j = A j) → f1 ≤ fm + 40000 →  Q (some (.int (sfB (tgv 0 W0 len0) (tgv 1 W1 len1) N D k 16).1)) n (mo q D A1 (uS S 18 (nI f1)) h0)) : Ct l M_Mo_safe (d + 7) 0 0 [.ref q, .int x] n (mo q D A S h0) Q := by
  refine Ct.of (fun _ => trivial) (by decide) (Nat.le_of_ble_eq_true rfl) ?_
  refine V.iload_n d_Mo_safe_0 rfl ?_
  refine V.i2l d_Mo_safe_1 ?_
  refine V.lconst_ ((nI 0).toInt64) d_Mo_safe_2 (by decide +kernel) ?_
  refine V.ldc2 (v := 60) d_Mo_safe_3 (tm 1315 (by decide +kernel) rfl) ?_
  refine V.eqS (st' := .long ((nI 60).toInt64) :: _) rfl ?_
  refine V.callS3 d_Mo_safe_6 k_Mo_56_Mo_inS (Nat.le_of_ble_eq_true rfl) (by omega) (by omega) (c_Mo_in ?_)
  refine V.ifneB (tgt := 18) d_Mo_safe_9 (by decide) (fun c_9 => ?_) (fun c_9 => ?_)
  · skip
    obtain ⟨k, hk, rfl⟩ := wi_nat (by decide) c_9
    refine V.aload_n d_Mo_safe_18 rfl ?_
    refine V.callV0 d_Mo_safe_19 k_Mo_228_Mo_keepAside_MoV mo_o (Nat.le_of_ble_eq_true rfl) (by omega) (by omega) (c_Mo_keepAside ?_)
    refine V.iconst_ (nI 0) d_Mo_safe_22 (by decide +kernel) ?_
    refine V.istore_n d_Mo_safe_23 (by decide) ?_
    refine V.sipush_ (nI 1000) d_Mo_safe_24 (by decide +kernel) ?_
    refine V.istore_n d_Mo_safe_27 (by decide) ?_
    refine V.iconst_ (nI 0) d_Mo_safe_28 (by decide +kernel) ?_
    refine V.istore d_Mo_safe_29 (by decide) ?_
    refine V.eqH (h' := mo q D (uA A 2 (cpN 106 D (A 2))) (uS S 18 (nI fm)) h0) (by rw [show uS S 18 (nI fm) = S from uS_18 ef]) ?_
    refine V.lc (ls' := [(0, .ref q), (1, .int (nI k)), (2, .int (sfB (tgv 0 W0 len0) (tgv 1 W1 len1) N D k 0).1), (3, .int (sfB (tgv 0 W0 len0) (tgv 1 W1 len1) N D k 0).2), (4, .int (nI 0))]) rfl ?_
    refine up_to (G := fun p => ∀ (A1 : Nat → Nat → Int32) (f1 : Nat), (∀ j, j ≠ 2 → j ≠ 4 → j ≠ 6 → j ≠ 7 → j ≠ 8 → j ≠ 9 → A1 j = A j) → A1 2 = cpN 106 D (A 2) → f1 ≤ fm + 500 * p → V l M_Mo_safe (d + 7) 0 0 31 [(0, .ref q), (1, .int (nI k)), (2, .int (sfB (tgv 0 W0 len0) (tgv 1 W1 len1) N D k p).1), (3, .int (sfB (tgv 0 W0 len0) (tgv 1 W1 len1) N D k p).2), (4, .int (nI p))] [] n (mo q D A1 (uS S 18 (nI f1)) h0) 0 0 Q) (16) ?_ (fun p hp hn => ?_) 0 (by omega) (uA A 2 (cpN 106 D (A 2))) fm (fun j h1 _ _ _ _ _ => uA_n h1) uA_s (by omega)
    · skip
      intro A1 f1 hA1 hA12 hf1
      refine V.iload d_Mo_safe_31 rfl ?_
      refine V.bipush_ (nI 16) d_Mo_safe_33 (by decide +kernel) ?_
      refine V.geN (tgt := 81) d_Mo_safe_35 (by decide) (by omega) (by omega) (fun c_35 => ?_) (fun c_35 => ?_)
      · skip
        refine V.iload_n d_Mo_safe_81 rfl ?_
        refine V.iret d_Mo_safe_82 rfl (Nat.le_of_ble_eq_true rfl) (Nat.le_of_ble_eq_true rfl) ?_
        exact hOk k hk rfl A1 f1 hA1 (by omega)
      · skip
        exact absurd c_35 (by omega)
    · skip
      intro A1 f1 hA1 hA12 hf1
      have eS : sfB (tgv 0 W0 len0) (tgv 1 W1 len1) N D k (p + 1) = (if (dsD (tgv 0 W0 len0) (tgv 1 W1 len1) N k (upd D 2 (nI p))).1 3 ≤ (sfB (tgv 0 W0 len0) (tgv 1 W1 len1) N D k p).2 then (nI p, (dsD (tgv 0 W0 len0) (tgv 1 W1 len1) N k (upd D 2 (nI p))).1 3) else sfB (tgv 0 W0 len0) (tgv 1 W1 len1) N D k p) := rfl
      rw [eS] at hn
      refine V.iload d_Mo_safe_31 rfl ?_
      refine V.bipush_ (nI 16) d_Mo_safe_33 (by decide +kernel) ?_
      refine V.geN (tgt := 81) d_Mo_safe_35 (by decide) (by omega) (by omega) (fun c_35 => ?_) (fun c_35 => ?_)
      · skip
        exact absurd c_35 (by omega)
      · skip
        refine V.aload_n d_Mo_safe_38 rfl ?_
        refine V.get d_Mo_safe_39 f_Mo_7_Mo mo_o rfl ?_
        refine V.iconst_ (nI 2) d_Mo_safe_42 (by decide +kernel) ?_
        refine V.iload d_Mo_safe_43 rfl ?_
        refine V.mstd d_Mo_safe_45 (by omega) ?_
        refine V.aload_n d_Mo_safe_46 rfl ?_
        refine V.iload_n d_Mo_safe_47 rfl ?_
        refine V.callV1 d_Mo_safe_48 k_Mo_219_Mo_daysGo_MoV mo_o (Nat.le_of_ble_eq_true rfl) (by omega) (by omega) (c_Mo_daysGo (fm := f1) hN (hD.up hN (fun j hj => pk_un (by omega))) (by omega) uS_s (by omega) (fun A2 hA2 hA92 => ?_))
        have hl2 := dsD_len (cv := tgv 0 W0 len0) (wv := tgv 1 W1 len1) hN (D := upd D 2 (nI p)) k
        rw [uS_uu]
        refine V.aload_n d_Mo_safe_51 rfl ?_
        refine V.get d_Mo_safe_52 f_Mo_7_Mo mo_o rfl ?_
        refine V.iconst_ (nI 3) d_Mo_safe_55 (by decide +kernel) ?_
        refine V.mldd d_Mo_safe_56 (by omega) ?_
        refine V.iload_n d_Mo_safe_57 rfl ?_
        refine V.icmp_gt (tgt := 71) d_Mo_safe_58 (by decide) (fun c_58 => ?_) (fun c_58 => ?_)
        · skip
          refine V.aload_n d_Mo_safe_71 rfl ?_
          refine V.callV0 d_Mo_safe_72 k_Mo_231_Mo_putBack_MoV mo_o (Nat.le_of_ble_eq_true rfl) (by omega) (by omega) (c_Mo_putBack ?_)
          have hbk : cpN 106 (cpN 106 D (A 2)) (dsD (tgv 0 W0 len0) (tgv 1 W1 len1) N k (upd D 2 (nI p))).1 = D := bk (fun j hj => (dsD_x hN (by unfold kpt; omega) k).trans (pk_un (by omega)))
          rw [hA2 2 (by decide) (by decide) (by decide) (by decide) (by decide), hA12, hbk]
          refine V.incN d_Mo_safe_75 rfl (by decide) ?_
          refine V.goto (tgt := 31) d_Mo_safe_78 (by decide) ?_
          first
          | (rw [if_pos (Int32.not_lt.mp c_58)] at hn; exact V.lc rfl (hn A2 _ (fun j h1 h2 h3 h4 h5 h6 => (hA2 j h2 h3 h4 h5 h6).trans (hA1 j h1 h2 h3 h4 h5 h6)) ((hA2 2 (by decide) (by decide) (by decide) (by decide) (by decide)).trans hA12) (by omega)))
          | (rw [if_neg (Int32.not_le.mpr c_58)] at hn; exact V.lc rfl (hn A2 _ (fun j h1 h2 h3 h4 h5 h6 => (hA2 j h2 h3 h4 h5 h6).trans (hA1 j h1 h2 h3 h4 h5 h6)) ((hA2 2 (by decide) (by decide) (by decide) (by decide) (by decide)).trans hA12) (by omega)))
        · skip
          refine V.iload d_Mo_safe_61 rfl ?_
          refine V.istore_n d_Mo_safe_63 (by decide) ?_
          refine V.aload_n d_Mo_safe_64 rfl ?_
          refine V.get d_Mo_safe_65 f_Mo_7_Mo mo_o rfl ?_
          refine V.iconst_ (nI 3) d_Mo_safe_68 (by decide +kernel) ?_
          refine V.mldd d_Mo_safe_69 (by omega) ?_
          refine V.istore_n d_Mo_safe_70 (by decide) ?_
          refine V.aload_n d_Mo_safe_71 rfl ?_
          refine V.callV0 d_Mo_safe_72 k_Mo_231_Mo_putBack_MoV mo_o (Nat.le_of_ble_eq_true rfl) (by omega) (by omega) (c_Mo_putBack ?_)
          have hbk : cpN 106 (cpN 106 D (A 2)) (dsD (tgv 0 W0 len0) (tgv 1 W1 len1) N k (upd D 2 (nI p))).1 = D := bk (fun j hj => (dsD_x hN (by unfold kpt; omega) k).trans (pk_un (by omega)))
          rw [hA2 2 (by decide) (by decide) (by decide) (by decide) (by decide), hA12, hbk]
          refine V.incN d_Mo_safe_75 rfl (by decide) ?_
          refine V.goto (tgt := 31) d_Mo_safe_78 (by decide) ?_
          first
          | (rw [if_pos (Int32.not_lt.mp c_58)] at hn; exact V.lc rfl (hn A2 _ (fun j h1 h2 h3 h4 h5 h6 => (hA2 j h2 h3 h4 h5 h6).trans (hA1 j h1 h2 h3 h4 h5 h6)) ((hA2 2 (by decide) (by decide) (by decide) (by decide) (by decide)).trans hA12) (by omega)))
          | (rw [if_neg (Int32.not_le.mpr c_58)] at hn; exact V.lc rfl (hn A2 _ (fun j h1 h2 h3 h4 h5 h6 => (hA2 j h2 h3 h4 h5 h6).trans (hA1 j h1 h2 h3 h4 h5 h6)) ((hA2 2 (by decide) (by decide) (by decide) (by decide) (by decide)).trans hA12) (by omega)))
  · skip
    refine V.aload_n d_Mo_safe_12 rfl ?_
    refine V.iconst_ (nI 1) d_Mo_safe_13 (by decide +kernel) ?_
    refine V.callV1 d_Mo_safe_14 k_Mo_138_Mo_finds_MoV mo_o (Nat.le_of_ble_eq_true rfl) (by omega) (by omega) (c_Mo_finds (by omega) ?_)
    refine V.iret d_Mo_safe_17 rfl (Nat.le_of_ble_eq_true rfl) (Nat.le_of_ble_eq_true rfl) ?_
    exact hE c_9
def gcdf : Nat → Nat → Nat → Nat
  | 0, x, _ => x
  | f + 1, x, y => if y = 0 then x else gcdf f y (x % y)
abbrev M_Mo_common : MD := (⟨"FelledByNamesModel", "common", "(II)I"⟩, prog_14_method_68_code, 5, (some .int), fun _ => True)
theorem d_Mo_common_4 : decode prog_14_method_68_code 4 = .ok (.iload_n 3, 1) := by decide +kernel
theorem d_Mo_common_5 : decode prog_14_method_68_code 5 = .ok (.ifCond .eq 16, 3) := by decide +kernel
theorem d_Mo_common_21 : decode prog_14_method_68_code 21 = .ok (.iload_n 2, 1) := by decide +kernel
theorem d_Mo_common_22 : decode prog_14_method_68_code 22 = .ok (.ireturn, 1) := by decide +kernel
theorem d_Mo_common_8 : decode prog_14_method_68_code 8 = .ok (.iload_n 2, 1) := by decide +kernel
theorem d_Mo_common_9 : decode prog_14_method_68_code 9 = .ok (.iload_n 3, 1) := by decide +kernel
theorem d_Mo_common_10 : decode prog_14_method_68_code 10 = .ok (.irem, 1) := by decide +kernel
theorem d_Mo_common_11 : decode prog_14_method_68_code 11 = .ok (.istore 4, 2) := by decide +kernel
theorem d_Mo_common_13 : decode prog_14_method_68_code 13 = .ok (.iload_n 3, 1) := by decide +kernel
theorem d_Mo_common_14 : decode prog_14_method_68_code 14 = .ok (.istore_n 2, 1) := by decide +kernel
theorem d_Mo_common_15 : decode prog_14_method_68_code 15 = .ok (.iload 4, 2) := by decide +kernel
theorem d_Mo_common_17 : decode prog_14_method_68_code 17 = .ok (.istore_n 3, 1) := by decide +kernel
theorem d_Mo_common_18 : decode prog_14_method_68_code 18 = .ok (.goto (-14), 3) := by decide +kernel
set_option maxRecDepth 100000 in
theorem common_loop {l : Launch} {d n : Nat} {h : HP} {Q : QT} : ∀ (f x y : Nat), x < 2 ^ 30 → y < 2 ^ 30 → y < f → Q (some (.int (nI (gcdf f x y)))) n h → V l M_Mo_common d 0 0 4 [(2, .int (nI x)), (3, .int (nI y))] [] n h 0 0 Q := by
  intro f
  induction f with
  | zero => intro x y _ _ h; omega
  | succ f ih =>
    intro x y hx hy hyf hQ
    simp only [gcdf] at hQ
    refine V.iload_n d_Mo_common_4 rfl ?_
    refine V.if_eq (tgt := 21) d_Mo_common_5 (by decide) (fun c_5 => ?_) (fun c_5 => ?_)
    · skip
      refine V.iload_n d_Mo_common_21 rfl ?_
      refine V.iret d_Mo_common_22 rfl (Nat.le_of_ble_eq_true rfl) (Nat.le_of_ble_eq_true rfl) ?_
      first
      | (rw [if_pos ((nI_eq (by omega) (by decide)).mp (show nI y = nI 0 from c_5))] at hQ; exact hQ)
    · skip
      refine V.iload_n d_Mo_common_8 rfl ?_
      refine V.iload_n d_Mo_common_9 rfl ?_
      refine V.remN d_Mo_common_10 (by omega) (Nat.pos_of_ne_zero (fun z => c_5 (by rw [z]; rfl))) (by omega) ?_
      refine V.istore d_Mo_common_11 (by decide) ?_
      refine V.iload_n d_Mo_common_13 rfl ?_
      refine V.istore_n d_Mo_common_14 (by decide) ?_
      refine V.iload d_Mo_common_15 rfl ?_
      refine V.istore_n d_Mo_common_17 (by decide) ?_
      refine V.goto (tgt := 4) d_Mo_common_18 (by decide) ?_
      rw [if_neg (fun z => c_5 (by rw [z]; rfl))] at hQ
      have hy0 : 0 < y := Nat.pos_of_ne_zero (fun z => c_5 (by rw [z]; rfl))
      exact V.lc rfl (ih y (x % y) (by omega) (by have := Nat.mod_lt x hy0; omega) (by have := Nat.mod_lt x hy0; omega) hQ)
theorem d_Mo_common_0 : decode prog_14_method_68_code 0 = .ok (.iload_n 0, 1) := by decide +kernel
theorem d_Mo_common_1 : decode prog_14_method_68_code 1 = .ok (.istore_n 2, 1) := by decide +kernel
theorem d_Mo_common_2 : decode prog_14_method_68_code 2 = .ok (.iload_n 1, 1) := by decide +kernel
theorem d_Mo_common_3 : decode prog_14_method_68_code 3 = .ok (.istore_n 3, 1) := by decide +kernel
set_option maxRecDepth 100000 in
theorem c_Mo_common {a b : Nat} {l : Launch} {d n : Nat} {h : HP} {Q : QT} (ha : a < 100) (hb : b < 100) (hQ : Q (some (.int (nI (gcdf 101 a b)))) n h) : Ct l M_Mo_common d 0 0 [.int (nI a), .int (nI b)] n h Q := by
  refine Ct.of (fun _ => trivial) (by decide) (Nat.le_of_ble_eq_true rfl) ?_
  refine V.iload_n d_Mo_common_0 rfl ?_
  refine V.istore_n d_Mo_common_1 (by decide) ?_
  refine V.iload_n d_Mo_common_2 rfl ?_
  refine V.istore_n d_Mo_common_3 (by decide) ?_
  exact V.lc (ls' := [(2, .int (nI a)), (3, .int (nI b))]) rfl (common_loop 101 a b (by omega) (by omega) (by omega) hQ)
def odD (D : Nat → Int32) (a b v : Nat) : Nat → Int32 := upd (upd D (8 + 6 * a + b) (nI (10 * v))) (8 + 6 * b + a) (nI (10 * v))
theorem odD_x {D : Nat → Int32} {a b v j : Nat} (ha : a ≤ 5) (hb : b ≤ 5) (hj : j < 8 ∨ 44 ≤ j) : odD D a b v j = D j := by
  unfold odD
  rw [pk_un (by omega), pk_un (by omega)]
def odB (cv wv : Int32 → Int32 → Int32 → Int32) (N : Nat) (D : Nat → Int32) (k i a b : Nat) : Nat → Int32 := fun v => itr (fun v m => m + (nI 1 - ((stb (dsD cv wv N k (odD D a b v)).1 N >>> (nI i &&& 31)) &&& nI 1))) v (nI 0)
theorem and1 (x : Int32) : x &&& nI 1 = nI 0 ∨ x &&& nI 1 = nI 1 := by
  obtain ⟨j, hj, e⟩ := pk_andE x (m := nI 1) 1 (by decide +kernel)
  rcases (show j = 0 ∨ j = 1 by omega) with rfl | rfl
  · exact Or.inl e
  · exact Or.inr e
theorem odB_nat {cv wv : Int32 → Int32 → Int32 → Int32} {N : Nat} {D : Nat → Int32} {k i a b : Nat} : ∀ v, ∃ m, m ≤ v ∧ odB cv wv N D k i a b v = nI m := by
  intro v
  induction v with
  | zero => exact ⟨0, Nat.le_refl _, rfl⟩
  | succ v ih =>
    obtain ⟨m, hm, em⟩ := ih
    show ∃ m, m ≤ v + 1 ∧ odB cv wv N D k i a b v + (nI 1 - ((stb (dsD cv wv N k (odD D a b v)).1 N >>> (nI i &&& 31)) &&& nI 1)) = nI m
    rcases and1 (stb (dsD cv wv N k (odD D a b v)).1 N >>> (nI i &&& 31)) with e | e
    · exact ⟨m + 1, by omega, by rw [e, em, pk_sub (by omega), nI_add]⟩
    · exact ⟨m, by omega, by rw [e, em, pk_sub (by omega), nI_add]; rfl⟩
theorem gcd10 : ∀ m, m ≤ 10 → ¬ nI (gcdf 101 m 10) = 0 := by decide +kernel
abbrev M_Mo_odds : MD := (⟨"FelledByNamesModel", "odds", "(III)I"⟩, prog_14_method_69_code, 8, (some .int), fun _ => True)
theorem d_Mo_odds_0 : decode prog_14_method_69_code 0 = .ok (.aload_n 0, 1) := by decide +kernel
theorem d_Mo_odds_1 : decode prog_14_method_69_code 1 = .ok (.iload_n 1, 1) := by decide +kernel
theorem d_Mo_odds_2 : decode prog_14_method_69_code 2 = .ok (.invokevirtual 207, 3) := by decide +kernel
theorem d_Mo_odds_5 : decode prog_14_method_69_code 5 = .ok (.ifCond .eq 25, 3) := by decide +kernel
theorem d_Mo_odds_30 : decode prog_14_method_69_code 30 = .ok (.aload_n 0, 1) := by decide +kernel
theorem d_Mo_odds_31 : decode prog_14_method_69_code 31 = .ok (.iconst 1, 1) := by decide +kernel
theorem d_Mo_odds_32 : decode prog_14_method_69_code 32 = .ok (.invokevirtual 138, 3) := by decide +kernel
theorem d_Mo_odds_35 : decode prog_14_method_69_code 35 = .ok (.ireturn, 1) := by decide +kernel
theorem d_Mo_odds_8 : decode prog_14_method_69_code 8 = .ok (.iload_n 2, 1) := by decide +kernel
theorem d_Mo_odds_9 : decode prog_14_method_69_code 9 = .ok (.i2l, 1) := by decide +kernel
theorem d_Mo_odds_10 : decode prog_14_method_69_code 10 = .ok (.lconst 0, 1) := by decide +kernel
theorem d_Mo_odds_11 : decode prog_14_method_69_code 11 = .ok (.ldc2_w 217, 3) := by decide +kernel
theorem d_Mo_odds_14 : decode prog_14_method_69_code 14 = .ok (.invokestatic 56, 3) := by decide +kernel
theorem d_Mo_odds_17 : decode prog_14_method_69_code 17 = .ok (.ifCond .eq 13, 3) := by decide +kernel
theorem d_Mo_odds_20 : decode prog_14_method_69_code 20 = .ok (.iload_n 3, 1) := by decide +kernel
theorem d_Mo_odds_21 : decode prog_14_method_69_code 21 = .ok (.i2l, 1) := by decide +kernel
theorem d_Mo_odds_22 : decode prog_14_method_69_code 22 = .ok (.lconst 0, 1) := by decide +kernel
theorem d_Mo_odds_23 : decode prog_14_method_69_code 23 = .ok (.lconst 1, 1) := by decide +kernel
theorem d_Mo_odds_24 : decode prog_14_method_69_code 24 = .ok (.invokestatic 56, 3) := by decide +kernel
theorem d_Mo_odds_27 : decode prog_14_method_69_code 27 = .ok (.ifCond .ne 9, 3) := by decide +kernel
theorem d_Mo_odds_36 : decode prog_14_method_69_code 36 = .ok (.aload_n 0, 1) := by decide +kernel
theorem d_Mo_odds_37 : decode prog_14_method_69_code 37 = .ok (.invokevirtual 228, 3) := by decide +kernel
theorem d_Mo_odds_40 : decode prog_14_method_69_code 40 = .ok (.aload_n 0, 1) := by decide +kernel
theorem d_Mo_odds_41 : decode prog_14_method_69_code 41 = .ok (.iload_n 1, 1) := by decide +kernel
theorem d_Mo_odds_42 : decode prog_14_method_69_code 42 = .ok (.iconst 2, 1) := by decide +kernel
theorem d_Mo_odds_43 : decode prog_14_method_69_code 43 = .ok (.invokevirtual 158, 3) := by decide +kernel
theorem d_Mo_odds_46 : decode prog_14_method_69_code 46 = .ok (.istore 4, 2) := by decide +kernel
theorem d_Mo_odds_48 : decode prog_14_method_69_code 48 = .ok (.aload_n 0, 1) := by decide +kernel
theorem d_Mo_odds_49 : decode prog_14_method_69_code 49 = .ok (.iload_n 1, 1) := by decide +kernel
theorem d_Mo_odds_50 : decode prog_14_method_69_code 50 = .ok (.iconst 3, 1) := by decide +kernel
theorem d_Mo_odds_51 : decode prog_14_method_69_code 51 = .ok (.invokevirtual 158, 3) := by decide +kernel
theorem d_Mo_odds_54 : decode prog_14_method_69_code 54 = .ok (.istore 5, 2) := by decide +kernel
theorem d_Mo_odds_56 : decode prog_14_method_69_code 56 = .ok (.iconst 0, 1) := by decide +kernel
theorem d_Mo_odds_57 : decode prog_14_method_69_code 57 = .ok (.istore 6, 2) := by decide +kernel
theorem d_Mo_odds_59 : decode prog_14_method_69_code 59 = .ok (.iconst 0, 1) := by decide +kernel
theorem d_Mo_odds_60 : decode prog_14_method_69_code 60 = .ok (.istore 7, 2) := by decide +kernel
theorem d_Mo_odds_62 : decode prog_14_method_69_code 62 = .ok (.iload 7, 2) := by decide +kernel
theorem d_Mo_odds_64 : decode prog_14_method_69_code 64 = .ok (.bipush 10, 2) := by decide +kernel
theorem d_Mo_odds_66 : decode prog_14_method_69_code 66 = .ok (.if_icmp .ge 67, 3) := by decide +kernel
theorem d_Mo_odds_133 : decode prog_14_method_69_code 133 = .ok (.iload_n 3, 1) := by decide +kernel
theorem d_Mo_odds_134 : decode prog_14_method_69_code 134 = .ok (.ifCond .ne 8, 3) := by decide +kernel
theorem d_Mo_odds_142 : decode prog_14_method_69_code 142 = .ok (.bipush 10, 2) := by decide +kernel
theorem d_Mo_odds_144 : decode prog_14_method_69_code 144 = .ok (.iload 6, 2) := by decide +kernel
theorem d_Mo_odds_146 : decode prog_14_method_69_code 146 = .ok (.bipush 10, 2) := by decide +kernel
theorem d_Mo_odds_148 : decode prog_14_method_69_code 148 = .ok (.invokestatic 248, 3) := by decide +kernel
theorem kB_Mo_common : kB M_Mo_common 2 := ⟨tm 15 (by decide +kernel) rfl, tm 1421 (by decide +kernel) rfl, ⟨by decide, by decide, by decide +kernel⟩, by decide⟩
theorem k_Mo_248_Mo_commonS : kS "FelledByNamesModel" 248 M_Mo_common 2 := ⟨kB_Mo_common, tm 1419 (by decide +kernel) rfl, tm 1420 (by decide +kernel) rfl⟩
theorem d_Mo_odds_151 : decode prog_14_method_69_code 151 = .ok (.idiv, 1) := by decide +kernel
theorem d_Mo_odds_152 : decode prog_14_method_69_code 152 = .ok (.ireturn, 1) := by decide +kernel
theorem d_Mo_odds_137 : decode prog_14_method_69_code 137 = .ok (.iload 6, 2) := by decide +kernel
theorem d_Mo_odds_139 : decode prog_14_method_69_code 139 = .ok (.goto 5, 3) := by decide +kernel
theorem d_Mo_odds_69 : decode prog_14_method_69_code 69 = .ok (.aload_n 0, 1) := by decide +kernel
theorem d_Mo_odds_70 : decode prog_14_method_69_code 70 = .ok (.getfield 7, 3) := by decide +kernel
theorem d_Mo_odds_73 : decode prog_14_method_69_code 73 = .ok (.bipush 8, 2) := by decide +kernel
theorem d_Mo_odds_75 : decode prog_14_method_69_code 75 = .ok (.bipush 6, 2) := by decide +kernel
theorem d_Mo_odds_77 : decode prog_14_method_69_code 77 = .ok (.iload 4, 2) := by decide +kernel
theorem d_Mo_odds_79 : decode prog_14_method_69_code 79 = .ok (.imul, 1) := by decide +kernel
theorem d_Mo_odds_80 : decode prog_14_method_69_code 80 = .ok (.iadd, 1) := by decide +kernel
theorem d_Mo_odds_81 : decode prog_14_method_69_code 81 = .ok (.iload 5, 2) := by decide +kernel
theorem d_Mo_odds_83 : decode prog_14_method_69_code 83 = .ok (.iadd, 1) := by decide +kernel
theorem d_Mo_odds_84 : decode prog_14_method_69_code 84 = .ok (.bipush 10, 2) := by decide +kernel
theorem d_Mo_odds_86 : decode prog_14_method_69_code 86 = .ok (.iload 7, 2) := by decide +kernel
theorem d_Mo_odds_88 : decode prog_14_method_69_code 88 = .ok (.imul, 1) := by decide +kernel
theorem d_Mo_odds_89 : decode prog_14_method_69_code 89 = .ok (.iastore, 1) := by decide +kernel
theorem d_Mo_odds_90 : decode prog_14_method_69_code 90 = .ok (.aload_n 0, 1) := by decide +kernel
theorem d_Mo_odds_91 : decode prog_14_method_69_code 91 = .ok (.getfield 7, 3) := by decide +kernel
theorem d_Mo_odds_94 : decode prog_14_method_69_code 94 = .ok (.bipush 8, 2) := by decide +kernel
theorem d_Mo_odds_96 : decode prog_14_method_69_code 96 = .ok (.bipush 6, 2) := by decide +kernel
theorem d_Mo_odds_98 : decode prog_14_method_69_code 98 = .ok (.iload 5, 2) := by decide +kernel
theorem d_Mo_odds_100 : decode prog_14_method_69_code 100 = .ok (.imul, 1) := by decide +kernel
theorem d_Mo_odds_101 : decode prog_14_method_69_code 101 = .ok (.iadd, 1) := by decide +kernel
theorem d_Mo_odds_102 : decode prog_14_method_69_code 102 = .ok (.iload 4, 2) := by decide +kernel
theorem d_Mo_odds_104 : decode prog_14_method_69_code 104 = .ok (.iadd, 1) := by decide +kernel
theorem d_Mo_odds_105 : decode prog_14_method_69_code 105 = .ok (.bipush 10, 2) := by decide +kernel
theorem d_Mo_odds_107 : decode prog_14_method_69_code 107 = .ok (.iload 7, 2) := by decide +kernel
theorem d_Mo_odds_109 : decode prog_14_method_69_code 109 = .ok (.imul, 1) := by decide +kernel
theorem d_Mo_odds_110 : decode prog_14_method_69_code 110 = .ok (.iastore, 1) := by decide +kernel
theorem d_Mo_odds_111 : decode prog_14_method_69_code 111 = .ok (.iload 6, 2) := by decide +kernel
theorem d_Mo_odds_113 : decode prog_14_method_69_code 113 = .ok (.iconst 1, 1) := by decide +kernel
theorem d_Mo_odds_114 : decode prog_14_method_69_code 114 = .ok (.aload_n 0, 1) := by decide +kernel
theorem d_Mo_odds_115 : decode prog_14_method_69_code 115 = .ok (.iload_n 2, 1) := by decide +kernel
theorem d_Mo_odds_116 : decode prog_14_method_69_code 116 = .ok (.invokevirtual 237, 3) := by decide +kernel
theorem d_Mo_odds_119 : decode prog_14_method_69_code 119 = .ok (.iload_n 1, 1) := by decide +kernel
theorem d_Mo_odds_120 : decode prog_14_method_69_code 120 = .ok (.ishr, 1) := by decide +kernel
theorem d_Mo_odds_121 : decode prog_14_method_69_code 121 = .ok (.iconst 1, 1) := by decide +kernel
theorem d_Mo_odds_122 : decode prog_14_method_69_code 122 = .ok (.iand, 1) := by decide +kernel
theorem d_Mo_odds_123 : decode prog_14_method_69_code 123 = .ok (.isub, 1) := by decide +kernel
theorem d_Mo_odds_124 : decode prog_14_method_69_code 124 = .ok (.iadd, 1) := by decide +kernel
theorem d_Mo_odds_125 : decode prog_14_method_69_code 125 = .ok (.istore 6, 2) := by decide +kernel
theorem d_Mo_odds_127 : decode prog_14_method_69_code 127 = .ok (.iinc 7 1, 3) := by decide +kernel
theorem d_Mo_odds_130 : decode prog_14_method_69_code 130 = .ok (.goto (-68), 3) := by decide +kernel
set_option maxRecDepth 100000 in
theorem c_Mo_odds {x y z : Int32} {N fm len0 len1 : Nat} {W0 W1 : Nat → Nat} {l : Launch} {d q n : Nat} {D : Nat → Int32} {A : Nat → Nat → Int32} {S : Nat → Int32} {h0 : HP} {Q : QT} (hN : N ≤ 8) (hD : DW D N W0 len0 W1 len1) (hf : fm < 2 ^ 25) (ef : S 18 = nI fm) (hE : (wi x (nI 0) (nI N - nI 1) && wi y (nI 0) (nI 60) && wi z (nI 0) (nI 1)) = false → Q (some (.int (-1000000000 - nI 1))) n (mo q D (uA A 3 (upd (A 3) 1 (A 3 1 + nI 1))) S h0)) (hOk : ∀ i k w a b m, i < N → k ≤ 60 → w ≤ 1 → x = nI i → y = nI k → z = nI w → D (50 + 7 * i + 2) = nI a → D (50 + 7 * i + 3) = nI b → a ≤ 5 → b ≤ 5 →  m ≤ 10 → odB (tgv 0 W0 len0) (tgv 1 W1 len1) N D k i a b 10 = nI m → ∀ (A1 : Nat → Nat → Int32) (f1 : Nat), (∀ j, j ≠ 2 → j ≠ 4 → j ≠ 6 → j ≠ 7 → j ≠ 8 → j ≠ 9 → A1 j = A j) → f1 ≤ fm + 40000 →  Q (some (.int ((if w = 0 then nI m else nI 10) / nI (gcdf 101 m 10)))) n (mo q D A1 (uS S 18 (nI f1)) h0)) : Ct l M_Mo_odds (d + 8) 0 0 [.ref q, .int x, .int y, .int z] n (mo q D A S h0) Q := by
  refine Ct.of (fun _ => trivial) (by decide) (Nat.le_of_ble_eq_true rfl) ?_
  refine V.aload_n d_Mo_odds_0 rfl ?_
  refine V.iload_n d_Mo_odds_1 rfl ?_
  refine V.callV1 d_Mo_odds_2 k_Mo_207_Mo_isTree_MoV mo_o (Nat.le_of_ble_eq_true rfl) (by omega) (by omega) (c_Mo_isTree ?_)
  rw [hD.1]
  refine V.ifeqB (tgt := 30) d_Mo_odds_5 (by decide) (fun c_5 => ?_) (fun c_5 => ?_)
  · skip
    refine V.aload_n d_Mo_odds_30 rfl ?_
    refine V.iconst_ (nI 1) d_Mo_odds_31 (by decide +kernel) ?_
    refine V.callV1 d_Mo_odds_32 k_Mo_138_Mo_finds_MoV mo_o (Nat.le_of_ble_eq_true rfl) (by omega) (by omega) (c_Mo_finds (by omega) ?_)
    refine V.iret d_Mo_odds_35 rfl (Nat.le_of_ble_eq_true rfl) (Nat.le_of_ble_eq_true rfl) ?_
    exact hE (by simp only [c_5, Bool.and_false, Bool.false_and, Bool.and_true, Bool.true_and])
  · skip
    refine V.iload_n d_Mo_odds_8 rfl ?_
    refine V.i2l d_Mo_odds_9 ?_
    refine V.lconst_ ((nI 0).toInt64) d_Mo_odds_10 (by decide +kernel) ?_
    refine V.ldc2 (v := 60) d_Mo_odds_11 (tm 1315 (by decide +kernel) rfl) ?_
    refine V.eqS (st' := .long ((nI 60).toInt64) :: _) rfl ?_
    refine V.callS3 d_Mo_odds_14 k_Mo_56_Mo_inS (Nat.le_of_ble_eq_true rfl) (by omega) (by omega) (c_Mo_in ?_)
    refine V.ifeqB (tgt := 30) d_Mo_odds_17 (by decide) (fun c_17 => ?_) (fun c_17 => ?_)
    · skip
      refine V.aload_n d_Mo_odds_30 rfl ?_
      refine V.iconst_ (nI 1) d_Mo_odds_31 (by decide +kernel) ?_
      refine V.callV1 d_Mo_odds_32 k_Mo_138_Mo_finds_MoV mo_o (Nat.le_of_ble_eq_true rfl) (by omega) (by omega) (c_Mo_finds (by omega) ?_)
      refine V.iret d_Mo_odds_35 rfl (Nat.le_of_ble_eq_true rfl) (Nat.le_of_ble_eq_true rfl) ?_
      exact hE (by simp only [c_5, c_17, Bool.and_false, Bool.false_and, Bool.and_true, Bool.true_and])
    · skip
      refine V.iload_n d_Mo_odds_20 rfl ?_
      refine V.i2l d_Mo_odds_21 ?_
      refine V.lconst_ ((nI 0).toInt64) d_Mo_odds_22 (by decide +kernel) ?_
      refine V.lconst_ ((nI 1).toInt64) d_Mo_odds_23 (by decide +kernel) ?_
      refine V.callS3 d_Mo_odds_24 k_Mo_56_Mo_inS (Nat.le_of_ble_eq_true rfl) (by omega) (by omega) (c_Mo_in ?_)
      refine V.ifneB (tgt := 36) d_Mo_odds_27 (by decide) (fun c_27 => ?_) (fun c_27 => ?_)
      · skip
        obtain ⟨i, hi, rfl⟩ := tre_nat hN c_5
        obtain ⟨k, hk, rfl⟩ := wi_nat (by decide) c_17
        obtain ⟨w, hw, rfl⟩ := wi_nat (by decide) c_27
        obtain ⟨a, ha, ea⟩ := (hD.2.1 i hi).2.1
        obtain ⟨b, hb, eb⟩ := (hD.2.1 i hi).2.2
        refine V.aload_n d_Mo_odds_36 rfl ?_
        refine V.callV0 d_Mo_odds_37 k_Mo_228_Mo_keepAside_MoV mo_o (Nat.le_of_ble_eq_true rfl) (by omega) (by omega) (c_Mo_keepAside ?_)
        refine V.aload_n d_Mo_odds_40 rfl ?_
        refine V.iload_n d_Mo_odds_41 rfl ?_
        refine V.iconst_ (nI 2) d_Mo_odds_42 (by decide +kernel) ?_
        refine V.callV2 d_Mo_odds_43 k_Mo_158_Mo_of_MoV mo_o (Nat.le_of_ble_eq_true rfl) (by omega) (by omega) (c_Mo_of (by omega) ?_)
        refine V.top ea ?_
        refine V.istore d_Mo_odds_46 (by decide) ?_
        refine V.aload_n d_Mo_odds_48 rfl ?_
        refine V.iload_n d_Mo_odds_49 rfl ?_
        refine V.iconst_ (nI 3) d_Mo_odds_50 (by decide +kernel) ?_
        refine V.callV2 d_Mo_odds_51 k_Mo_158_Mo_of_MoV mo_o (Nat.le_of_ble_eq_true rfl) (by omega) (by omega) (c_Mo_of (by omega) ?_)
        refine V.top eb ?_
        refine V.istore d_Mo_odds_54 (by decide) ?_
        refine V.iconst_ (nI 0) d_Mo_odds_56 (by decide +kernel) ?_
        refine V.istore d_Mo_odds_57 (by decide) ?_
        refine V.iconst_ (nI 0) d_Mo_odds_59 (by decide +kernel) ?_
        refine V.istore d_Mo_odds_60 (by decide) ?_
        refine V.eqH (h' := mo q D (uA A 2 (cpN 106 D (A 2))) (uS S 18 (nI fm)) h0) (by rw [show uS S 18 (nI fm) = S from uS_18 ef]) ?_
        refine V.lc (ls' := [(0, .ref q), (1, .int (nI i)), (2, .int (nI k)), (3, .int (nI w)), (4, .int (nI a)), (5, .int (nI b)), (6, .int (odB (tgv 0 W0 len0) (tgv 1 W1 len1) N D k i a b 0)), (7, .int (nI 0))]) rfl ?_
        refine up_to (G := fun v => ∀ (A1 : Nat → Nat → Int32) (f1 : Nat), (∀ j, j ≠ 2 → j ≠ 4 → j ≠ 6 → j ≠ 7 → j ≠ 8 → j ≠ 9 → A1 j = A j) → A1 2 = cpN 106 D (A 2) → f1 ≤ fm + 500 * v → V l M_Mo_odds (d + 8) 0 0 62 [(0, .ref q), (1, .int (nI i)), (2, .int (nI k)), (3, .int (nI w)), (4, .int (nI a)), (5, .int (nI b)), (6, .int (odB (tgv 0 W0 len0) (tgv 1 W1 len1) N D k i a b v)), (7, .int (nI v))] [] n (mo q D A1 (uS S 18 (nI f1)) h0) 0 0 Q) (10) ?_ (fun v hv hn => ?_) 0 (by omega) (uA A 2 (cpN 106 D (A 2))) fm (fun j h1 _ _ _ _ _ => uA_n h1) uA_s (by omega)
        · skip
          intro A1 f1 hA1 hA12 hf1
          refine V.iload d_Mo_odds_62 rfl ?_
          refine V.bipush_ (nI 10) d_Mo_odds_64 (by decide +kernel) ?_
          refine V.geN (tgt := 133) d_Mo_odds_66 (by decide) (by omega) (by omega) (fun c_66 => ?_) (fun c_66 => ?_)
          · skip
            obtain ⟨m, hm, em⟩ := odB_nat (cv := tgv 0 W0 len0) (wv := tgv 1 W1 len1) (N := N) (D := D) (k := k) (i := i) (a := a) (b := b) 10
            rw [em]
            refine V.iload_n d_Mo_odds_133 rfl ?_
            refine V.if_ne (tgt := 142) d_Mo_odds_134 (by decide) (fun c_134 => ?_) (fun c_134 => ?_)
            · skip
              refine V.bipush_ (nI 10) d_Mo_odds_142 (by decide +kernel) ?_
              refine V.iload d_Mo_odds_144 rfl ?_
              refine V.bipush_ (nI 10) d_Mo_odds_146 (by decide +kernel) ?_
              refine V.callS2 d_Mo_odds_148 k_Mo_248_Mo_commonS (Nat.le_of_ble_eq_true rfl) (by omega) (by omega) (c_Mo_common (by omega) (by omega) ?_)
              refine V.idiv d_Mo_odds_151 (gcd10 m hm) ?_
              refine V.iret d_Mo_odds_152 rfl (Nat.le_of_ble_eq_true rfl) (Nat.le_of_ble_eq_true rfl) ?_
              have hOk' := hOk i k w a b m hi hk hw rfl rfl rfl ea eb ha hb hm em A1 f1 hA1 (by omega)
              first
              | (rw [if_pos ((nI_eq (by omega) (by decide)).mp (show nI w = nI 0 from c_134))] at hOk'; exact hOk')
              | (rw [if_neg (fun z => c_134 (by rw [z]; rfl))] at hOk'; exact hOk')
            · skip
              refine V.iload d_Mo_odds_137 rfl ?_
              refine V.goto (tgt := 144) d_Mo_odds_139 (by decide) ?_
              refine V.iload d_Mo_odds_144 rfl ?_
              refine V.bipush_ (nI 10) d_Mo_odds_146 (by decide +kernel) ?_
              refine V.callS2 d_Mo_odds_148 k_Mo_248_Mo_commonS (Nat.le_of_ble_eq_true rfl) (by omega) (by omega) (c_Mo_common (by omega) (by omega) ?_)
              refine V.idiv d_Mo_odds_151 (gcd10 m hm) ?_
              refine V.iret d_Mo_odds_152 rfl (Nat.le_of_ble_eq_true rfl) (Nat.le_of_ble_eq_true rfl) ?_
              have hOk' := hOk i k w a b m hi hk hw rfl rfl rfl ea eb ha hb hm em A1 f1 hA1 (by omega)
              first
              | (rw [if_pos ((nI_eq (by omega) (by decide)).mp (show nI w = nI 0 from c_134))] at hOk'; exact hOk')
              | (rw [if_neg (fun z => c_134 (by rw [z]; rfl))] at hOk'; exact hOk')
          · skip
            exact absurd c_66 (by omega)
        · skip
          intro A1 f1 hA1 hA12 hf1
          refine V.iload d_Mo_odds_62 rfl ?_
          refine V.bipush_ (nI 10) d_Mo_odds_64 (by decide +kernel) ?_
          refine V.geN (tgt := 133) d_Mo_odds_66 (by decide) (by omega) (by omega) (fun c_66 => ?_) (fun c_66 => ?_)
          · skip
            exact absurd c_66 (by omega)
          · skip
            refine V.aload_n d_Mo_odds_69 rfl ?_
            refine V.get d_Mo_odds_70 f_Mo_7_Mo mo_o rfl ?_
            refine V.bipush_ (nI 8) d_Mo_odds_73 (by decide +kernel) ?_
            refine V.bipush_ (nI 6) d_Mo_odds_75 (by decide +kernel) ?_
            refine V.iload d_Mo_odds_77 rfl ?_
            refine V.mulN d_Mo_odds_79 ?_
            refine V.addN d_Mo_odds_80 ?_
            refine V.iload d_Mo_odds_81 rfl ?_
            refine V.addN d_Mo_odds_83 ?_
            refine V.bipush_ (nI 10) d_Mo_odds_84 (by decide +kernel) ?_
            refine V.iload d_Mo_odds_86 rfl ?_
            refine V.mulN d_Mo_odds_88 ?_
            refine V.mstd d_Mo_odds_89 (by omega) ?_
            refine V.aload_n d_Mo_odds_90 rfl ?_
            refine V.get d_Mo_odds_91 f_Mo_7_Mo mo_o rfl ?_
            refine V.bipush_ (nI 8) d_Mo_odds_94 (by decide +kernel) ?_
            refine V.bipush_ (nI 6) d_Mo_odds_96 (by decide +kernel) ?_
            refine V.iload d_Mo_odds_98 rfl ?_
            refine V.mulN d_Mo_odds_100 ?_
            refine V.addN d_Mo_odds_101 ?_
            refine V.iload d_Mo_odds_102 rfl ?_
            refine V.addN d_Mo_odds_104 ?_
            refine V.bipush_ (nI 10) d_Mo_odds_105 (by decide +kernel) ?_
            refine V.iload d_Mo_odds_107 rfl ?_
            refine V.mulN d_Mo_odds_109 ?_
            refine V.mstd d_Mo_odds_110 (by omega) ?_
            refine V.iload d_Mo_odds_111 rfl ?_
            refine V.iconst_ (nI 1) d_Mo_odds_113 (by decide +kernel) ?_
            refine V.eqH (h' := mo q (odD D a b v) A1 (uS S 18 (nI f1)) h0) rfl ?_
            refine V.aload_n d_Mo_odds_114 rfl ?_
            refine V.iload_n d_Mo_odds_115 rfl ?_
            refine V.callV1 d_Mo_odds_116 k_Mo_237_Mo_standBehind_MoV mo_o (Nat.le_of_ble_eq_true rfl) (by omega) (by omega) (c_Mo_standBehind (fm := f1) hN (hD.up hN (fun j hj => odD_x ha hb (by omega))) (by omega) uS_s (by omega) (fun A2 hA2 => ?_))
            have hl2 := dsD_len (cv := tgv 0 W0 len0) (wv := tgv 1 W1 len1) hN (D := odD D a b v) k
            have hbk : cpN 106 (cpN 106 D (A 2)) (dsD (tgv 0 W0 len0) (tgv 1 W1 len1) N k (odD D a b v)).1 = D := bk (fun j hj => (dsD_x hN (by unfold kpt; omega) k).trans (odD_x ha hb (by omega)))
            rw [hA12, hbk, uS_uu]
            refine V.iload_n d_Mo_odds_119 rfl ?_
            refine V.ishr d_Mo_odds_120 ?_
            refine V.iconst_ (nI 1) d_Mo_odds_121 (by decide +kernel) ?_
            refine V.iand d_Mo_odds_122 ?_
            refine V.isub d_Mo_odds_123 ?_
            refine V.iadd d_Mo_odds_124 ?_
            refine V.istore d_Mo_odds_125 (by decide) ?_
            refine V.incN d_Mo_odds_127 rfl (by decide) ?_
            refine V.goto (tgt := 62) d_Mo_odds_130 (by decide) ?_
            exact V.lc rfl (hn A2 _ (fun j h1 h2 h3 h4 h5 h6 => (hA2 j h2 h3 h4 h5 h6).trans (hA1 j h1 h2 h3 h4 h5 h6)) ((hA2 2 (by decide) (by decide) (by decide) (by decide) (by decide)).trans hA12) (by omega))
      · skip
        refine V.aload_n d_Mo_odds_30 rfl ?_
        refine V.iconst_ (nI 1) d_Mo_odds_31 (by decide +kernel) ?_
        refine V.callV1 d_Mo_odds_32 k_Mo_138_Mo_finds_MoV mo_o (Nat.le_of_ble_eq_true rfl) (by omega) (by omega) (c_Mo_finds (by omega) ?_)
        refine V.iret d_Mo_odds_35 rfl (Nat.le_of_ble_eq_true rfl) (Nat.le_of_ble_eq_true rfl) ?_
        exact hE (by simp only [c_5, c_17, c_27, Bool.and_false, Bool.false_and, Bool.and_true, Bool.true_and])
end
section
abbrev M_Mo_when : MD := (⟨"FelledByNamesModel", "when", "(I)I"⟩, prog_14_method_57_code, 4, (some .int), fun _ => True)
theorem d_Mo_when_0 : decode prog_14_method_57_code 0 = .ok (.aload_n 0, 1) := by decide +kernel
theorem d_Mo_when_1 : decode prog_14_method_57_code 1 = .ok (.iload_n 1, 1) := by decide +kernel
theorem d_Mo_when_2 : decode prog_14_method_57_code 2 = .ok (.invokevirtual 207, 3) := by decide +kernel
theorem d_Mo_when_5 : decode prog_14_method_57_code 5 = .ok (.ifCond .ne 9, 3) := by decide +kernel
theorem d_Mo_when_14 : decode prog_14_method_57_code 14 = .ok (.aload_n 0, 1) := by decide +kernel
theorem d_Mo_when_15 : decode prog_14_method_57_code 15 = .ok (.invokevirtual 228, 3) := by decide +kernel
theorem d_Mo_when_18 : decode prog_14_method_57_code 18 = .ok (.iconst 0, 1) := by decide +kernel
theorem d_Mo_when_19 : decode prog_14_method_57_code 19 = .ok (.istore_n 2, 1) := by decide +kernel
theorem d_Mo_when_20 : decode prog_14_method_57_code 20 = .ok (.iload_n 2, 1) := by decide +kernel
theorem d_Mo_when_21 : decode prog_14_method_57_code 21 = .ok (.bipush 60, 2) := by decide +kernel
theorem d_Mo_when_23 : decode prog_14_method_57_code 23 = .ok (.if_icmp .ge 24, 3) := by decide +kernel
theorem d_Mo_when_47 : decode prog_14_method_57_code 47 = .ok (.aload_n 0, 1) := by decide +kernel
theorem d_Mo_when_48 : decode prog_14_method_57_code 48 = .ok (.iload_n 1, 1) := by decide +kernel
theorem d_Mo_when_49 : decode prog_14_method_57_code 49 = .ok (.bipush 6, 2) := by decide +kernel
theorem d_Mo_when_51 : decode prog_14_method_57_code 51 = .ok (.invokevirtual 158, 3) := by decide +kernel
theorem d_Mo_when_54 : decode prog_14_method_57_code 54 = .ok (.ifCond .ne 7, 3) := by decide +kernel
theorem d_Mo_when_61 : decode prog_14_method_57_code 61 = .ok (.iconst 0, 1) := by decide +kernel
theorem d_Mo_when_62 : decode prog_14_method_57_code 62 = .ok (.istore_n 3, 1) := by decide +kernel
theorem d_Mo_when_63 : decode prog_14_method_57_code 63 = .ok (.aload_n 0, 1) := by decide +kernel
theorem d_Mo_when_64 : decode prog_14_method_57_code 64 = .ok (.invokevirtual 231, 3) := by decide +kernel
theorem d_Mo_when_67 : decode prog_14_method_57_code 67 = .ok (.iload_n 3, 1) := by decide +kernel
theorem d_Mo_when_68 : decode prog_14_method_57_code 68 = .ok (.ifCond .eq 7, 3) := by decide +kernel
theorem d_Mo_when_75 : decode prog_14_method_57_code 75 = .ok (.aload_n 0, 1) := by decide +kernel
theorem d_Mo_when_76 : decode prog_14_method_57_code 76 = .ok (.iconst 2, 1) := by decide +kernel
theorem d_Mo_when_77 : decode prog_14_method_57_code 77 = .ok (.invokevirtual 138, 3) := by decide +kernel
theorem d_Mo_when_80 : decode prog_14_method_57_code 80 = .ok (.ireturn, 1) := by decide +kernel
theorem d_Mo_when_71 : decode prog_14_method_57_code 71 = .ok (.iload_n 2, 1) := by decide +kernel
theorem d_Mo_when_72 : decode prog_14_method_57_code 72 = .ok (.goto 8, 3) := by decide +kernel
theorem d_Mo_when_57 : decode prog_14_method_57_code 57 = .ok (.iconst 1, 1) := by decide +kernel
theorem d_Mo_when_58 : decode prog_14_method_57_code 58 = .ok (.goto 4, 3) := by decide +kernel
theorem d_Mo_when_26 : decode prog_14_method_57_code 26 = .ok (.aload_n 0, 1) := by decide +kernel
theorem d_Mo_when_27 : decode prog_14_method_57_code 27 = .ok (.iload_n 1, 1) := by decide +kernel
theorem d_Mo_when_28 : decode prog_14_method_57_code 28 = .ok (.bipush 6, 2) := by decide +kernel
theorem d_Mo_when_30 : decode prog_14_method_57_code 30 = .ok (.invokevirtual 158, 3) := by decide +kernel
theorem d_Mo_when_33 : decode prog_14_method_57_code 33 = .ok (.iconst 1, 1) := by decide +kernel
theorem d_Mo_when_34 : decode prog_14_method_57_code 34 = .ok (.if_icmp .ne 13, 3) := by decide +kernel
theorem d_Mo_when_37 : decode prog_14_method_57_code 37 = .ok (.aload_n 0, 1) := by decide +kernel
theorem d_Mo_when_38 : decode prog_14_method_57_code 38 = .ok (.invokevirtual 186, 3) := by decide +kernel
theorem d_Mo_when_41 : decode prog_14_method_57_code 41 = .ok (.iinc 2 1, 3) := by decide +kernel
theorem d_Mo_when_44 : decode prog_14_method_57_code 44 = .ok (.goto (-24), 3) := by decide +kernel
theorem d_Mo_when_8 : decode prog_14_method_57_code 8 = .ok (.aload_n 0, 1) := by decide +kernel
theorem d_Mo_when_9 : decode prog_14_method_57_code 9 = .ok (.iconst 1, 1) := by decide +kernel
theorem d_Mo_when_10 : decode prog_14_method_57_code 10 = .ok (.invokevirtual 138, 3) := by decide +kernel
theorem d_Mo_when_13 : decode prog_14_method_57_code 13 = .ok (.ireturn, 1) := by decide +kernel
set_option maxRecDepth 100000 in
theorem c_Mo_when {x : Int32} {N fm len0 len1 : Nat} {W0 W1 : Nat → Nat} {l : Launch} {d q n : Nat} {D : Nat → Int32} {A : Nat → Nat → Int32} {S : Nat → Int32} {h0 : HP} {Q : QT} (hN : N ≤ 8) (hD : DW D N W0 len0 W1 len1) (hf : fm < 2 ^ 25) (ef : S 18 = nI fm) (hE : wi x (nI 0) (nI N - nI 1) = false → Q (some (.int (-1000000000 - nI 1))) n (mo q D (uA A 3 (upd (A 3) 1 (A 3 1 + nI 1))) S h0)) (hNo : ∀ i m, i < N → x = nI i → m ≤ 60 → (∀ u, u < m → (dsD (tgv 0 W0 len0) (tgv 1 W1 len1) N u D).1 (50 + 7 * i + 6) = nI 1) → ¬ (dsD (tgv 0 W0 len0) (tgv 1 W1 len1) N m D).1 (50 + 7 * i + 6) = 0 → (m = 60 ∨ ¬ (dsD (tgv 0 W0 len0) (tgv 1 W1 len1) N m D).1 (50 + 7 * i + 6) = nI 1) → ∀ (A1 : Nat → Nat → Int32) (f1 : Nat), (∀ j, j ≠ 2 → j ≠ 4 → j ≠ 6 → j ≠ 7 → j ≠ 8 → j ≠ 9 → A1 j = A j) → f1 ≤ fm + 40000 →  Q (some (.int (-1000000000 - nI 2))) n (mo q D (uA A1 3 (upd (A 3) 2 (A 3 2 + nI 1))) (uS S 18 (nI f1)) h0)) (hOk : ∀ i m, i < N → x = nI i → m ≤ 60 → (∀ u, u < m → (dsD (tgv 0 W0 len0) (tgv 1 W1 len1) N u D).1 (50 + 7 * i + 6) = nI 1) → (dsD (tgv 0 W0 len0) (tgv 1 W1 len1) N m D).1 (50 + 7 * i + 6) = 0 → ∀ (A1 : Nat → Nat → Int32) (f1 : Nat), (∀ j, j ≠ 2 → j ≠ 4 → j ≠ 6 → j ≠ 7 → j ≠ 8 → j ≠ 9 → A1 j = A j) → f1 ≤ fm + 40000 →  Q (some (.int (nI m))) n (mo q D A1 (uS S 18 (nI f1)) h0)) : Ct l M_Mo_when (d + 6) 0 0 [.ref q, .int x] n (mo q D A S h0) Q := by
  refine Ct.of (fun _ => trivial) (by decide) (Nat.le_of_ble_eq_true rfl) ?_
  refine V.aload_n d_Mo_when_0 rfl ?_
  refine V.iload_n d_Mo_when_1 rfl ?_
  refine V.callV1 d_Mo_when_2 k_Mo_207_Mo_isTree_MoV mo_o (Nat.le_of_ble_eq_true rfl) (by omega) (by omega) (c_Mo_isTree ?_)
  rw [hD.1]
  refine V.ifneB (tgt := 14) d_Mo_when_5 (by decide) (fun c_5 => ?_) (fun c_5 => ?_)
  · skip
    obtain ⟨i, hi, rfl⟩ := tre_nat hN c_5
    refine V.aload_n d_Mo_when_14 rfl ?_
    refine V.callV0 d_Mo_when_15 k_Mo_228_Mo_keepAside_MoV mo_o (Nat.le_of_ble_eq_true rfl) (by omega) (by omega) (c_Mo_keepAside ?_)
    refine V.iconst_ (nI 0) d_Mo_when_18 (by decide +kernel) ?_
    refine V.istore_n d_Mo_when_19 (by decide) ?_
    refine V.eqH (h' := mo q (dsD (tgv 0 W0 len0) (tgv 1 W1 len1) N 0 D).1 (uA A 2 (cpN 106 D (A 2))) (uS S 18 (nI fm)) h0) (by rw [show uS S 18 (nI fm) = S from uS_18 ef]; rfl) ?_
    refine V.lc (ls' := [(0, .ref q), (1, .int (nI i)), (2, .int (nI 0))]) rfl ?_
    refine up_to (G := fun m => ∀ (A1 : Nat → Nat → Int32) (f1 : Nat), (∀ j, j ≠ 2 → j ≠ 4 → j ≠ 6 → j ≠ 7 → j ≠ 8 → j ≠ 9 → A1 j = A j) → A1 2 = cpN 106 D (A 2) → f1 ≤ fm + 500 * m → (∀ u, u < m → (dsD (tgv 0 W0 len0) (tgv 1 W1 len1) N u D).1 (50 + 7 * i + 6) = nI 1) → V l M_Mo_when (d + 6) 0 0 20 [(0, .ref q), (1, .int (nI i)), (2, .int (nI m))] [] n (mo q (dsD (tgv 0 W0 len0) (tgv 1 W1 len1) N m D).1 A1 (uS S 18 (nI f1)) h0) 0 0 Q) (60) ?_ (fun m hm hn => ?_) 0 (by omega) (uA A 2 (cpN 106 D (A 2))) fm (fun j h1 _ _ _ _ _ => uA_n h1) uA_s (by omega) (fun u hu => absurd hu (by omega))
    · skip
      intro A1 f1 hA1 hA12 hf1 hall
      have hX := hD.days (cv := tgv 0 W0 len0) (wv := tgv 1 W1 len1) hN 60
      refine V.iload_n d_Mo_when_20 rfl ?_
      refine V.bipush_ (nI 60) d_Mo_when_21 (by decide +kernel) ?_
      refine V.geN (tgt := 47) d_Mo_when_23 (by decide) (by omega) (by omega) (fun c_23 => ?_) (fun c_23 => ?_)
      · skip
        refine V.aload_n d_Mo_when_47 rfl ?_
        refine V.iload_n d_Mo_when_48 rfl ?_
        refine V.bipush_ (nI 6) d_Mo_when_49 (by decide +kernel) ?_
        refine V.callV2 d_Mo_when_51 k_Mo_158_Mo_of_MoV mo_o (Nat.le_of_ble_eq_true rfl) (by omega) (by omega) (c_Mo_of (by omega) ?_)
        refine V.if_ne (tgt := 61) d_Mo_when_54 (by decide) (fun c_54 => ?_) (fun c_54 => ?_)
        · skip
          refine V.iconst_ (nI 0) d_Mo_when_61 (by decide +kernel) ?_
          refine V.istore_n d_Mo_when_62 (by decide) ?_
          have hbk : cpN 106 (cpN 106 D (A 2)) (dsD (tgv 0 W0 len0) (tgv 1 W1 len1) N 60 D).1 = D := bk (fun j hj => dsD_x hN (by unfold kpt; omega) _)
          refine V.aload_n d_Mo_when_63 rfl ?_
          refine V.callV0 d_Mo_when_64 k_Mo_231_Mo_putBack_MoV mo_o (Nat.le_of_ble_eq_true rfl) (by omega) (by omega) (c_Mo_putBack ?_)
          rw [hA12, hbk]
          refine V.iload_n d_Mo_when_67 rfl ?_
          refine V.if_eq (tgt := 75) d_Mo_when_68 (by decide) (fun c_68 => ?_) (fun c_68 => ?_)
          · skip
            refine V.aload_n d_Mo_when_75 rfl ?_
            refine V.iconst_ (nI 2) d_Mo_when_76 (by decide +kernel) ?_
            refine V.callV1 d_Mo_when_77 k_Mo_138_Mo_finds_MoV mo_o (Nat.le_of_ble_eq_true rfl) (by omega) (by omega) (c_Mo_finds (by omega) ?_)
            refine V.iret d_Mo_when_80 rfl (Nat.le_of_ble_eq_true rfl) (Nat.le_of_ble_eq_true rfl) ?_
            first
            | exact absurd c_68 (by decide +kernel)
            | exact absurd (show nI 0 = 0 by decide +kernel) c_68
            | exact hOk i 60 hi rfl (by omega) hall c_54 A1 f1 hA1 (by omega)
            | (rw [hA1 3 (by decide) (by decide) (by decide) (by decide) (by decide) (by decide)]; exact hNo i 60 hi rfl (by omega) hall c_54 (Or.inl rfl) A1 f1 hA1 (by omega))
          · skip
            refine V.iload_n d_Mo_when_71 rfl ?_
            refine V.goto (tgt := 80) d_Mo_when_72 (by decide) ?_
            refine V.iret d_Mo_when_80 rfl (Nat.le_of_ble_eq_true rfl) (Nat.le_of_ble_eq_true rfl) ?_
            first
            | exact absurd c_68 (by decide +kernel)
            | exact absurd (show nI 0 = 0 by decide +kernel) c_68
            | exact hOk i 60 hi rfl (by omega) hall c_54 A1 f1 hA1 (by omega)
            | (rw [hA1 3 (by decide) (by decide) (by decide) (by decide) (by decide) (by decide)]; exact hNo i 60 hi rfl (by omega) hall c_54 (Or.inl rfl) A1 f1 hA1 (by omega))
        · skip
          refine V.iconst_ (nI 1) d_Mo_when_57 (by decide +kernel) ?_
          refine V.goto (tgt := 62) d_Mo_when_58 (by decide) ?_
          refine V.istore_n d_Mo_when_62 (by decide) ?_
          have hbk : cpN 106 (cpN 106 D (A 2)) (dsD (tgv 0 W0 len0) (tgv 1 W1 len1) N 60 D).1 = D := bk (fun j hj => dsD_x hN (by unfold kpt; omega) _)
          refine V.aload_n d_Mo_when_63 rfl ?_
          refine V.callV0 d_Mo_when_64 k_Mo_231_Mo_putBack_MoV mo_o (Nat.le_of_ble_eq_true rfl) (by omega) (by omega) (c_Mo_putBack ?_)
          rw [hA12, hbk]
          refine V.iload_n d_Mo_when_67 rfl ?_
          refine V.if_eq (tgt := 75) d_Mo_when_68 (by decide) (fun c_68 => ?_) (fun c_68 => ?_)
          · skip
            refine V.aload_n d_Mo_when_75 rfl ?_
            refine V.iconst_ (nI 2) d_Mo_when_76 (by decide +kernel) ?_
            refine V.callV1 d_Mo_when_77 k_Mo_138_Mo_finds_MoV mo_o (Nat.le_of_ble_eq_true rfl) (by omega) (by omega) (c_Mo_finds (by omega) ?_)
            refine V.iret d_Mo_when_80 rfl (Nat.le_of_ble_eq_true rfl) (Nat.le_of_ble_eq_true rfl) ?_
            first
            | exact absurd c_68 (by decide +kernel)
            | exact absurd (show nI 0 = 0 by decide +kernel) c_68
            | exact hOk i 60 hi rfl (by omega) hall c_54 A1 f1 hA1 (by omega)
            | (rw [hA1 3 (by decide) (by decide) (by decide) (by decide) (by decide) (by decide)]; exact hNo i 60 hi rfl (by omega) hall c_54 (Or.inl rfl) A1 f1 hA1 (by omega))
          · skip
            refine V.iload_n d_Mo_when_71 rfl ?_
            refine V.goto (tgt := 80) d_Mo_when_72 (by decide) ?_
            refine V.iret d_Mo_when_80 rfl (Nat.le_of_ble_eq_true rfl) (Nat.le_of_ble_eq_true rfl) ?_
            first
            | exact absurd c_68 (by decide +kernel)
            | exact absurd (show nI 0 = 0 by decide +kernel) c_68
            | exact hOk i 60 hi rfl (by omega) hall c_54 A1 f1 hA1 (by omega)
            | (rw [hA1 3 (by decide) (by decide) (by decide) (by decide) (by decide) (by decide)]; exact hNo i 60 hi rfl (by omega) hall c_54 (Or.inl rfl) A1 f1 hA1 (by omega))
      · skip
        exact absurd c_23 (by omega)
    · skip
      intro A1 f1 hA1 hA12 hf1 hall
      have hX := hD.days (cv := tgv 0 W0 len0) (wv := tgv 1 W1 len1) hN m
      have hdl := dayD_len (cv := tgv 0 W0 len0) (wv := tgv 1 W1 len1) hN (D := (dsD (tgv 0 W0 len0) (tgv 1 W1 len1) N m D).1)
      rw [dsD_s] at hn
      refine V.iload_n d_Mo_when_20 rfl ?_
      refine V.bipush_ (nI 60) d_Mo_when_21 (by decide +kernel) ?_
      refine V.geN (tgt := 47) d_Mo_when_23 (by decide) (by omega) (by omega) (fun c_23 => ?_) (fun c_23 => ?_)
      · skip
        exact absurd c_23 (by omega)
      · skip
        refine V.aload_n d_Mo_when_26 rfl ?_
        refine V.iload_n d_Mo_when_27 rfl ?_
        refine V.bipush_ (nI 6) d_Mo_when_28 (by decide +kernel) ?_
        refine V.callV2 d_Mo_when_30 k_Mo_158_Mo_of_MoV mo_o (Nat.le_of_ble_eq_true rfl) (by omega) (by omega) (c_Mo_of (by omega) ?_)
        refine V.iconst_ (nI 1) d_Mo_when_33 (by decide +kernel) ?_
        refine V.icmp_ne (tgt := 47) d_Mo_when_34 (by decide) (fun c_34 => ?_) (fun c_34 => ?_)
        · skip
          refine V.aload_n d_Mo_when_47 rfl ?_
          refine V.iload_n d_Mo_when_48 rfl ?_
          refine V.bipush_ (nI 6) d_Mo_when_49 (by decide +kernel) ?_
          refine V.callV2 d_Mo_when_51 k_Mo_158_Mo_of_MoV mo_o (Nat.le_of_ble_eq_true rfl) (by omega) (by omega) (c_Mo_of (by omega) ?_)
          refine V.if_ne (tgt := 61) d_Mo_when_54 (by decide) (fun c_54 => ?_) (fun c_54 => ?_)
          · skip
            refine V.iconst_ (nI 0) d_Mo_when_61 (by decide +kernel) ?_
            refine V.istore_n d_Mo_when_62 (by decide) ?_
            have hbk : cpN 106 (cpN 106 D (A 2)) (dsD (tgv 0 W0 len0) (tgv 1 W1 len1) N m D).1 = D := bk (fun j hj => dsD_x hN (by unfold kpt; omega) _)
            refine V.aload_n d_Mo_when_63 rfl ?_
            refine V.callV0 d_Mo_when_64 k_Mo_231_Mo_putBack_MoV mo_o (Nat.le_of_ble_eq_true rfl) (by omega) (by omega) (c_Mo_putBack ?_)
            rw [hA12, hbk]
            refine V.iload_n d_Mo_when_67 rfl ?_
            refine V.if_eq (tgt := 75) d_Mo_when_68 (by decide) (fun c_68 => ?_) (fun c_68 => ?_)
            · skip
              refine V.aload_n d_Mo_when_75 rfl ?_
              refine V.iconst_ (nI 2) d_Mo_when_76 (by decide +kernel) ?_
              refine V.callV1 d_Mo_when_77 k_Mo_138_Mo_finds_MoV mo_o (Nat.le_of_ble_eq_true rfl) (by omega) (by omega) (c_Mo_finds (by omega) ?_)
              refine V.iret d_Mo_when_80 rfl (Nat.le_of_ble_eq_true rfl) (Nat.le_of_ble_eq_true rfl) ?_
              first
              | exact absurd c_68 (by decide +kernel)
              | exact absurd (show nI 0 = 0 by decide +kernel) c_68
              | exact hOk i m hi rfl (by omega) hall c_54 A1 f1 hA1 (by omega)
              | (rw [hA1 3 (by decide) (by decide) (by decide) (by decide) (by decide) (by decide)]; exact hNo i m hi rfl (by omega) hall c_54 (Or.inr c_34) A1 f1 hA1 (by omega))
            · skip
              refine V.iload_n d_Mo_when_71 rfl ?_
              refine V.goto (tgt := 80) d_Mo_when_72 (by decide) ?_
              refine V.iret d_Mo_when_80 rfl (Nat.le_of_ble_eq_true rfl) (Nat.le_of_ble_eq_true rfl) ?_
              first
              | exact absurd c_68 (by decide +kernel)
              | exact absurd (show nI 0 = 0 by decide +kernel) c_68
              | exact hOk i m hi rfl (by omega) hall c_54 A1 f1 hA1 (by omega)
              | (rw [hA1 3 (by decide) (by decide) (by decide) (by decide) (by decide) (by decide)]; exact hNo i m hi rfl (by omega) hall c_54 (Or.inr c_34) A1 f1 hA1 (by omega))
          · skip
            refine V.iconst_ (nI 1) d_Mo_when_57 (by decide +kernel) ?_
            refine V.goto (tgt := 62) d_Mo_when_58 (by decide) ?_
            refine V.istore_n d_Mo_when_62 (by decide) ?_
            have hbk : cpN 106 (cpN 106 D (A 2)) (dsD (tgv 0 W0 len0) (tgv 1 W1 len1) N m D).1 = D := bk (fun j hj => dsD_x hN (by unfold kpt; omega) _)
            refine V.aload_n d_Mo_when_63 rfl ?_
            refine V.callV0 d_Mo_when_64 k_Mo_231_Mo_putBack_MoV mo_o (Nat.le_of_ble_eq_true rfl) (by omega) (by omega) (c_Mo_putBack ?_)
            rw [hA12, hbk]
            refine V.iload_n d_Mo_when_67 rfl ?_
            refine V.if_eq (tgt := 75) d_Mo_when_68 (by decide) (fun c_68 => ?_) (fun c_68 => ?_)
            · skip
              refine V.aload_n d_Mo_when_75 rfl ?_
              refine V.iconst_ (nI 2) d_Mo_when_76 (by decide +kernel) ?_
              refine V.callV1 d_Mo_when_77 k_Mo_138_Mo_finds_MoV mo_o (Nat.le_of_ble_eq_true rfl) (by omega) (by omega) (c_Mo_finds (by omega) ?_)
              refine V.iret d_Mo_when_80 rfl (Nat.le_of_ble_eq_true rfl) (Nat.le_of_ble_eq_true rfl) ?_
              first
              | exact absurd c_68 (by decide +kernel)
              | exact absurd (show nI 0 = 0 by decide +kernel) c_68
              | exact hOk i m hi rfl (by omega) hall c_54 A1 f1 hA1 (by omega)
              | (rw [hA1 3 (by decide) (by decide) (by decide) (by decide) (by decide) (by decide)]; exact hNo i m hi rfl (by omega) hall c_54 (Or.inr c_34) A1 f1 hA1 (by omega))
            · skip
              refine V.iload_n d_Mo_when_71 rfl ?_
              refine V.goto (tgt := 80) d_Mo_when_72 (by decide) ?_
              refine V.iret d_Mo_when_80 rfl (Nat.le_of_ble_eq_true rfl) (Nat.le_of_ble_eq_true rfl) ?_
              first
              | exact absurd c_68 (by decide +kernel)
              | exact absurd (show nI 0 = 0 by decide +kernel) c_68
              | exact hOk i m hi rfl (by omega) hall c_54 A1 f1 hA1 (by omega)
              | (rw [hA1 3 (by decide) (by decide) (by decide) (by decide) (by decide) (by decide)]; exact hNo i m hi rfl (by omega) hall c_54 (Or.inr c_34) A1 f1 hA1 (by omega))
        · skip
          refine V.aload_n d_Mo_when_37 rfl ?_
          refine V.callV0 d_Mo_when_38 k_Mo_186_Mo_dayGoes_MoV mo_o (Nat.le_of_ble_eq_true rfl) (by omega) (by omega) (c_Mo_dayGoes (fm := f1) hN hX.1 hX.2.1 hX.2.2.1 hX.2.2.2.1 (by omega) uS_s (fun A2 hA2 hA92 => ?_))
          refine V.incN d_Mo_when_41 rfl (by decide) ?_
          refine V.goto (tgt := 20) d_Mo_when_44 (by decide) ?_
          rw [uS_uu]
          exact V.lc rfl (hn A2 _ (fun j h1 h2 h3 h4 h5 h6 => (hA2 j h2 h3 h4 h5 h6).trans (hA1 j h1 h2 h3 h4 h5 h6)) ((hA2 2 (by decide) (by decide) (by decide) (by decide) (by decide)).trans hA12) (by omega) (fun u hu => by
            by_cases hum : u = m
            · subst hum; exact c_34
            · exact hall u (by omega)))
  · skip
    refine V.aload_n d_Mo_when_8 rfl ?_
    refine V.iconst_ (nI 1) d_Mo_when_9 (by decide +kernel) ?_
    refine V.callV1 d_Mo_when_10 k_Mo_138_Mo_finds_MoV mo_o (Nat.le_of_ble_eq_true rfl) (by omega) (by omega) (c_Mo_finds (by omega) ?_)
    refine V.iret d_Mo_when_13 rfl (Nat.le_of_ble_eq_true rfl) (Nat.le_of_ble_eq_true rfl) ?_
    exact hE c_5
end
section
abbrev M_Mo_check : MD := (⟨"FelledByNamesModel", "check", "()I"⟩, prog_14_method_87_code, 4, (some .int), fun _ => True)
theorem d_Mo_check_0 : decode prog_14_method_87_code 0 = .ok (.aload_n 0, 1) := by decide +kernel
theorem d_Mo_check_1 : decode prog_14_method_87_code 1 = .ok (.getfield 7, 3) := by decide +kernel
theorem d_Mo_check_4 : decode prog_14_method_87_code 4 = .ok (.bipush 7, 2) := by decide +kernel
theorem d_Mo_check_6 : decode prog_14_method_87_code 6 = .ok (.iaload, 1) := by decide +kernel
theorem d_Mo_check_7 : decode prog_14_method_87_code 7 = .ok (.istore_n 1, 1) := by decide +kernel
theorem d_Mo_check_8 : decode prog_14_method_87_code 8 = .ok (.aload_n 0, 1) := by decide +kernel
theorem d_Mo_check_9 : decode prog_14_method_87_code 9 = .ok (.getfield 7, 3) := by decide +kernel
theorem d_Mo_check_12 : decode prog_14_method_87_code 12 = .ok (.bipush 7, 2) := by decide +kernel
theorem d_Mo_check_14 : decode prog_14_method_87_code 14 = .ok (.iconst 0, 1) := by decide +kernel
theorem d_Mo_check_15 : decode prog_14_method_87_code 15 = .ok (.iastore, 1) := by decide +kernel
theorem d_Mo_check_16 : decode prog_14_method_87_code 16 = .ok (.aload_n 0, 1) := by decide +kernel
theorem d_Mo_check_17 : decode prog_14_method_87_code 17 = .ok (.invokevirtual 228, 3) := by decide +kernel
theorem d_Mo_check_20 : decode prog_14_method_87_code 20 = .ok (.iconst 0, 1) := by decide +kernel
theorem d_Mo_check_21 : decode prog_14_method_87_code 21 = .ok (.istore_n 2, 1) := by decide +kernel
theorem d_Mo_check_22 : decode prog_14_method_87_code 22 = .ok (.iconst 0, 1) := by decide +kernel
theorem d_Mo_check_23 : decode prog_14_method_87_code 23 = .ok (.istore_n 3, 1) := by decide +kernel
theorem d_Mo_check_24 : decode prog_14_method_87_code 24 = .ok (.iload_n 3, 1) := by decide +kernel
theorem d_Mo_check_25 : decode prog_14_method_87_code 25 = .ok (.iload_n 1, 1) := by decide +kernel
theorem d_Mo_check_26 : decode prog_14_method_87_code 26 = .ok (.if_icmp .ge 44, 3) := by decide +kernel
theorem d_Mo_check_70 : decode prog_14_method_87_code 70 = .ok (.aload_n 0, 1) := by decide +kernel
theorem d_Mo_check_71 : decode prog_14_method_87_code 71 = .ok (.invokevirtual 231, 3) := by decide +kernel
theorem d_Mo_check_74 : decode prog_14_method_87_code 74 = .ok (.iload_n 2, 1) := by decide +kernel
theorem d_Mo_check_75 : decode prog_14_method_87_code 75 = .ok (.ireturn, 1) := by decide +kernel
theorem d_Mo_check_29 : decode prog_14_method_87_code 29 = .ok (.iload_n 2, 1) := by decide +kernel
theorem d_Mo_check_30 : decode prog_14_method_87_code 30 = .ok (.ifCond .ne 40, 3) := by decide +kernel
theorem d_Mo_check_33 : decode prog_14_method_87_code 33 = .ok (.aload_n 0, 1) := by decide +kernel
theorem d_Mo_check_34 : decode prog_14_method_87_code 34 = .ok (.invokevirtual 186, 3) := by decide +kernel
theorem d_Mo_check_37 : decode prog_14_method_87_code 37 = .ok (.aload_n 0, 1) := by decide +kernel
theorem d_Mo_check_38 : decode prog_14_method_87_code 38 = .ok (.getfield 7, 3) := by decide +kernel
theorem d_Mo_check_41 : decode prog_14_method_87_code 41 = .ok (.bipush 108, 2) := by decide +kernel
theorem d_Mo_check_43 : decode prog_14_method_87_code 43 = .ok (.iload_n 3, 1) := by decide +kernel
theorem d_Mo_check_44 : decode prog_14_method_87_code 44 = .ok (.iadd, 1) := by decide +kernel
theorem d_Mo_check_45 : decode prog_14_method_87_code 45 = .ok (.iaload, 1) := by decide +kernel
theorem d_Mo_check_46 : decode prog_14_method_87_code 46 = .ok (.aload_n 0, 1) := by decide +kernel
theorem d_Mo_check_47 : decode prog_14_method_87_code 47 = .ok (.invokevirtual 234, 3) := by decide +kernel
theorem d_Mo_check_50 : decode prog_14_method_87_code 50 = .ok (.invokestatic 242, 3) := by decide +kernel
theorem d_Mo_check_53 : decode prog_14_method_87_code 53 = .ok (.if_icmp .ne 7, 3) := by decide +kernel
theorem d_Mo_check_60 : decode prog_14_method_87_code 60 = .ok (.iconst 1, 1) := by decide +kernel
theorem d_Mo_check_61 : decode prog_14_method_87_code 61 = .ok (.iload_n 3, 1) := by decide +kernel
theorem d_Mo_check_62 : decode prog_14_method_87_code 62 = .ok (.iadd, 1) := by decide +kernel
theorem d_Mo_check_63 : decode prog_14_method_87_code 63 = .ok (.istore_n 2, 1) := by decide +kernel
theorem d_Mo_check_64 : decode prog_14_method_87_code 64 = .ok (.iinc 3 1, 3) := by decide +kernel
theorem d_Mo_check_67 : decode prog_14_method_87_code 67 = .ok (.goto (-43), 3) := by decide +kernel
theorem d_Mo_check_56 : decode prog_14_method_87_code 56 = .ok (.iconst 0, 1) := by decide +kernel
theorem d_Mo_check_57 : decode prog_14_method_87_code 57 = .ok (.goto 6, 3) := by decide +kernel
set_option maxRecDepth 100000 in
theorem c_Mo_check {w : Nat} {N fm len0 len1 : Nat} {W0 W1 : Nat → Nat} {l : Launch} {d q n : Nat} {D : Nat → Int32} {A : Nat → Nat → Int32} {S : Nat → Int32} {h0 : HP} {Q : QT} (hN : N ≤ 8) (hD : DW D N W0 len0 W1 len1) (hf : fm < 2 ^ 25) (ef : S 18 = nI fm) (hw : w ≤ 20) (ew : D 7 = nI w) (hOk : ∀ r : Int32, ((r = nI 0 ∧ ∀ u, u < w → D (108 + u) = btc (stb (dsD (tgv 0 W0 len0) (tgv 1 W1 len1) N (u + 1) (upd D 7 (nI 0))).1 N)) ∨ ∃ k, k < w ∧ r = nI (1 + k) ∧ (∀ u, u < k → D (108 + u) = btc (stb (dsD (tgv 0 W0 len0) (tgv 1 W1 len1) N (u + 1) (upd D 7 (nI 0))).1 N)) ∧ ¬ D (108 + k) = btc (stb (dsD (tgv 0 W0 len0) (tgv 1 W1 len1) N (k + 1) (upd D 7 (nI 0))).1 N)) → ∀ (A1 : Nat → Nat → Int32) (f1 : Nat), (∀ j, j ≠ 2 → j ≠ 4 → j ≠ 6 → j ≠ 7 → j ≠ 8 → j ≠ 9 → A1 j = A j) → f1 ≤ fm + 40000 →  Q (some (.int r)) n (mo q (upd D 7 (nI 0)) A1 (uS S 18 (nI f1)) h0)) : Ct l M_Mo_check (d + 6) 0 0 [.ref q] n (mo q D A S h0) Q := by
  refine Ct.of (fun _ => trivial) (by decide) (Nat.le_of_ble_eq_true rfl) ?_
  have hD7 : DW (upd D 7 (nI 0)) N W0 len0 W1 len1 := hD.up hN (fun j hj => pk_un (by omega))
  refine V.aload_n d_Mo_check_0 rfl ?_
  refine V.get d_Mo_check_1 f_Mo_7_Mo mo_o rfl ?_
  refine V.bipush_ (nI 7) d_Mo_check_4 (by decide +kernel) ?_
  refine V.mldd d_Mo_check_6 (by omega) ?_
  refine V.top ew ?_
  refine V.istore_n d_Mo_check_7 (by decide) ?_
  refine V.aload_n d_Mo_check_8 rfl ?_
  refine V.get d_Mo_check_9 f_Mo_7_Mo mo_o rfl ?_
  refine V.bipush_ (nI 7) d_Mo_check_12 (by decide +kernel) ?_
  refine V.iconst_ (nI 0) d_Mo_check_14 (by decide +kernel) ?_
  refine V.mstd d_Mo_check_15 (by omega) ?_
  refine V.aload_n d_Mo_check_16 rfl ?_
  refine V.callV0 d_Mo_check_17 k_Mo_228_Mo_keepAside_MoV mo_o (Nat.le_of_ble_eq_true rfl) (by omega) (by omega) (c_Mo_keepAside ?_)
  refine V.iconst_ (nI 0) d_Mo_check_20 (by decide +kernel) ?_
  refine V.istore_n d_Mo_check_21 (by decide) ?_
  refine V.iconst_ (nI 0) d_Mo_check_22 (by decide +kernel) ?_
  refine V.istore_n d_Mo_check_23 (by decide) ?_
  refine V.eqH (h' := mo q (dsD (tgv 0 W0 len0) (tgv 1 W1 len1) N 0 (upd D 7 (nI 0))).1 (uA A 2 (cpN 106 (upd D 7 (nI 0)) (A 2))) (uS S 18 (nI fm)) h0) (by rw [show uS S 18 (nI fm) = S from uS_18 ef]; rfl) ?_
  refine V.lc (ls' := [(0, .ref q), (1, .int (nI w)), (2, .int (nI 0)), (3, .int (nI 0))]) rfl ?_
  refine up_to (G := fun k => ∀ (A1 : Nat → Nat → Int32) (f1 : Nat), (∀ j, j ≠ 2 → j ≠ 4 → j ≠ 6 → j ≠ 7 → j ≠ 8 → j ≠ 9 → A1 j = A j) → A1 2 = cpN 106 (upd D 7 (nI 0)) (A 2) → f1 ≤ fm + 500 * k → (∀ u, u < k → D (108 + u) = btc (stb (dsD (tgv 0 W0 len0) (tgv 1 W1 len1) N (u + 1) (upd D 7 (nI 0))).1 N)) → V l M_Mo_check (d + 6) 0 0 24 [(0, .ref q), (1, .int (nI w)), (2, .int (nI 0)), (3, .int (nI k))] [] n (mo q (dsD (tgv 0 W0 len0) (tgv 1 W1 len1) N k (upd D 7 (nI 0))).1 A1 (uS S 18 (nI f1)) h0) 0 0 Q) (w) ?_ (fun k hk hn => ?_) 0 (by omega) (uA A 2 (cpN 106 (upd D 7 (nI 0)) (A 2))) fm (fun j h1 _ _ _ _ _ => uA_n h1) uA_s (by omega) (fun u hu => absurd hu (by omega))
  · skip
    intro A1 f1 hA1 hA12 hf1 hall
    refine V.iload_n d_Mo_check_24 rfl ?_
    refine V.iload_n d_Mo_check_25 rfl ?_
    refine V.geN (tgt := 70) d_Mo_check_26 (by decide) (by omega) (by omega) (fun c_26 => ?_) (fun c_26 => ?_)
    · skip
      refine V.aload_n d_Mo_check_70 rfl ?_
      refine V.callV0 d_Mo_check_71 k_Mo_231_Mo_putBack_MoV mo_o (Nat.le_of_ble_eq_true rfl) (by omega) (by omega) (c_Mo_putBack ?_)
      have hbk : cpN 106 (cpN 106 (upd D 7 (nI 0)) (A 2)) (dsD (tgv 0 W0 len0) (tgv 1 W1 len1) N w (upd D 7 (nI 0))).1 = (upd D 7 (nI 0)) := bk (fun j hj => dsD_x hN (by unfold kpt; omega) _)
      rw [hA12, hbk]
      refine V.iload_n d_Mo_check_74 rfl ?_
      refine V.iret d_Mo_check_75 rfl (Nat.le_of_ble_eq_true rfl) (Nat.le_of_ble_eq_true rfl) ?_
      first
      | exact hOk _ (Or.inl ⟨rfl, hall⟩) A1 f1 hA1 (by omega)
      | exact absurd (show nI 0 = 0 by decide +kernel) c_30
    · skip
      exact absurd c_26 (by omega)
  · skip
    intro A1 f1 hA1 hA12 hf1 hall
    have hX := hD7.days (cv := tgv 0 W0 len0) (wv := tgv 1 W1 len1) hN k
    have hX1 := hX.day (cv := tgv 0 W0 len0) (wv := tgv 1 W1 len1) hN
    have hdl := dayD_len (cv := tgv 0 W0 len0) (wv := tgv 1 W1 len1) hN (D := (dsD (tgv 0 W0 len0) (tgv 1 W1 len1) N k (upd D 7 (nI 0))).1)
    rw [dsD_s] at hn
    refine V.iload_n d_Mo_check_24 rfl ?_
    refine V.iload_n d_Mo_check_25 rfl ?_
    refine V.geN (tgt := 70) d_Mo_check_26 (by decide) (by omega) (by omega) (fun c_26 => ?_) (fun c_26 => ?_)
    · skip
      first | exact absurd c_26 (by omega) | exact absurd (show nI 0 = 0 by decide +kernel) c_30
    · skip
      refine V.iload_n d_Mo_check_29 rfl ?_
      refine V.if_ne (tgt := 70) d_Mo_check_30 (by decide) (fun c_30 => ?_) (fun c_30 => ?_)
      · skip
        first | exact absurd c_26 (by omega) | exact absurd (show nI 0 = 0 by decide +kernel) c_30
      · skip
        refine V.aload_n d_Mo_check_33 rfl ?_
        refine V.callV0 d_Mo_check_34 k_Mo_186_Mo_dayGoes_MoV mo_o (Nat.le_of_ble_eq_true rfl) (by omega) (by omega) (c_Mo_dayGoes (fm := f1) hN hX.1 hX.2.1 hX.2.2.1 hX.2.2.2.1 (by omega) uS_s (fun A2 hA2 hA92 => ?_))
        rw [uS_uu]
        have he108 : (dayD (tgv 0 W0 len0) (tgv 1 W1 len1) N (dsD (tgv 0 W0 len0) (tgv 1 W1 len1) N k (upd D 7 (nI 0))).1).1 (108 + k) = D (108 + k) := by
          rw [dayD_x hN (by unfold kpt; omega), dsD_x hN (by unfold kpt; omega), pk_un (by omega)]
        refine V.aload_n d_Mo_check_37 rfl ?_
        refine V.get d_Mo_check_38 f_Mo_7_Mo mo_o rfl ?_
        refine V.bipush_ (nI 108) d_Mo_check_41 (by decide +kernel) ?_
        refine V.iload_n d_Mo_check_43 rfl ?_
        refine V.addN d_Mo_check_44 ?_
        refine V.mldd d_Mo_check_45 (by omega) ?_
        refine V.aload_n d_Mo_check_46 rfl ?_
        refine V.callV0 d_Mo_check_47 k_Mo_234_Mo_standing_MoV mo_o (Nat.le_of_ble_eq_true rfl) (by omega) (by omega) (c_Mo_standing hN hX1.1 ?_)
        refine V.callS1 d_Mo_check_50 k_Mo_242_Mo_bitsS (Nat.le_of_ble_eq_true rfl) (by omega) (by omega) (c_Mo_bits ?_)
        refine V.icmp_ne (tgt := 60) d_Mo_check_53 (by decide) (fun c_53 => ?_) (fun c_53 => ?_)
        · skip
          refine V.iconst_ (nI 1) d_Mo_check_60 (by decide +kernel) ?_
          refine V.iload_n d_Mo_check_61 rfl ?_
          refine V.addN d_Mo_check_62 ?_
          refine V.istore_n d_Mo_check_63 (by decide) ?_
          refine V.incN d_Mo_check_64 rfl (by decide) ?_
          refine V.goto (tgt := 24) d_Mo_check_67 (by decide) ?_
          refine V.iload_n d_Mo_check_24 rfl ?_
          refine V.iload_n d_Mo_check_25 rfl ?_
          refine V.geN (tgt := 70) d_Mo_check_26 (by decide) (by omega) (by omega) (fun c_26 => ?_) (fun c_26 => ?_)
          · skip
            refine V.aload_n d_Mo_check_70 rfl ?_
            refine V.callV0 d_Mo_check_71 k_Mo_231_Mo_putBack_MoV mo_o (Nat.le_of_ble_eq_true rfl) (by omega) (by omega) (c_Mo_putBack ?_)
            have hbk : cpN 106 (cpN 106 (upd D 7 (nI 0)) (A 2)) (dayD (tgv 0 W0 len0) (tgv 1 W1 len1) N (dsD (tgv 0 W0 len0) (tgv 1 W1 len1) N k (upd D 7 (nI 0))).1).1 = (upd D 7 (nI 0)) := bk (fun j hj => (dayD_x hN (by unfold kpt; omega)).trans (dsD_x hN (by unfold kpt; omega) _))
            rw [hA2 2 (by decide) (by decide) (by decide) (by decide) (by decide), hA12, hbk]
            refine V.iload_n d_Mo_check_74 rfl ?_
            refine V.iret d_Mo_check_75 rfl (Nat.le_of_ble_eq_true rfl) (Nat.le_of_ble_eq_true rfl) ?_
            first
            | exact absurd (show nI (1 + k) = nI 0 from c_30) (fun z => absurd ((nI_eq (by omega) (by decide)).mp z) (by omega))
            | (rw [he108] at c_53; exact hOk _ (Or.inr ⟨k, hk, rfl, hall, c_53⟩) A2 _ (fun j h1 h2 h3 h4 h5 h6 => (hA2 j h2 h3 h4 h5 h6).trans (hA1 j h1 h2 h3 h4 h5 h6)) (by omega))
          · skip
            refine V.iload_n d_Mo_check_29 rfl ?_
            refine V.if_ne (tgt := 70) d_Mo_check_30 (by decide) (fun c_30 => ?_) (fun c_30 => ?_)
            · skip
              refine V.aload_n d_Mo_check_70 rfl ?_
              refine V.callV0 d_Mo_check_71 k_Mo_231_Mo_putBack_MoV mo_o (Nat.le_of_ble_eq_true rfl) (by omega) (by omega) (c_Mo_putBack ?_)
              have hbk : cpN 106 (cpN 106 (upd D 7 (nI 0)) (A 2)) (dayD (tgv 0 W0 len0) (tgv 1 W1 len1) N (dsD (tgv 0 W0 len0) (tgv 1 W1 len1) N k (upd D 7 (nI 0))).1).1 = (upd D 7 (nI 0)) := bk (fun j hj => (dayD_x hN (by unfold kpt; omega)).trans (dsD_x hN (by unfold kpt; omega) _))
              rw [hA2 2 (by decide) (by decide) (by decide) (by decide) (by decide), hA12, hbk]
              refine V.iload_n d_Mo_check_74 rfl ?_
              refine V.iret d_Mo_check_75 rfl (Nat.le_of_ble_eq_true rfl) (Nat.le_of_ble_eq_true rfl) ?_
              first
              | exact absurd (show nI (1 + k) = nI 0 from c_30) (fun z => absurd ((nI_eq (by omega) (by decide)).mp z) (by omega))
              | (rw [he108] at c_53; exact hOk _ (Or.inr ⟨k, hk, rfl, hall, c_53⟩) A2 _ (fun j h1 h2 h3 h4 h5 h6 => (hA2 j h2 h3 h4 h5 h6).trans (hA1 j h1 h2 h3 h4 h5 h6)) (by omega))
            · skip
              exact absurd ((nI_eq (by omega) (by decide)).mp (show nI (1 + k) = nI 0 from c_30)) (by omega)
        · skip
          refine V.iconst_ (nI 0) d_Mo_check_56 (by decide +kernel) ?_
          refine V.goto (tgt := 63) d_Mo_check_57 (by decide) ?_
          refine V.istore_n d_Mo_check_63 (by decide) ?_
          refine V.incN d_Mo_check_64 rfl (by decide) ?_
          refine V.goto (tgt := 24) d_Mo_check_67 (by decide) ?_
          exact V.lc rfl (hn A2 _ (fun j h1 h2 h3 h4 h5 h6 => (hA2 j h2 h3 h4 h5 h6).trans (hA1 j h1 h2 h3 h4 h5 h6)) ((hA2 2 (by decide) (by decide) (by decide) (by decide) (by decide)).trans hA12) (by omega) (fun u hu => by
            by_cases hum : u = k
            · subst hum; rw [he108] at c_53; exact c_53
            · exact hall u (by omega)))
end
section
def drz (z : Int32) : Int32 := z * nI 1103515245 + nI 12345
def drv (z : Int32) : Int32 := (drz z).toUInt32 >>> ((nI 8).toUInt32 &&& Int32.toUInt32 31) |>.toInt32
theorem drv_nat (z : Int32) : ∃ m, m < 2 ^ 24 ∧ drv z = nI m := by
  have h1 := pk_ushr (drz z) (nI 8) 8 (by decide +kernel)
  have h2 : (drz z).toBitVec.toNat < 2 ^ 32 := (drz z).toBitVec.isLt
  refine ⟨(drz z).toBitVec.toNat / 2 ^ 8, by omega, ?_⟩
  apply Int32.toBitVec_inj.mp
  apply BitVec.eq_of_toNat_eq
  rw [pk_tn (by omega)]
  exact h1
def drD (D : Nat → Int32) : Nat → Int32 := upd (upd D 5 (drz (D 5))) (44 + (drv (D 5)).toNatClampNeg % 6) (nI ((drv (D 5)).toNatClampNeg / 8 % 10))
def lsD (cv wv : Int32 → Int32 → Int32 → Int32) (N n : Nat) (D : Nat → Int32) : XX := itr (fun _ X => ((dayD cv wv N (drD X.1)).1, X.2 ++ (dayD cv wv N (drD X.1)).2)) n (D, [])
theorem drD_x {D : Nat → Int32} {j : Nat} (hj : j ≠ 5) (hk : j < 44 ∨ 50 ≤ j) : drD D j = D j := by
  unfold drD
  rw [pk_un (by have := Nat.mod_lt (drv (D 5)).toNatClampNeg (show 0 < 6 by decide); omega), pk_un hj]
theorem lsD_s {cv wv : Int32 → Int32 → Int32 → Int32} {N k : Nat} {D : Nat → Int32} : lsD cv wv N (k + 1) D = ((dayD cv wv N (drD (lsD cv wv N k D).1)).1, (lsD cv wv N k D).2 ++ (dayD cv wv N (drD (lsD cv wv N k D).1)).2) := rfl
theorem DW.loose {cv wv : Int32 → Int32 → Int32 → Int32} {D : Nat → Int32} {N len0 len1 : Nat} {W0 W1 : Nat → Nat} (hN : N ≤ 8) (h : DW D N W0 len0 W1 len1) : ∀ k, DW (lsD cv wv N k D).1 N W0 len0 W1 len1 := by
  intro k
  induction k with
  | zero => exact h
  | succ k ih => exact (ih.up hN (fun j hj => drD_x (by omega) (by omega))).day hN
theorem lsD_len {cv wv : Int32 → Int32 → Int32 → Int32} {N : Nat} (hN : N ≤ 8) {D : Nat → Int32} : ∀ k, (lsD cv wv N k D).2.length ≤ 8 * k := by
  intro k
  induction k with
  | zero => exact Nat.le_refl _
  | succ k ih =>
    rw [lsD_s, List.length_append]
    have := dayD_len (cv := cv) (wv := wv) hN (D := drD (lsD cv wv N k D).1)
    omega
abbrev M_Mo_drawn : MD := (⟨"FelledByNamesModel", "drawn", "()I"⟩, prog_14_method_54_code, 1, (some .int), fun _ => True)
theorem d_Mo_drawn_0 : decode prog_14_method_54_code 0 = .ok (.aload_n 0, 1) := by decide +kernel
theorem d_Mo_drawn_1 : decode prog_14_method_54_code 1 = .ok (.getfield 7, 3) := by decide +kernel
theorem d_Mo_drawn_4 : decode prog_14_method_54_code 4 = .ok (.iconst 5, 1) := by decide +kernel
theorem d_Mo_drawn_5 : decode prog_14_method_54_code 5 = .ok (.aload_n 0, 1) := by decide +kernel
theorem d_Mo_drawn_6 : decode prog_14_method_54_code 6 = .ok (.getfield 7, 3) := by decide +kernel
theorem d_Mo_drawn_9 : decode prog_14_method_54_code 9 = .ok (.iconst 5, 1) := by decide +kernel
theorem d_Mo_drawn_10 : decode prog_14_method_54_code 10 = .ok (.iaload, 1) := by decide +kernel
theorem d_Mo_drawn_11 : decode prog_14_method_54_code 11 = .ok (.ldc 222, 2) := by decide +kernel
theorem d_Mo_drawn_13 : decode prog_14_method_54_code 13 = .ok (.imul, 1) := by decide +kernel
theorem d_Mo_drawn_14 : decode prog_14_method_54_code 14 = .ok (.sipush 12345, 3) := by decide +kernel
theorem d_Mo_drawn_17 : decode prog_14_method_54_code 17 = .ok (.iadd, 1) := by decide +kernel
theorem d_Mo_drawn_18 : decode prog_14_method_54_code 18 = .ok (.iastore, 1) := by decide +kernel
theorem d_Mo_drawn_19 : decode prog_14_method_54_code 19 = .ok (.aload_n 0, 1) := by decide +kernel
theorem d_Mo_drawn_20 : decode prog_14_method_54_code 20 = .ok (.getfield 7, 3) := by decide +kernel
theorem d_Mo_drawn_23 : decode prog_14_method_54_code 23 = .ok (.iconst 5, 1) := by decide +kernel
theorem d_Mo_drawn_24 : decode prog_14_method_54_code 24 = .ok (.iaload, 1) := by decide +kernel
theorem d_Mo_drawn_25 : decode prog_14_method_54_code 25 = .ok (.bipush 8, 2) := by decide +kernel
theorem d_Mo_drawn_27 : decode prog_14_method_54_code 27 = .ok (.iushr, 1) := by decide +kernel
theorem d_Mo_drawn_28 : decode prog_14_method_54_code 28 = .ok (.ireturn, 1) := by decide +kernel
set_option maxRecDepth 100000 in
theorem c_Mo_drawn  {l : Launch} {d q n : Nat} {D : Nat → Int32} {A : Nat → Nat → Int32} {S : Nat → Int32} {h0 : HP} {Q : QT} (hQ : Q (some (.int (drv (D 5)))) n (mo q (upd D 5 (drz (D 5))) A S h0)) : Ct l M_Mo_drawn d 0 0 [.ref q] n (mo q D A S h0) Q := by
  refine Ct.of (fun _ => trivial) (by decide) (Nat.le_of_ble_eq_true rfl) ?_
  refine V.aload_n d_Mo_drawn_0 rfl ?_
  refine V.get d_Mo_drawn_1 f_Mo_7_Mo mo_o rfl ?_
  refine V.iconst_ (nI 5) d_Mo_drawn_4 (by decide +kernel) ?_
  refine V.aload_n d_Mo_drawn_5 rfl ?_
  refine V.get d_Mo_drawn_6 f_Mo_7_Mo mo_o rfl ?_
  refine V.iconst_ (nI 5) d_Mo_drawn_9 (by decide +kernel) ?_
  refine V.mldd d_Mo_drawn_10 (by omega) ?_
  refine V.ldc (v := 1103515245) d_Mo_drawn_11 (tm 1346 (by decide +kernel) rfl) ?_
  refine V.top (y := nI 1103515245) rfl ?_
  refine V.imul d_Mo_drawn_13 ?_
  refine V.sipush_ (nI 12345) d_Mo_drawn_14 (by decide +kernel) ?_
  refine V.iadd d_Mo_drawn_17 ?_
  refine V.mstd d_Mo_drawn_18 (by omega) ?_
  refine V.aload_n d_Mo_drawn_19 rfl ?_
  refine V.get d_Mo_drawn_20 f_Mo_7_Mo mo_o rfl ?_
  refine V.iconst_ (nI 5) d_Mo_drawn_23 (by decide +kernel) ?_
  refine V.mldd d_Mo_drawn_24 (by omega) ?_
  rw [pk_us]
  refine V.bipush_ (nI 8) d_Mo_drawn_25 (by decide +kernel) ?_
  refine V.iushr d_Mo_drawn_27 ?_
  refine V.iret d_Mo_drawn_28 rfl (Nat.le_of_ble_eq_true rfl) (Nat.le_of_ble_eq_true rfl) ?_
  exact hQ
abbrev M_Mo_loose : MD := (⟨"FelledByNamesModel", "loose", "(I)I"⟩, prog_14_method_55_code, 4, (some .int), fun _ => True)
theorem d_Mo_loose_0 : decode prog_14_method_55_code 0 = .ok (.iload_n 1, 1) := by decide +kernel
theorem d_Mo_loose_1 : decode prog_14_method_55_code 1 = .ok (.i2l, 1) := by decide +kernel
theorem d_Mo_loose_2 : decode prog_14_method_55_code 2 = .ok (.lconst 1, 1) := by decide +kernel
theorem d_Mo_loose_3 : decode prog_14_method_55_code 3 = .ok (.ldc2_w 223, 3) := by decide +kernel
theorem d_Mo_loose_6 : decode prog_14_method_55_code 6 = .ok (.invokestatic 56, 3) := by decide +kernel
theorem d_Mo_loose_9 : decode prog_14_method_55_code 9 = .ok (.ifCond .ne 9, 3) := by decide +kernel
theorem d_Mo_loose_18 : decode prog_14_method_55_code 18 = .ok (.aload_n 0, 1) := by decide +kernel
theorem d_Mo_loose_19 : decode prog_14_method_55_code 19 = .ok (.getfield 7, 3) := by decide +kernel
theorem d_Mo_loose_22 : decode prog_14_method_55_code 22 = .ok (.iconst 1, 1) := by decide +kernel
theorem d_Mo_loose_23 : decode prog_14_method_55_code 23 = .ok (.iaload, 1) := by decide +kernel
theorem d_Mo_loose_24 : decode prog_14_method_55_code 24 = .ok (.iload_n 1, 1) := by decide +kernel
theorem d_Mo_loose_25 : decode prog_14_method_55_code 25 = .ok (.iadd, 1) := by decide +kernel
theorem d_Mo_loose_26 : decode prog_14_method_55_code 26 = .ok (.sipush 9999, 3) := by decide +kernel
theorem d_Mo_loose_29 : decode prog_14_method_55_code 29 = .ok (.if_icmp .le 9, 3) := by decide +kernel
theorem d_Mo_loose_38 : decode prog_14_method_55_code 38 = .ok (.aload_n 0, 1) := by decide +kernel
theorem d_Mo_loose_39 : decode prog_14_method_55_code 39 = .ok (.iconst 0, 1) := by decide +kernel
theorem d_Mo_loose_40 : decode prog_14_method_55_code 40 = .ok (.putfield 168, 3) := by decide +kernel
theorem d_Mo_loose_43 : decode prog_14_method_55_code 43 = .ok (.iconst 0, 1) := by decide +kernel
theorem d_Mo_loose_44 : decode prog_14_method_55_code 44 = .ok (.istore_n 2, 1) := by decide +kernel
theorem d_Mo_loose_45 : decode prog_14_method_55_code 45 = .ok (.iload_n 2, 1) := by decide +kernel
theorem d_Mo_loose_46 : decode prog_14_method_55_code 46 = .ok (.iload_n 1, 1) := by decide +kernel
theorem d_Mo_loose_47 : decode prog_14_method_55_code 47 = .ok (.if_icmp .ge 37, 3) := by decide +kernel
theorem d_Mo_loose_84 : decode prog_14_method_55_code 84 = .ok (.aload_n 0, 1) := by decide +kernel
theorem d_Mo_loose_85 : decode prog_14_method_55_code 85 = .ok (.getfield 168, 3) := by decide +kernel
theorem d_Mo_loose_88 : decode prog_14_method_55_code 88 = .ok (.ireturn, 1) := by decide +kernel
theorem d_Mo_loose_50 : decode prog_14_method_55_code 50 = .ok (.aload_n 0, 1) := by decide +kernel
theorem d_Mo_loose_51 : decode prog_14_method_55_code 51 = .ok (.invokevirtual 225, 3) := by decide +kernel
theorem kB_Mo_drawn : kB M_Mo_drawn 0 := ⟨tm 15 (by decide +kernel) rfl, tm 1345 (by decide +kernel) rfl, ⟨by decide, by decide, by decide +kernel⟩, by decide⟩
theorem k_Mo_225_Mo_drawn_MoV : kV "FelledByNamesModel" 225 5 M_Mo_drawn 0 := ⟨kB_Mo_drawn, tm 1342 (by decide +kernel) rfl, tm 1344 (by decide +kernel) rfl, tp 40 (by decide +kernel) rfl, _, rfl, rfl⟩
theorem d_Mo_loose_54 : decode prog_14_method_55_code 54 = .ok (.istore_n 3, 1) := by decide +kernel
theorem d_Mo_loose_55 : decode prog_14_method_55_code 55 = .ok (.aload_n 0, 1) := by decide +kernel
theorem d_Mo_loose_56 : decode prog_14_method_55_code 56 = .ok (.getfield 7, 3) := by decide +kernel
theorem d_Mo_loose_59 : decode prog_14_method_55_code 59 = .ok (.bipush 44, 2) := by decide +kernel
theorem d_Mo_loose_61 : decode prog_14_method_55_code 61 = .ok (.iload_n 3, 1) := by decide +kernel
theorem d_Mo_loose_62 : decode prog_14_method_55_code 62 = .ok (.bipush 6, 2) := by decide +kernel
theorem d_Mo_loose_64 : decode prog_14_method_55_code 64 = .ok (.irem, 1) := by decide +kernel
theorem d_Mo_loose_65 : decode prog_14_method_55_code 65 = .ok (.iadd, 1) := by decide +kernel
theorem d_Mo_loose_66 : decode prog_14_method_55_code 66 = .ok (.iload_n 3, 1) := by decide +kernel
theorem d_Mo_loose_67 : decode prog_14_method_55_code 67 = .ok (.bipush 8, 2) := by decide +kernel
theorem d_Mo_loose_69 : decode prog_14_method_55_code 69 = .ok (.idiv, 1) := by decide +kernel
theorem d_Mo_loose_70 : decode prog_14_method_55_code 70 = .ok (.bipush 10, 2) := by decide +kernel
theorem d_Mo_loose_72 : decode prog_14_method_55_code 72 = .ok (.irem, 1) := by decide +kernel
theorem d_Mo_loose_73 : decode prog_14_method_55_code 73 = .ok (.iastore, 1) := by decide +kernel
theorem d_Mo_loose_74 : decode prog_14_method_55_code 74 = .ok (.aload_n 0, 1) := by decide +kernel
theorem d_Mo_loose_75 : decode prog_14_method_55_code 75 = .ok (.invokevirtual 186, 3) := by decide +kernel
theorem d_Mo_loose_78 : decode prog_14_method_55_code 78 = .ok (.iinc 2 1, 3) := by decide +kernel
theorem d_Mo_loose_81 : decode prog_14_method_55_code 81 = .ok (.goto (-36), 3) := by decide +kernel
theorem d_Mo_loose_32 : decode prog_14_method_55_code 32 = .ok (.aload_n 0, 1) := by decide +kernel
theorem d_Mo_loose_33 : decode prog_14_method_55_code 33 = .ok (.iconst 3, 1) := by decide +kernel
theorem d_Mo_loose_34 : decode prog_14_method_55_code 34 = .ok (.invokevirtual 138, 3) := by decide +kernel
theorem d_Mo_loose_37 : decode prog_14_method_55_code 37 = .ok (.ireturn, 1) := by decide +kernel
theorem d_Mo_loose_12 : decode prog_14_method_55_code 12 = .ok (.aload_n 0, 1) := by decide +kernel
theorem d_Mo_loose_13 : decode prog_14_method_55_code 13 = .ok (.iconst 1, 1) := by decide +kernel
theorem d_Mo_loose_14 : decode prog_14_method_55_code 14 = .ok (.invokevirtual 138, 3) := by decide +kernel
theorem d_Mo_loose_17 : decode prog_14_method_55_code 17 = .ok (.ireturn, 1) := by decide +kernel
set_option maxRecDepth 100000 in
theorem c_Mo_loose {dy : Nat} {x : Int32} {N fm len0 len1 : Nat} {W0 W1 : Nat → Nat} {l : Launch} {d q n : Nat} {D : Nat → Int32} {A : Nat → Nat → Int32} {S : Nat → Int32} {h0 : HP} {Q : QT} (hN : N ≤ 8) (hD : DW D N W0 len0 W1 len1) (hf : fm < 2 ^ 25) (ef : S 18 = nI fm) (hdy : dy ≤ 9999) (ed : D 1 = nI dy) (hE : wi x (nI 1) (nI 40) = false → Q (some (.int (-1000000000 - nI 1))) n (mo q D (uA A 3 (upd (A 3) 1 (A 3 1 + nI 1))) S h0)) (hS : ∀ k, 1 ≤ k → k ≤ 40 → x = nI k → 9999 < dy + k → Q (some (.int (-1000000000 - nI 3))) n (mo q D (uA A 3 (upd (A 3) 3 (A 3 3 + nI 1))) S h0)) (hOk : ∀ k, 1 ≤ k → k ≤ 40 → x = nI k → dy + k ≤ 9999 → ∀ (A1 : Nat → Nat → Int32), (∀ j, j ≠ 4 → j ≠ 6 → j ≠ 7 → j ≠ 8 → j ≠ 9 → A1 j = A j) → Q (some (.int (nI (lsD (tgv 0 W0 len0) (tgv 1 W1 len1) N k D).2.length))) n (mo q (lsD (tgv 0 W0 len0) (tgv 1 W1 len1) N k D).1 A1 (uS S 18 (nI (lsD (tgv 0 W0 len0) (tgv 1 W1 len1) N k D).2.length)) h0)) : Ct l M_Mo_loose (d + 6) 0 0 [.ref q, .int x] n (mo q D A S h0) Q := by
  refine Ct.of (fun _ => trivial) (by decide) (Nat.le_of_ble_eq_true rfl) ?_
  refine V.iload_n d_Mo_loose_0 rfl ?_
  refine V.i2l d_Mo_loose_1 ?_
  refine V.lconst_ ((nI 1).toInt64) d_Mo_loose_2 (by decide +kernel) ?_
  refine V.ldc2 (v := 40) d_Mo_loose_3 (tm 1341 (by decide +kernel) rfl) ?_
  refine V.eqS (st' := .long ((nI 40).toInt64) :: _) rfl ?_
  refine V.callS3 d_Mo_loose_6 k_Mo_56_Mo_inS (Nat.le_of_ble_eq_true rfl) (by omega) (by omega) (c_Mo_in ?_)
  refine V.ifneB (tgt := 18) d_Mo_loose_9 (by decide) (fun c_9 => ?_) (fun c_9 => ?_)
  · skip
    obtain ⟨k, h1k, hk, rfl⟩ := wi_nat1 (by decide) c_9
    refine V.aload_n d_Mo_loose_18 rfl ?_
    refine V.get d_Mo_loose_19 f_Mo_7_Mo mo_o rfl ?_
    refine V.iconst_ (nI 1) d_Mo_loose_22 (by decide +kernel) ?_
    refine V.mldd d_Mo_loose_23 (by omega) ?_
    refine V.top ed ?_
    refine V.iload_n d_Mo_loose_24 rfl ?_
    refine V.addN d_Mo_loose_25 ?_
    refine V.sipush_ (nI 9999) d_Mo_loose_26 (by decide +kernel) ?_
    refine V.leN (tgt := 38) d_Mo_loose_29 (by decide) (by omega) (by omega) (fun c_29 => ?_) (fun c_29 => ?_)
    · skip
      refine V.aload_n d_Mo_loose_38 rfl ?_
      refine V.iconst_ (nI 0) d_Mo_loose_39 (by decide +kernel) ?_
      refine V.mput d_Mo_loose_40 f_Mo_168_Mo fp_Mo_18 rfl (by decide) ?_
      refine V.iconst_ (nI 0) d_Mo_loose_43 (by decide +kernel) ?_
      refine V.istore_n d_Mo_loose_44 (by decide) ?_
      refine V.eqH (h' := mo q (lsD (tgv 0 W0 len0) (tgv 1 W1 len1) N 0 D).1 A (uS S 18 (nI (lsD (tgv 0 W0 len0) (tgv 1 W1 len1) N 0 D).2.length)) h0) rfl ?_
      refine V.lc (ls' := [(0, .ref q), (1, .int (nI k)), (2, .int (nI 0))]) rfl ?_
      refine up_to (G := fun m => ∀ A1 : Nat → Nat → Int32, (∀ j, j ≠ 4 → j ≠ 6 → j ≠ 7 → j ≠ 8 → j ≠ 9 → A1 j = A j) → V l M_Mo_loose (d + 6) 0 0 45 [(0, .ref q), (1, .int (nI k)), (2, .int (nI m))] [] n (mo q (lsD (tgv 0 W0 len0) (tgv 1 W1 len1) N m D).1 A1 (uS S 18 (nI (lsD (tgv 0 W0 len0) (tgv 1 W1 len1) N m D).2.length)) h0) 0 0 Q) (k) ?_ (fun m hm hn => ?_) 0 (by omega) A (fun _ _ _ _ _ _ => rfl)
      · skip
        intro A1 hA1
        refine V.iload_n d_Mo_loose_45 rfl ?_
        refine V.iload_n d_Mo_loose_46 rfl ?_
        refine V.geN (tgt := 84) d_Mo_loose_47 (by decide) (by omega) (by omega) (fun c_47 => ?_) (fun c_47 => ?_)
        · skip
          refine V.aload_n d_Mo_loose_84 rfl ?_
          refine V.get d_Mo_loose_85 f_Mo_168_Mo mo_o rfl ?_
          rw [uS_s]
          refine V.iret d_Mo_loose_88 rfl (Nat.le_of_ble_eq_true rfl) (Nat.le_of_ble_eq_true rfl) ?_
          exact hOk k h1k hk rfl (by omega) A1 hA1
        · skip
          exact absurd c_47 (by omega)
      · skip
        intro A1 hA1
        have hX := (hD.loose (cv := tgv 0 W0 len0) (wv := tgv 1 W1 len1) hN m).up hN (fun j hj => drD_x (D := (lsD (tgv 0 W0 len0) (tgv 1 W1 len1) N m D).1) (by omega) (by omega))
        have hlen := lsD_len (cv := tgv 0 W0 len0) (wv := tgv 1 W1 len1) hN (D := D) m
        rw [lsD_s] at hn
        obtain ⟨v, hv, ev⟩ := drv_nat ((lsD (tgv 0 W0 len0) (tgv 1 W1 len1) N m D).1 5)
        refine V.iload_n d_Mo_loose_45 rfl ?_
        refine V.iload_n d_Mo_loose_46 rfl ?_
        refine V.geN (tgt := 84) d_Mo_loose_47 (by decide) (by omega) (by omega) (fun c_47 => ?_) (fun c_47 => ?_)
        · skip
          exact absurd c_47 (by omega)
        · skip
          refine V.aload_n d_Mo_loose_50 rfl ?_
          refine V.callV0 d_Mo_loose_51 k_Mo_225_Mo_drawn_MoV mo_o (Nat.le_of_ble_eq_true rfl) (by omega) (by omega) (c_Mo_drawn ?_)
          refine V.top ev ?_
          refine V.istore_n d_Mo_loose_54 (by decide) ?_
          refine V.aload_n d_Mo_loose_55 rfl ?_
          refine V.get d_Mo_loose_56 f_Mo_7_Mo mo_o rfl ?_
          refine V.bipush_ (nI 44) d_Mo_loose_59 (by decide +kernel) ?_
          refine V.iload_n d_Mo_loose_61 rfl ?_
          refine V.bipush_ (nI 6) d_Mo_loose_62 (by decide +kernel) ?_
          refine V.remN d_Mo_loose_64 (by omega) (by omega) (by omega) ?_
          refine V.addN d_Mo_loose_65 ?_
          refine V.iload_n d_Mo_loose_66 rfl ?_
          refine V.bipush_ (nI 8) d_Mo_loose_67 (by decide +kernel) ?_
          refine V.divN d_Mo_loose_69 (by omega) (by omega) (by omega) ?_
          refine V.bipush_ (nI 10) d_Mo_loose_70 (by decide +kernel) ?_
          refine V.remN d_Mo_loose_72 (by omega) (by omega) (by omega) ?_
          refine V.mstd d_Mo_loose_73 (by omega) ?_
          refine V.eqH (h' := mo q (drD (lsD (tgv 0 W0 len0) (tgv 1 W1 len1) N m D).1) A1 (uS S 18 (nI (lsD (tgv 0 W0 len0) (tgv 1 W1 len1) N m D).2.length)) h0) (by unfold drD; rw [ev, nI_clamp (by omega)]) ?_
          refine V.aload_n d_Mo_loose_74 rfl ?_
          refine V.callV0 d_Mo_loose_75 k_Mo_186_Mo_dayGoes_MoV mo_o (Nat.le_of_ble_eq_true rfl) (by omega) (by omega) (c_Mo_dayGoes hN hX.1 hX.2.1 hX.2.2.1 hX.2.2.2.1 (by omega) uS_s (fun A2 hA2 hA92 => ?_))
          refine V.incN d_Mo_loose_78 rfl (by decide) ?_
          refine V.goto (tgt := 45) d_Mo_loose_81 (by decide) ?_
          rw [uS_uu]
          refine V.lc (ls' := [(0, .ref q), (1, .int (nI k)), (2, .int (nI (m + 1)))]) rfl ?_
          refine V.eqH ?_ (hn A2 (fun j h1 h2 h3 h4 h5 => (hA2 j h1 h2 h3 h4 h5).trans (hA1 j h1 h2 h3 h4 h5)))
          rw [List.length_append]
    · skip
      refine V.aload_n d_Mo_loose_32 rfl ?_
      refine V.iconst_ (nI 3) d_Mo_loose_33 (by decide +kernel) ?_
      refine V.callV1 d_Mo_loose_34 k_Mo_138_Mo_finds_MoV mo_o (Nat.le_of_ble_eq_true rfl) (by omega) (by omega) (c_Mo_finds (by omega) ?_)
      refine V.iret d_Mo_loose_37 rfl (Nat.le_of_ble_eq_true rfl) (Nat.le_of_ble_eq_true rfl) ?_
      exact hS k h1k hk rfl (by omega)
  · skip
    refine V.aload_n d_Mo_loose_12 rfl ?_
    refine V.iconst_ (nI 1) d_Mo_loose_13 (by decide +kernel) ?_
    refine V.callV1 d_Mo_loose_14 k_Mo_138_Mo_finds_MoV mo_o (Nat.le_of_ble_eq_true rfl) (by omega) (by omega) (c_Mo_finds (by omega) ?_)
    refine V.iret d_Mo_loose_17 rfl (Nat.le_of_ble_eq_true rfl) (Nat.le_of_ble_eq_true rfl) ?_
    exact hE c_9
end
section
abbrev M_Mo_law : MD := (⟨"FelledByNamesModel", "law", "(IIII)I"⟩, prog_14_method_32_code, 5, (some .int), fun _ => True)
theorem d_Mo_law_0 : decode prog_14_method_32_code 0 = .ok (.iload_n 1, 1) := by decide +kernel
theorem d_Mo_law_1 : decode prog_14_method_32_code 1 = .ok (.i2l, 1) := by decide +kernel
theorem d_Mo_law_2 : decode prog_14_method_32_code 2 = .ok (.lconst 0, 1) := by decide +kernel
theorem d_Mo_law_3 : decode prog_14_method_32_code 3 = .ok (.lconst 1, 1) := by decide +kernel
theorem d_Mo_law_4 : decode prog_14_method_32_code 4 = .ok (.invokestatic 56, 3) := by decide +kernel
theorem d_Mo_law_7 : decode prog_14_method_32_code 7 = .ok (.ifCond .eq 15, 3) := by decide +kernel
theorem d_Mo_law_22 : decode prog_14_method_32_code 22 = .ok (.aload_n 0, 1) := by decide +kernel
theorem d_Mo_law_23 : decode prog_14_method_32_code 23 = .ok (.iconst 1, 1) := by decide +kernel
theorem d_Mo_law_24 : decode prog_14_method_32_code 24 = .ok (.invokevirtual 138, 3) := by decide +kernel
theorem d_Mo_law_27 : decode prog_14_method_32_code 27 = .ok (.ireturn, 1) := by decide +kernel
theorem d_Mo_law_10 : decode prog_14_method_32_code 10 = .ok (.aload_n 0, 1) := by decide +kernel
theorem d_Mo_law_11 : decode prog_14_method_32_code 11 = .ok (.iload_n 1, 1) := by decide +kernel
theorem d_Mo_law_12 : decode prog_14_method_32_code 12 = .ok (.iload_n 2, 1) := by decide +kernel
theorem d_Mo_law_13 : decode prog_14_method_32_code 13 = .ok (.iload_n 3, 1) := by decide +kernel
theorem d_Mo_law_14 : decode prog_14_method_32_code 14 = .ok (.iload 4, 2) := by decide +kernel
theorem d_Mo_law_16 : decode prog_14_method_32_code 16 = .ok (.invokevirtual 154, 3) := by decide +kernel
theorem d_Mo_law_19 : decode prog_14_method_32_code 19 = .ok (.goto 8, 3) := by decide +kernel
set_option maxRecDepth 100000 in
theorem c_Mo_law {x a b c : Int32} {N fm len0 len1 : Nat} {W0 W1 : Nat → Nat} {l : Launch} {d q n : Nat} {D : Nat → Int32} {A : Nat → Nat → Int32} {S : Nat → Int32} {h0 : HP} {Q : QT} (hN : N ≤ 8) (hD : DW D N W0 len0 W1 len1) (hf : fm < 2 ^ 25) (ef : S 18 = nI fm) (hE : wi x (nI 0) (nI 1) = false → Q (some (.int (-1000000000 - nI 1))) n (mo q D (uA A 3 (upd (A 3) 1 (A 3 1 + nI 1))) S h0)) (hOk : ∀ u, u ≤ 1 → x = nI u → ∀ (A1 : Nat → Nat → Int32), (∀ j, j ≠ 4 → j ≠ 6 → A1 j = A j) → Q (some (.int (if u = 0 then tgv 0 W0 len0 a b c else tgv 1 W1 len1 a b c))) n (mo q D A1 S h0)) : Ct l M_Mo_law (d + 3) 0 0 [.ref q, .int x, .int a, .int b, .int c] n (mo q D A S h0) Q := by
  refine Ct.of (fun _ => trivial) (by decide) (Nat.le_of_ble_eq_true rfl) ?_
  refine V.iload_n d_Mo_law_0 rfl ?_
  refine V.i2l d_Mo_law_1 ?_
  refine V.lconst_ ((nI 0).toInt64) d_Mo_law_2 (by decide +kernel) ?_
  refine V.lconst_ ((nI 1).toInt64) d_Mo_law_3 (by decide +kernel) ?_
  refine V.callS3 d_Mo_law_4 k_Mo_56_Mo_inS (Nat.le_of_ble_eq_true rfl) (by omega) (by omega) (c_Mo_in ?_)
  refine V.ifeqB (tgt := 22) d_Mo_law_7 (by decide) (fun c_7 => ?_) (fun c_7 => ?_)
  · skip
    refine V.aload_n d_Mo_law_22 rfl ?_
    refine V.iconst_ (nI 1) d_Mo_law_23 (by decide +kernel) ?_
    refine V.callV1 d_Mo_law_24 k_Mo_138_Mo_finds_MoV mo_o (Nat.le_of_ble_eq_true rfl) (by omega) (by omega) (c_Mo_finds (by omega) ?_)
    refine V.iret d_Mo_law_27 rfl (Nat.le_of_ble_eq_true rfl) (Nat.le_of_ble_eq_true rfl) ?_
    exact hE c_7
  · skip
    obtain ⟨u, hu, rfl⟩ := wi_nat (by decide) c_7
    rcases (show u = 0 ∨ u = 1 by omega) with rfl | rfl
    · have hCu := hD.2.2.1
      refine V.aload_n d_Mo_law_10 rfl ?_
      refine V.iload_n d_Mo_law_11 rfl ?_
      refine V.iload_n d_Mo_law_12 rfl ?_
      refine V.iload_n d_Mo_law_13 rfl ?_
      refine V.iload d_Mo_law_14 rfl ?_
      refine V.callV4 d_Mo_law_16 k_Mo_154_Mo_textGives_MoV mo_o (Nat.le_of_ble_eq_true rfl) (by omega) (by omega) (c_Mo_textGives (by omega) hCu (fun A1 r1 hA1 er1 => ?_))
      refine V.goto (tgt := 27) d_Mo_law_19 (by decide) ?_
      refine V.iret d_Mo_law_27 rfl (Nat.le_of_ble_eq_true rfl) (Nat.le_of_ble_eq_true rfl) ?_
      have hOk' := hOk 0 (by omega) rfl A1 hA1
      rw [if_pos rfl] at hOk'
      subst er1
      exact hOk'
    · have hCu := hD.2.2.2.1
      refine V.aload_n d_Mo_law_10 rfl ?_
      refine V.iload_n d_Mo_law_11 rfl ?_
      refine V.iload_n d_Mo_law_12 rfl ?_
      refine V.iload_n d_Mo_law_13 rfl ?_
      refine V.iload d_Mo_law_14 rfl ?_
      refine V.callV4 d_Mo_law_16 k_Mo_154_Mo_textGives_MoV mo_o (Nat.le_of_ble_eq_true rfl) (by omega) (by omega) (c_Mo_textGives (by omega) hCu (fun A1 r1 hA1 er1 => ?_))
      refine V.goto (tgt := 27) d_Mo_law_19 (by decide) ?_
      refine V.iret d_Mo_law_27 rfl (Nat.le_of_ble_eq_true rfl) (Nat.le_of_ble_eq_true rfl) ?_
      have hOk' := hOk 1 (by omega) rfl A1 hA1
      rw [if_neg (by decide)] at hOk'
      subst er1
      exact hOk'
def fdb (w : Int64) (k : Nat) : Int32 := ((w >>> ((nI (8 * k)).toInt64 &&& 63)) &&& (nI 255).toInt64).toInt32
def fdD (w : Int64) (t : Nat) (D : Nat → Int32) : Nat → Nat → Int32 := fun k => itr (fun k E => upd (upd E (228 + (t + k)) (fdb w k)) 6 (nI (t + k + 1))) k (upd D 6 (nI t))
theorem fdD_s {w : Int64} {t k : Nat} {D : Nat → Int32} : fdD w t D (k + 1) = upd (upd (fdD w t D k) (228 + (t + k)) (fdb w k)) 6 (nI (t + k + 1)) := rfl
theorem fdD_6 {w : Int64} {t : Nat} {D : Nat → Int32} : ∀ k, fdD w t D k 6 = nI (t + k) := by
  intro k
  cases k with
  | zero => rfl
  | succ k => rw [fdD_s, pk_us, Nat.add_assoc]
abbrev M_Mo_feed : MD := (⟨"FelledByNamesModel", "feed", "(JI)I"⟩, prog_14_method_29_code, 5, (some .int), fun _ => True)
theorem d_Mo_feed_0 : decode prog_14_method_29_code 0 = .ok (.iload_n 3, 1) := by decide +kernel
theorem d_Mo_feed_1 : decode prog_14_method_29_code 1 = .ok (.i2l, 1) := by decide +kernel
theorem d_Mo_feed_2 : decode prog_14_method_29_code 2 = .ok (.lconst 1, 1) := by decide +kernel
theorem d_Mo_feed_3 : decode prog_14_method_29_code 3 = .ok (.ldc2_w 136, 3) := by decide +kernel
theorem d_Mo_feed_6 : decode prog_14_method_29_code 6 = .ok (.invokestatic 56, 3) := by decide +kernel
theorem d_Mo_feed_9 : decode prog_14_method_29_code 9 = .ok (.ifCond .ne 9, 3) := by decide +kernel
theorem d_Mo_feed_18 : decode prog_14_method_29_code 18 = .ok (.aload_n 0, 1) := by decide +kernel
theorem d_Mo_feed_19 : decode prog_14_method_29_code 19 = .ok (.getfield 7, 3) := by decide +kernel
theorem d_Mo_feed_22 : decode prog_14_method_29_code 22 = .ok (.bipush 6, 2) := by decide +kernel
theorem d_Mo_feed_24 : decode prog_14_method_29_code 24 = .ok (.iaload, 1) := by decide +kernel
theorem d_Mo_feed_25 : decode prog_14_method_29_code 25 = .ok (.iload_n 3, 1) := by decide +kernel
theorem d_Mo_feed_26 : decode prog_14_method_29_code 26 = .ok (.iadd, 1) := by decide +kernel
theorem d_Mo_feed_27 : decode prog_14_method_29_code 27 = .ok (.bipush 50, 2) := by decide +kernel
theorem d_Mo_feed_29 : decode prog_14_method_29_code 29 = .ok (.if_icmp .le 9, 3) := by decide +kernel
theorem d_Mo_feed_38 : decode prog_14_method_29_code 38 = .ok (.iconst 0, 1) := by decide +kernel
theorem d_Mo_feed_39 : decode prog_14_method_29_code 39 = .ok (.istore 4, 2) := by decide +kernel
theorem d_Mo_feed_41 : decode prog_14_method_29_code 41 = .ok (.iload 4, 2) := by decide +kernel
theorem d_Mo_feed_43 : decode prog_14_method_29_code 43 = .ok (.iload_n 3, 1) := by decide +kernel
theorem d_Mo_feed_44 : decode prog_14_method_29_code 44 = .ok (.if_icmp .ge 48, 3) := by decide +kernel
theorem d_Mo_feed_92 : decode prog_14_method_29_code 92 = .ok (.aload_n 0, 1) := by decide +kernel
theorem d_Mo_feed_93 : decode prog_14_method_29_code 93 = .ok (.getfield 7, 3) := by decide +kernel
theorem d_Mo_feed_96 : decode prog_14_method_29_code 96 = .ok (.bipush 6, 2) := by decide +kernel
theorem d_Mo_feed_98 : decode prog_14_method_29_code 98 = .ok (.iaload, 1) := by decide +kernel
theorem d_Mo_feed_99 : decode prog_14_method_29_code 99 = .ok (.ireturn, 1) := by decide +kernel
theorem d_Mo_feed_47 : decode prog_14_method_29_code 47 = .ok (.aload_n 0, 1) := by decide +kernel
theorem d_Mo_feed_48 : decode prog_14_method_29_code 48 = .ok (.getfield 7, 3) := by decide +kernel
theorem d_Mo_feed_51 : decode prog_14_method_29_code 51 = .ok (.sipush 228, 3) := by decide +kernel
theorem d_Mo_feed_54 : decode prog_14_method_29_code 54 = .ok (.aload_n 0, 1) := by decide +kernel
theorem d_Mo_feed_55 : decode prog_14_method_29_code 55 = .ok (.getfield 7, 3) := by decide +kernel
theorem d_Mo_feed_58 : decode prog_14_method_29_code 58 = .ok (.bipush 6, 2) := by decide +kernel
theorem d_Mo_feed_60 : decode prog_14_method_29_code 60 = .ok (.iaload, 1) := by decide +kernel
theorem d_Mo_feed_61 : decode prog_14_method_29_code 61 = .ok (.iadd, 1) := by decide +kernel
theorem d_Mo_feed_62 : decode prog_14_method_29_code 62 = .ok (.lload_n 1, 1) := by decide +kernel
theorem d_Mo_feed_63 : decode prog_14_method_29_code 63 = .ok (.bipush 8, 2) := by decide +kernel
theorem d_Mo_feed_65 : decode prog_14_method_29_code 65 = .ok (.iload 4, 2) := by decide +kernel
theorem d_Mo_feed_67 : decode prog_14_method_29_code 67 = .ok (.imul, 1) := by decide +kernel
theorem d_Mo_feed_68 : decode prog_14_method_29_code 68 = .ok (.lshr, 1) := by decide +kernel
theorem d_Mo_feed_69 : decode prog_14_method_29_code 69 = .ok (.ldc2_w 141, 3) := by decide +kernel
theorem d_Mo_feed_72 : decode prog_14_method_29_code 72 = .ok (.land, 1) := by decide +kernel
theorem d_Mo_feed_73 : decode prog_14_method_29_code 73 = .ok (.l2i, 1) := by decide +kernel
theorem d_Mo_feed_74 : decode prog_14_method_29_code 74 = .ok (.iastore, 1) := by decide +kernel
theorem d_Mo_feed_75 : decode prog_14_method_29_code 75 = .ok (.aload_n 0, 1) := by decide +kernel
theorem d_Mo_feed_76 : decode prog_14_method_29_code 76 = .ok (.getfield 7, 3) := by decide +kernel
theorem d_Mo_feed_79 : decode prog_14_method_29_code 79 = .ok (.bipush 6, 2) := by decide +kernel
theorem d_Mo_feed_81 : decode prog_14_method_29_code 81 = .ok (.dup2, 1) := by decide +kernel
theorem d_Mo_feed_82 : decode prog_14_method_29_code 82 = .ok (.iaload, 1) := by decide +kernel
theorem d_Mo_feed_83 : decode prog_14_method_29_code 83 = .ok (.iconst 1, 1) := by decide +kernel
theorem d_Mo_feed_84 : decode prog_14_method_29_code 84 = .ok (.iadd, 1) := by decide +kernel
theorem d_Mo_feed_85 : decode prog_14_method_29_code 85 = .ok (.iastore, 1) := by decide +kernel
theorem d_Mo_feed_86 : decode prog_14_method_29_code 86 = .ok (.iinc 4 1, 3) := by decide +kernel
theorem d_Mo_feed_89 : decode prog_14_method_29_code 89 = .ok (.goto (-48), 3) := by decide +kernel
theorem d_Mo_feed_32 : decode prog_14_method_29_code 32 = .ok (.aload_n 0, 1) := by decide +kernel
theorem d_Mo_feed_33 : decode prog_14_method_29_code 33 = .ok (.iconst 4, 1) := by decide +kernel
theorem d_Mo_feed_34 : decode prog_14_method_29_code 34 = .ok (.invokevirtual 138, 3) := by decide +kernel
theorem d_Mo_feed_37 : decode prog_14_method_29_code 37 = .ok (.ireturn, 1) := by decide +kernel
theorem d_Mo_feed_12 : decode prog_14_method_29_code 12 = .ok (.aload_n 0, 1) := by decide +kernel
theorem d_Mo_feed_13 : decode prog_14_method_29_code 13 = .ok (.iconst 1, 1) := by decide +kernel
theorem d_Mo_feed_14 : decode prog_14_method_29_code 14 = .ok (.invokevirtual 138, 3) := by decide +kernel
theorem d_Mo_feed_17 : decode prog_14_method_29_code 17 = .ok (.ireturn, 1) := by decide +kernel
set_option maxRecDepth 100000 in
theorem c_Mo_feed {tp : Nat} {w : Int64} {x : Int32} {l : Launch} {d q n : Nat} {D : Nat → Int32} {A : Nat → Nat → Int32} {S : Nat → Int32} {h0 : HP} {Q : QT} (htp : tp ≤ 50) (et : D 6 = nI tp) (hE : wi x (nI 1) (nI 8) = false → Q (some (.int (-1000000000 - nI 1))) n (mo q D (uA A 3 (upd (A 3) 1 (A 3 1 + nI 1))) S h0)) (hF : ∀ k, 1 ≤ k → k ≤ 8 → x = nI k → 50 < tp + k → Q (some (.int (-1000000000 - nI 4))) n (mo q D (uA A 3 (upd (A 3) 4 (A 3 4 + nI 1))) S h0)) (hOk : ∀ k, 1 ≤ k → k ≤ 8 → x = nI k → tp + k ≤ 50 → Q (some (.int (nI (tp + k)))) n (mo q (fdD w tp D k) A S h0)) : Ct l M_Mo_feed (d + 1) 0 0 [.ref q, .long w, .int x] n (mo q D A S h0) Q := by
  refine Ct.of (fun _ => trivial) (by decide) (Nat.le_of_ble_eq_true rfl) ?_
  refine V.iload_n d_Mo_feed_0 rfl ?_
  refine V.i2l d_Mo_feed_1 ?_
  refine V.lconst_ ((nI 1).toInt64) d_Mo_feed_2 (by decide +kernel) ?_
  refine V.ldc2 (v := 8) d_Mo_feed_3 (tm 1142 (by decide +kernel) rfl) ?_
  refine V.eqS (st' := .long ((nI 8).toInt64) :: _) rfl ?_
  refine V.callS3 d_Mo_feed_6 k_Mo_56_Mo_inS (Nat.le_of_ble_eq_true rfl) (by omega) (by omega) (c_Mo_in ?_)
  refine V.ifneB (tgt := 18) d_Mo_feed_9 (by decide) (fun c_9 => ?_) (fun c_9 => ?_)
  · skip
    obtain ⟨k, h1k, hk, rfl⟩ := wi_nat1 (by decide) c_9
    refine V.aload_n d_Mo_feed_18 rfl ?_
    refine V.get d_Mo_feed_19 f_Mo_7_Mo mo_o rfl ?_
    refine V.bipush_ (nI 6) d_Mo_feed_22 (by decide +kernel) ?_
    refine V.mldd d_Mo_feed_24 (by omega) ?_
    refine V.top et ?_
    refine V.iload_n d_Mo_feed_25 rfl ?_
    refine V.addN d_Mo_feed_26 ?_
    refine V.bipush_ (nI 50) d_Mo_feed_27 (by decide +kernel) ?_
    refine V.leN (tgt := 38) d_Mo_feed_29 (by decide) (by omega) (by omega) (fun c_29 => ?_) (fun c_29 => ?_)
    · skip
      refine V.iconst_ (nI 0) d_Mo_feed_38 (by decide +kernel) ?_
      refine V.istore d_Mo_feed_39 (by decide) ?_
      refine V.eqH (h' := mo q (fdD w tp D 0) A S h0) (by show mo q D A S h0 = mo q (upd D 6 (nI tp)) A S h0; rw [← et]; congr 1; funext j; unfold upd; split <;> simp_all) ?_
      refine V.lc (ls' := [(0, .ref q), (1, .long w), (3, .int (nI k)), (4, .int (nI 0))]) rfl ?_
      refine up_to (G := fun m => V l M_Mo_feed (d + 1) 0 0 41 [(0, .ref q), (1, .long w), (3, .int (nI k)), (4, .int (nI m))] [] n (mo q (fdD w tp D m) A S h0) 0 0 Q) (k) ?_ (fun m hm hn => ?_) 0 (by omega)
      · skip
        refine V.iload d_Mo_feed_41 rfl ?_
        refine V.iload_n d_Mo_feed_43 rfl ?_
        refine V.geN (tgt := 92) d_Mo_feed_44 (by decide) (by omega) (by omega) (fun c_44 => ?_) (fun c_44 => ?_)
        · skip
          refine V.aload_n d_Mo_feed_92 rfl ?_
          refine V.get d_Mo_feed_93 f_Mo_7_Mo mo_o rfl ?_
          refine V.bipush_ (nI 6) d_Mo_feed_96 (by decide +kernel) ?_
          refine V.mldd d_Mo_feed_98 (by omega) ?_
          refine V.top (fdD_6 k) ?_
          refine V.iret d_Mo_feed_99 rfl (Nat.le_of_ble_eq_true rfl) (Nat.le_of_ble_eq_true rfl) ?_
          exact hOk k h1k hk rfl (by omega)
        · skip
          exact absurd c_44 (by omega)
      · skip
        rw [fdD_s] at hn
        refine V.iload d_Mo_feed_41 rfl ?_
        refine V.iload_n d_Mo_feed_43 rfl ?_
        refine V.geN (tgt := 92) d_Mo_feed_44 (by decide) (by omega) (by omega) (fun c_44 => ?_) (fun c_44 => ?_)
        · skip
          exact absurd c_44 (by omega)
        · skip
          refine V.aload_n d_Mo_feed_47 rfl ?_
          refine V.get d_Mo_feed_48 f_Mo_7_Mo mo_o rfl ?_
          refine V.sipush_ (nI 228) d_Mo_feed_51 (by decide +kernel) ?_
          refine V.aload_n d_Mo_feed_54 rfl ?_
          refine V.get d_Mo_feed_55 f_Mo_7_Mo mo_o rfl ?_
          refine V.bipush_ (nI 6) d_Mo_feed_58 (by decide +kernel) ?_
          refine V.mldd d_Mo_feed_60 (by omega) ?_
          refine V.top (fdD_6 m) ?_
          refine V.addN d_Mo_feed_61 ?_
          refine V.lload_n d_Mo_feed_62 rfl ?_
          refine V.bipush_ (nI 8) d_Mo_feed_63 (by decide +kernel) ?_
          refine V.iload d_Mo_feed_65 rfl ?_
          refine V.mulN d_Mo_feed_67 ?_
          refine V.lshr d_Mo_feed_68 ?_
          refine V.ldc2 (v := 255) d_Mo_feed_69 (tm 1151 (by decide +kernel) rfl) ?_
          refine V.eqS (st' := .long ((nI 255).toInt64) :: _) rfl ?_
          refine V.land d_Mo_feed_72 ?_
          refine V.l2i d_Mo_feed_73 ?_
          refine V.mstd d_Mo_feed_74 (by omega) ?_
          refine V.aload_n d_Mo_feed_75 rfl ?_
          refine V.get d_Mo_feed_76 f_Mo_7_Mo mo_o rfl ?_
          refine V.bipush_ (nI 6) d_Mo_feed_79 (by decide +kernel) ?_
          refine V.dup2 rfl rfl d_Mo_feed_81 ?_
          refine V.mldd d_Mo_feed_82 (by omega) ?_
          refine V.top (show _ = nI (tp + m) by rw [pk_un (by omega)]; exact fdD_6 m) ?_
          refine V.iconst_ (nI 1) d_Mo_feed_83 (by decide +kernel) ?_
          refine V.addN d_Mo_feed_84 ?_
          refine V.mstd d_Mo_feed_85 (by omega) ?_
          refine V.incN d_Mo_feed_86 rfl (by decide) ?_
          refine V.goto (tgt := 41) d_Mo_feed_89 (by decide) ?_
          exact V.lc rfl hn
    · skip
      refine V.aload_n d_Mo_feed_32 rfl ?_
      refine V.iconst_ (nI 4) d_Mo_feed_33 (by decide +kernel) ?_
      refine V.callV1 d_Mo_feed_34 k_Mo_138_Mo_finds_MoV mo_o (Nat.le_of_ble_eq_true rfl) (by omega) (by omega) (c_Mo_finds (by omega) ?_)
      refine V.iret d_Mo_feed_37 rfl (Nat.le_of_ble_eq_true rfl) (Nat.le_of_ble_eq_true rfl) ?_
      exact hF k h1k hk rfl (by omega)
  · skip
    refine V.aload_n d_Mo_feed_12 rfl ?_
    refine V.iconst_ (nI 1) d_Mo_feed_13 (by decide +kernel) ?_
    refine V.callV1 d_Mo_feed_14 k_Mo_138_Mo_finds_MoV mo_o (Nat.le_of_ble_eq_true rfl) (by omega) (by omega) (c_Mo_finds (by omega) ?_)
    refine V.iret d_Mo_feed_17 rfl (Nat.le_of_ble_eq_true rfl) (Nat.le_of_ble_eq_true rfl) ?_
    exact hE c_9
end
