section
-- ===== PART A: goes FIRST, ahead of the names: the tables' words, and 'selects' of the private methods out of them =====
/-- a private method of a class that the tables say can be made, by its rows of tables_1 -/
def lw_okq (q : MethodName × Nat) : Prop := (q.1.cls ≠ "java/lang/invoke/MethodHandle" ∧ q.1.cls ≠ "java/lang/invoke/VarHandle") ∧ Cond.instantiable q.1.cls q.2 ∈ tables_1 ∧ Cond.privateMethod q.1 ∈ tables_1 ∧ Cond.instanceMethod q.1 ∈ tables_1
theorem lw_p0 : lw_okq (⟨"FelledByNames$Text", "readLevel", "(I)V"⟩, 11) := ⟨⟨by decide +kernel, by decide +kernel⟩, List.mem_of_getElem? (i := 60) (by decide +kernel), List.mem_of_getElem? (i := 296) (by decide +kernel), List.mem_of_getElem? (i := 297) (by decide +kernel)⟩
theorem lw_p1 : lw_okq (⟨"FelledByNames$Text", "readPart", "()V"⟩, 11) := ⟨⟨by decide +kernel, by decide +kernel⟩, List.mem_of_getElem? (i := 60) (by decide +kernel), List.mem_of_getElem? (i := 300) (by decide +kernel), List.mem_of_getElem? (i := 301) (by decide +kernel)⟩
theorem lw_p2 : lw_okq (⟨"FelledByNames$Text", "readNumber", "()V"⟩, 11) := ⟨⟨by decide +kernel, by decide +kernel⟩, List.mem_of_getElem? (i := 60) (by decide +kernel), List.mem_of_getElem? (i := 319) (by decide +kernel), List.mem_of_getElem? (i := 320) (by decide +kernel)⟩
theorem lw_p3 : lw_okq (⟨"FelledByNames$Text", "readOpen", "(I)V"⟩, 11) := ⟨⟨by decide +kernel, by decide +kernel⟩, List.mem_of_getElem? (i := 60) (by decide +kernel), List.mem_of_getElem? (i := 380) (by decide +kernel), List.mem_of_getElem? (i := 381) (by decide +kernel)⟩
theorem lw_p4 : lw_okq (⟨"FelledByNames$Text", "taken", "(Ljava/lang/String;)I"⟩, 11) := ⟨⟨by decide +kernel, by decide +kernel⟩, List.mem_of_getElem? (i := 60) (by decide +kernel), List.mem_of_getElem? (i := 385) (by decide +kernel), List.mem_of_getElem? (i := 386) (by decide +kernel)⟩
theorem lw_p5 : lw_okq (⟨"FelledByNames$Text", "forget", "()V"⟩, 11) := ⟨⟨by decide +kernel, by decide +kernel⟩, List.mem_of_getElem? (i := 60) (by decide +kernel), List.mem_of_getElem? (i := 411) (by decide +kernel), List.mem_of_getElem? (i := 412) (by decide +kernel)⟩
theorem lw_p6 : lw_okq (⟨"FelledByNames", "error", "(I)I"⟩, 15) := ⟨⟨by decide +kernel, by decide +kernel⟩, List.mem_of_getElem? (i := 24) (by decide +kernel), List.mem_of_getElem? (i := 487) (by decide +kernel), List.mem_of_getElem? (i := 488) (by decide +kernel)⟩
theorem lw_p7 : lw_okq (⟨"FelledByNames", "isTree", "(I)Z"⟩, 15) := ⟨⟨by decide +kernel, by decide +kernel⟩, List.mem_of_getElem? (i := 24) (by decide +kernel), List.mem_of_getElem? (i := 615) (by decide +kernel), List.mem_of_getElem? (i := 616) (by decide +kernel)⟩
theorem lw_p8 : lw_okq (⟨"FelledByNames$World", "cool", "()V"⟩, 14) := ⟨⟨by decide +kernel, by decide +kernel⟩, List.mem_of_getElem? (i := 106) (by decide +kernel), List.mem_of_getElem? (i := 723) (by decide +kernel), List.mem_of_getElem? (i := 724) (by decide +kernel)⟩
theorem lw_p9 : lw_okq (⟨"FelledByNames$World", "isOver", "(LFelledByNames$Tree;)Z"⟩, 14) := ⟨⟨by decide +kernel, by decide +kernel⟩, List.mem_of_getElem? (i := 106) (by decide +kernel), List.mem_of_getElem? (i := 752) (by decide +kernel), List.mem_of_getElem? (i := 753) (by decide +kernel)⟩
theorem lw_p10 : lw_okq (⟨"FelledByNames$World", "fall", "(LFelledByNames$Tree;I)V"⟩, 14) := ⟨⟨by decide +kernel, by decide +kernel⟩, List.mem_of_getElem? (i := 106) (by decide +kernel), List.mem_of_getElem? (i := 758) (by decide +kernel), List.mem_of_getElem? (i := 759) (by decide +kernel)⟩
theorem lw_p11 : lw_okq (⟨"FelledByNames", "fallsByTalk", "(IIII)Z"⟩, 15) := ⟨⟨by decide +kernel, by decide +kernel⟩, List.mem_of_getElem? (i := 24) (by decide +kernel), List.mem_of_getElem? (i := 817) (by decide +kernel), List.mem_of_getElem? (i := 818) (by decide +kernel)⟩
theorem lw_p12 : lw_okq (⟨"FelledByNames", "standsByTalk", "(LFelledByNames$Sheet;II)Z"⟩, 15) := ⟨⟨by decide +kernel, by decide +kernel⟩, List.mem_of_getElem? (i := 24) (by decide +kernel), List.mem_of_getElem? (i := 850) (by decide +kernel), List.mem_of_getElem? (i := 851) (by decide +kernel)⟩
theorem lw_p13 : lw_okq (⟨"FelledByNamesModel", "finds", "(I)I"⟩, 26) := ⟨⟨by decide +kernel, by decide +kernel⟩, List.mem_of_getElem? (i := 1054) (by decide +kernel), List.mem_of_getElem? (i := 1147) (by decide +kernel), List.mem_of_getElem? (i := 1148) (by decide +kernel)⟩
theorem lw_p14 : lw_okq (⟨"FelledByNamesModel", "reads", "(III)V"⟩, 26) := ⟨⟨by decide +kernel, by decide +kernel⟩, List.mem_of_getElem? (i := 1054) (by decide +kernel), List.mem_of_getElem? (i := 1157) (by decide +kernel), List.mem_of_getElem? (i := 1158) (by decide +kernel)⟩
theorem lw_p15 : lw_okq (⟨"FelledByNamesModel", "either", "()V"⟩, 26) := ⟨⟨by decide +kernel, by decide +kernel⟩, List.mem_of_getElem? (i := 1054) (by decide +kernel), List.mem_of_getElem? (i := 1161) (by decide +kernel), List.mem_of_getElem? (i := 1162) (by decide +kernel)⟩
def lw_privs_1 : List (MethodName × Nat) := [(⟨"FelledByNames$Text", "readLevel", "(I)V"⟩, 11), (⟨"FelledByNames$Text", "readPart", "()V"⟩, 11), (⟨"FelledByNames$Text", "readNumber", "()V"⟩, 11), (⟨"FelledByNames$Text", "readOpen", "(I)V"⟩, 11), (⟨"FelledByNames$Text", "taken", "(Ljava/lang/String;)I"⟩, 11), (⟨"FelledByNames$Text", "forget", "()V"⟩, 11), (⟨"FelledByNames", "error", "(I)I"⟩, 15), (⟨"FelledByNames", "isTree", "(I)Z"⟩, 15), (⟨"FelledByNames$World", "cool", "()V"⟩, 14), (⟨"FelledByNames$World", "isOver", "(LFelledByNames$Tree;)Z"⟩, 14), (⟨"FelledByNames$World", "fall", "(LFelledByNames$Tree;I)V"⟩, 14), (⟨"FelledByNames", "fallsByTalk", "(IIII)Z"⟩, 15), (⟨"FelledByNames", "standsByTalk", "(LFelledByNames$Sheet;II)Z"⟩, 15), (⟨"FelledByNamesModel", "finds", "(I)I"⟩, 26), (⟨"FelledByNamesModel", "reads", "(III)V"⟩, 26), (⟨"FelledByNamesModel", "either", "()V"⟩, 26)]
theorem lw_r1 : ∀ q ∈ lw_privs_1, lw_okq q := List.forall_mem_cons.mpr ⟨lw_p0, List.forall_mem_cons.mpr ⟨lw_p1, List.forall_mem_cons.mpr ⟨lw_p2, List.forall_mem_cons.mpr ⟨lw_p3, List.forall_mem_cons.mpr ⟨lw_p4, List.forall_mem_cons.mpr ⟨lw_p5, List.forall_mem_cons.mpr ⟨lw_p6, List.forall_mem_cons.mpr ⟨lw_p7, List.forall_mem_cons.mpr ⟨lw_p8, List.forall_mem_cons.mpr ⟨lw_p9, List.forall_mem_cons.mpr ⟨lw_p10, List.forall_mem_cons.mpr ⟨lw_p11, List.forall_mem_cons.mpr ⟨lw_p12, List.forall_mem_cons.mpr ⟨lw_p13, List.forall_mem_cons.mpr ⟨lw_p14, List.forall_mem_cons.mpr ⟨lw_p15, fun _ h => absurd h List.not_mem_nil⟩⟩⟩⟩⟩⟩⟩⟩⟩⟩⟩⟩⟩⟩⟩⟩
theorem lw_p16 : lw_okq (⟨"FelledByNamesModel", "both", "()V"⟩, 26) := ⟨⟨by decide +kernel, by decide +kernel⟩, List.mem_of_getElem? (i := 1054) (by decide +kernel), List.mem_of_getElem? (i := 1165) (by decide +kernel), List.mem_of_getElem? (i := 1166) (by decide +kernel)⟩
theorem lw_p17 : lw_okq (⟨"FelledByNamesModel", "compared", "()V"⟩, 26) := ⟨⟨by decide +kernel, by decide +kernel⟩, List.mem_of_getElem? (i := 1054) (by decide +kernel), List.mem_of_getElem? (i := 1169) (by decide +kernel), List.mem_of_getElem? (i := 1170) (by decide +kernel)⟩
theorem lw_p18 : lw_okq (⟨"FelledByNamesModel", "sum", "()V"⟩, 26) := ⟨⟨by decide +kernel, by decide +kernel⟩, List.mem_of_getElem? (i := 1054) (by decide +kernel), List.mem_of_getElem? (i := 1173) (by decide +kernel), List.mem_of_getElem? (i := 1174) (by decide +kernel)⟩
theorem lw_p19 : lw_okq (⟨"FelledByNamesModel", "product", "()V"⟩, 26) := ⟨⟨by decide +kernel, by decide +kernel⟩, List.mem_of_getElem? (i := 1054) (by decide +kernel), List.mem_of_getElem? (i := 1177) (by decide +kernel), List.mem_of_getElem? (i := 1178) (by decide +kernel)⟩
theorem lw_p20 : lw_okq (⟨"FelledByNamesModel", "unit", "()V"⟩, 26) := ⟨⟨by decide +kernel, by decide +kernel⟩, List.mem_of_getElem? (i := 1054) (by decide +kernel), List.mem_of_getElem? (i := 1181) (by decide +kernel), List.mem_of_getElem? (i := 1182) (by decide +kernel)⟩
theorem lw_p21 : lw_okq (⟨"FelledByNamesModel", "here", "()I"⟩, 26) := ⟨⟨by decide +kernel, by decide +kernel⟩, List.mem_of_getElem? (i := 1054) (by decide +kernel), List.mem_of_getElem? (i := 1185) (by decide +kernel), List.mem_of_getElem? (i := 1186) (by decide +kernel)⟩
theorem lw_p22 : lw_okq (⟨"FelledByNamesModel", "opens", "(I)V"⟩, 26) := ⟨⟨by decide +kernel, by decide +kernel⟩, List.mem_of_getElem? (i := 1054) (by decide +kernel), List.mem_of_getElem? (i := 1189) (by decide +kernel), List.mem_of_getElem? (i := 1190) (by decide +kernel)⟩
theorem lw_p23 : lw_okq (⟨"FelledByNamesModel", "wrong", "()V"⟩, 26) := ⟨⟨by decide +kernel, by decide +kernel⟩, List.mem_of_getElem? (i := 1054) (by decide +kernel), List.mem_of_getElem? (i := 1193) (by decide +kernel), List.mem_of_getElem? (i := 1194) (by decide +kernel)⟩
theorem lw_p24 : lw_okq (⟨"FelledByNamesModel", "lay", "(I)V"⟩, 26) := ⟨⟨by decide +kernel, by decide +kernel⟩, List.mem_of_getElem? (i := 1054) (by decide +kernel), List.mem_of_getElem? (i := 1197) (by decide +kernel), List.mem_of_getElem? (i := 1198) (by decide +kernel)⟩
theorem lw_p25 : lw_okq (⟨"FelledByNamesModel", "takes", "(I)Z"⟩, 26) := ⟨⟨by decide +kernel, by decide +kernel⟩, List.mem_of_getElem? (i := 1054) (by decide +kernel), List.mem_of_getElem? (i := 1201) (by decide +kernel), List.mem_of_getElem? (i := 1202) (by decide +kernel)⟩
theorem lw_p26 : lw_okq (⟨"FelledByNamesModel", "nameOf", "(I)I"⟩, 26) := ⟨⟨by decide +kernel, by decide +kernel⟩, List.mem_of_getElem? (i := 1054) (by decide +kernel), List.mem_of_getElem? (i := 1205) (by decide +kernel), List.mem_of_getElem? (i := 1206) (by decide +kernel)⟩
theorem lw_p27 : lw_okq (⟨"FelledByNamesModel", "textGives", "(IIII)I"⟩, 26) := ⟨⟨by decide +kernel, by decide +kernel⟩, List.mem_of_getElem? (i := 1054) (by decide +kernel), List.mem_of_getElem? (i := 1215) (by decide +kernel), List.mem_of_getElem? (i := 1216) (by decide +kernel)⟩
theorem lw_p28 : lw_okq (⟨"FelledByNamesModel", "worked", "(II)I"⟩, 26) := ⟨⟨by decide +kernel, by decide +kernel⟩, List.mem_of_getElem? (i := 1054) (by decide +kernel), List.mem_of_getElem? (i := 1219) (by decide +kernel), List.mem_of_getElem? (i := 1220) (by decide +kernel)⟩
theorem lw_p29 : lw_okq (⟨"FelledByNamesModel", "hold0", "(II)I"⟩, 26) := ⟨⟨by decide +kernel, by decide +kernel⟩, List.mem_of_getElem? (i := 1054) (by decide +kernel), List.mem_of_getElem? (i := 1241) (by decide +kernel), List.mem_of_getElem? (i := 1242) (by decide +kernel)⟩
theorem lw_p30 : lw_okq (⟨"FelledByNamesModel", "sets", "(III)V"⟩, 26) := ⟨⟨by decide +kernel, by decide +kernel⟩, List.mem_of_getElem? (i := 1054) (by decide +kernel), List.mem_of_getElem? (i := 1271) (by decide +kernel), List.mem_of_getElem? (i := 1272) (by decide +kernel)⟩
theorem lw_p31 : lw_okq (⟨"FelledByNamesModel", "isTree", "(I)Z"⟩, 26) := ⟨⟨by decide +kernel, by decide +kernel⟩, List.mem_of_getElem? (i := 1054) (by decide +kernel), List.mem_of_getElem? (i := 1279) (by decide +kernel), List.mem_of_getElem? (i := 1280) (by decide +kernel)⟩
def lw_privs_2 : List (MethodName × Nat) := [(⟨"FelledByNamesModel", "both", "()V"⟩, 26), (⟨"FelledByNamesModel", "compared", "()V"⟩, 26), (⟨"FelledByNamesModel", "sum", "()V"⟩, 26), (⟨"FelledByNamesModel", "product", "()V"⟩, 26), (⟨"FelledByNamesModel", "unit", "()V"⟩, 26), (⟨"FelledByNamesModel", "here", "()I"⟩, 26), (⟨"FelledByNamesModel", "opens", "(I)V"⟩, 26), (⟨"FelledByNamesModel", "wrong", "()V"⟩, 26), (⟨"FelledByNamesModel", "lay", "(I)V"⟩, 26), (⟨"FelledByNamesModel", "takes", "(I)Z"⟩, 26), (⟨"FelledByNamesModel", "nameOf", "(I)I"⟩, 26), (⟨"FelledByNamesModel", "textGives", "(IIII)I"⟩, 26), (⟨"FelledByNamesModel", "worked", "(II)I"⟩, 26), (⟨"FelledByNamesModel", "hold0", "(II)I"⟩, 26), (⟨"FelledByNamesModel", "sets", "(III)V"⟩, 26), (⟨"FelledByNamesModel", "isTree", "(I)Z"⟩, 26)]
theorem lw_r2 : ∀ q ∈ lw_privs_2, lw_okq q := List.forall_mem_cons.mpr ⟨lw_p16, List.forall_mem_cons.mpr ⟨lw_p17, List.forall_mem_cons.mpr ⟨lw_p18, List.forall_mem_cons.mpr ⟨lw_p19, List.forall_mem_cons.mpr ⟨lw_p20, List.forall_mem_cons.mpr ⟨lw_p21, List.forall_mem_cons.mpr ⟨lw_p22, List.forall_mem_cons.mpr ⟨lw_p23, List.forall_mem_cons.mpr ⟨lw_p24, List.forall_mem_cons.mpr ⟨lw_p25, List.forall_mem_cons.mpr ⟨lw_p26, List.forall_mem_cons.mpr ⟨lw_p27, List.forall_mem_cons.mpr ⟨lw_p28, List.forall_mem_cons.mpr ⟨lw_p29, List.forall_mem_cons.mpr ⟨lw_p30, List.forall_mem_cons.mpr ⟨lw_p31, fun _ h => absurd h List.not_mem_nil⟩⟩⟩⟩⟩⟩⟩⟩⟩⟩⟩⟩⟩⟩⟩⟩
theorem lw_p32 : lw_okq (⟨"FelledByNamesModel", "of", "(II)I"⟩, 26) := ⟨⟨by decide +kernel, by decide +kernel⟩, List.mem_of_getElem? (i := 1054) (by decide +kernel), List.mem_of_getElem? (i := 1284) (by decide +kernel), List.mem_of_getElem? (i := 1285) (by decide +kernel)⟩
theorem lw_p33 : lw_okq (⟨"FelledByNamesModel", "limit", "(I)I"⟩, 26) := ⟨⟨by decide +kernel, by decide +kernel⟩, List.mem_of_getElem? (i := 1054) (by decide +kernel), List.mem_of_getElem? (i := 1288) (by decide +kernel), List.mem_of_getElem? (i := 1289) (by decide +kernel)⟩
theorem lw_p34 : lw_okq (⟨"FelledByNamesModel", "reaches", "(I)I"⟩, 26) := ⟨⟨by decide +kernel, by decide +kernel⟩, List.mem_of_getElem? (i := 1054) (by decide +kernel), List.mem_of_getElem? (i := 1292) (by decide +kernel), List.mem_of_getElem? (i := 1293) (by decide +kernel)⟩
theorem lw_p35 : lw_okq (⟨"FelledByNamesModel", "daysGo", "(I)V"⟩, 26) := ⟨⟨by decide +kernel, by decide +kernel⟩, List.mem_of_getElem? (i := 1054) (by decide +kernel), List.mem_of_getElem? (i := 1317) (by decide +kernel), List.mem_of_getElem? (i := 1318) (by decide +kernel)⟩
theorem lw_p36 : lw_okq (⟨"FelledByNamesModel", "dayGoes", "()V"⟩, 26) := ⟨⟨by decide +kernel, by decide +kernel⟩, List.mem_of_getElem? (i := 1054) (by decide +kernel), List.mem_of_getElem? (i := 1321) (by decide +kernel), List.mem_of_getElem? (i := 1322) (by decide +kernel)⟩
theorem lw_p37 : lw_okq (⟨"FelledByNamesModel", "grows", "(I)I"⟩, 26) := ⟨⟨by decide +kernel, by decide +kernel⟩, List.mem_of_getElem? (i := 1054) (by decide +kernel), List.mem_of_getElem? (i := 1325) (by decide +kernel), List.mem_of_getElem? (i := 1326) (by decide +kernel)⟩
theorem lw_p38 : lw_okq (⟨"FelledByNamesModel", "falls", "(I)V"⟩, 26) := ⟨⟨by decide +kernel, by decide +kernel⟩, List.mem_of_getElem? (i := 1054) (by decide +kernel), List.mem_of_getElem? (i := 1329) (by decide +kernel), List.mem_of_getElem? (i := 1330) (by decide +kernel)⟩
theorem lw_p39 : lw_okq (⟨"FelledByNamesModel", "goesDown", "(I)V"⟩, 26) := ⟨⟨by decide +kernel, by decide +kernel⟩, List.mem_of_getElem? (i := 1054) (by decide +kernel), List.mem_of_getElem? (i := 1333) (by decide +kernel), List.mem_of_getElem? (i := 1334) (by decide +kernel)⟩
theorem lw_p40 : lw_okq (⟨"FelledByNamesModel", "drawn", "()I"⟩, 26) := ⟨⟨by decide +kernel, by decide +kernel⟩, List.mem_of_getElem? (i := 1054) (by decide +kernel), List.mem_of_getElem? (i := 1343) (by decide +kernel), List.mem_of_getElem? (i := 1344) (by decide +kernel)⟩
theorem lw_p41 : lw_okq (⟨"FelledByNamesModel", "keepAside", "()V"⟩, 26) := ⟨⟨by decide +kernel, by decide +kernel⟩, List.mem_of_getElem? (i := 1054) (by decide +kernel), List.mem_of_getElem? (i := 1352) (by decide +kernel), List.mem_of_getElem? (i := 1353) (by decide +kernel)⟩
theorem lw_p42 : lw_okq (⟨"FelledByNamesModel", "putBack", "()V"⟩, 26) := ⟨⟨by decide +kernel, by decide +kernel⟩, List.mem_of_getElem? (i := 1054) (by decide +kernel), List.mem_of_getElem? (i := 1356) (by decide +kernel), List.mem_of_getElem? (i := 1357) (by decide +kernel)⟩
theorem lw_p43 : lw_okq (⟨"FelledByNamesModel", "standBehind", "(I)I"⟩, 26) := ⟨⟨by decide +kernel, by decide +kernel⟩, List.mem_of_getElem? (i := 1054) (by decide +kernel), List.mem_of_getElem? (i := 1368) (by decide +kernel), List.mem_of_getElem? (i := 1369) (by decide +kernel)⟩
theorem lw_p44 : lw_okq (⟨"FelledByNamesModel", "standing", "()I"⟩, 26) := ⟨⟨by decide +kernel, by decide +kernel⟩, List.mem_of_getElem? (i := 1054) (by decide +kernel), List.mem_of_getElem? (i := 1372) (by decide +kernel), List.mem_of_getElem? (i := 1373) (by decide +kernel)⟩
theorem lw_p45 : lw_okq (⟨"FelledByNamesModel", "creaksBy", "(II)I"⟩, 26) := ⟨⟨by decide +kernel, by decide +kernel⟩, List.mem_of_getElem? (i := 1054) (by decide +kernel), List.mem_of_getElem? (i := 1431) (by decide +kernel), List.mem_of_getElem? (i := 1432) (by decide +kernel)⟩
theorem lw_p46 : lw_okq (⟨"FelledByNamesModel", "ran", "(I)V"⟩, 26) := ⟨⟨by decide +kernel, by decide +kernel⟩, List.mem_of_getElem? (i := 1054) (by decide +kernel), List.mem_of_getElem? (i := 1435) (by decide +kernel), List.mem_of_getElem? (i := 1436) (by decide +kernel)⟩
theorem lw_p47 : lw_okq (⟨"FelledByNamesModel", "standsBy", "(II)I"⟩, 26) := ⟨⟨by decide +kernel, by decide +kernel⟩, List.mem_of_getElem? (i := 1054) (by decide +kernel), List.mem_of_getElem? (i := 1439) (by decide +kernel), List.mem_of_getElem? (i := 1440) (by decide +kernel)⟩
def lw_privs_3 : List (MethodName × Nat) := [(⟨"FelledByNamesModel", "of", "(II)I"⟩, 26), (⟨"FelledByNamesModel", "limit", "(I)I"⟩, 26), (⟨"FelledByNamesModel", "reaches", "(I)I"⟩, 26), (⟨"FelledByNamesModel", "daysGo", "(I)V"⟩, 26), (⟨"FelledByNamesModel", "dayGoes", "()V"⟩, 26), (⟨"FelledByNamesModel", "grows", "(I)I"⟩, 26), (⟨"FelledByNamesModel", "falls", "(I)V"⟩, 26), (⟨"FelledByNamesModel", "goesDown", "(I)V"⟩, 26), (⟨"FelledByNamesModel", "drawn", "()I"⟩, 26), (⟨"FelledByNamesModel", "keepAside", "()V"⟩, 26), (⟨"FelledByNamesModel", "putBack", "()V"⟩, 26), (⟨"FelledByNamesModel", "standBehind", "(I)I"⟩, 26), (⟨"FelledByNamesModel", "standing", "()I"⟩, 26), (⟨"FelledByNamesModel", "creaksBy", "(II)I"⟩, 26), (⟨"FelledByNamesModel", "ran", "(I)V"⟩, 26), (⟨"FelledByNamesModel", "standsBy", "(II)I"⟩, 26)]
theorem lw_r3 : ∀ q ∈ lw_privs_3, lw_okq q := List.forall_mem_cons.mpr ⟨lw_p32, List.forall_mem_cons.mpr ⟨lw_p33, List.forall_mem_cons.mpr ⟨lw_p34, List.forall_mem_cons.mpr ⟨lw_p35, List.forall_mem_cons.mpr ⟨lw_p36, List.forall_mem_cons.mpr ⟨lw_p37, List.forall_mem_cons.mpr ⟨lw_p38, List.forall_mem_cons.mpr ⟨lw_p39, List.forall_mem_cons.mpr ⟨lw_p40, List.forall_mem_cons.mpr ⟨lw_p41, List.forall_mem_cons.mpr ⟨lw_p42, List.forall_mem_cons.mpr ⟨lw_p43, List.forall_mem_cons.mpr ⟨lw_p44, List.forall_mem_cons.mpr ⟨lw_p45, List.forall_mem_cons.mpr ⟨lw_p46, List.forall_mem_cons.mpr ⟨lw_p47, fun _ h => absurd h List.not_mem_nil⟩⟩⟩⟩⟩⟩⟩⟩⟩⟩⟩⟩⟩⟩⟩⟩
theorem lw_p48 : lw_okq (⟨"FelledByNamesModel", "leansBy", "(II)I"⟩, 26) := ⟨⟨by decide +kernel, by decide +kernel⟩, List.mem_of_getElem? (i := 1054) (by decide +kernel), List.mem_of_getElem? (i := 1443) (by decide +kernel), List.mem_of_getElem? (i := 1444) (by decide +kernel)⟩
theorem lw_p49 : lw_okq (⟨"FelledByNamesModel", "tellsBy", "(II)I"⟩, 26) := ⟨⟨by decide +kernel, by decide +kernel⟩, List.mem_of_getElem? (i := 1054) (by decide +kernel), List.mem_of_getElem? (i := 1447) (by decide +kernel), List.mem_of_getElem? (i := 1448) (by decide +kernel)⟩
def lw_privs_4 : List (MethodName × Nat) := [(⟨"FelledByNamesModel", "leansBy", "(II)I"⟩, 26), (⟨"FelledByNamesModel", "tellsBy", "(II)I"⟩, 26)]
theorem lw_r4 : ∀ q ∈ lw_privs_4, lw_okq q := List.forall_mem_cons.mpr ⟨lw_p48, List.forall_mem_cons.mpr ⟨lw_p49, fun _ h => absurd h List.not_mem_nil⟩⟩
def lw_privs : List (MethodName × Nat) := lw_privs_1 ++ (lw_privs_2 ++ (lw_privs_3 ++ (lw_privs_4)))
def lw_tbl : List Cond := k2_sels lw_privs ++ tables_1
theorem lw_privs_ok : ∀ q ∈ lw_privs, lw_okq q := by
  show ∀ q ∈ lw_privs_1 ++ (lw_privs_2 ++ (lw_privs_3 ++ (lw_privs_4))), lw_okq q
  exact List.forall_mem_append.mpr ⟨lw_r1, List.forall_mem_append.mpr ⟨lw_r2, List.forall_mem_append.mpr ⟨lw_r3, lw_r4⟩⟩⟩
-- ===== end of PART A; then your names; then what follows =====
end
section
/-- the words that keep: what every contract here takes along -/
def tb : List Cond := lw_tbl.filter goodWord
theorem tb_of {w : Cond} (h : w ∈ lw_tbl) (g : goodWord w = true) : w ∈ tb := List.mem_filter.mpr ⟨h, g⟩
theorem tm {w : Cond} (i : Nat) (h : tables_1[i]? = some w) (g : goodWord w = true) : w ∈ tb := tb_of (List.mem_append_right _ (List.mem_of_getElem? h)) g
theorem tp {w : Cond} (i : Nat) (h : (k2_sels lw_privs)[i]? = some w) (g : goodWord w = true) : w ∈ tb := tb_of (List.mem_append_left _ (List.mem_of_getElem? h)) g
theorem tb_good : ∀ w ∈ tb, goodWord w = true := fun w h => (List.mem_filter.mp h).2
theorem u_wsIn {C : String} {T : u_T} {N : Nat} (g : ∀ k, k < N → u_lay C T k ∈ tb) : ∀ w ∈ u_ws C T N, w ∈ tb := by
  intro w hw
  obtain ⟨k, hk, rfl⟩ := List.mem_map.mp hw
  exact g k (List.mem_range.mp hk)

def R_F : String := "FelledByNames"
def F_F : u_T := fun k => match k with
  | 0 => ("FelledByNames", "tape", "LFelledByNames$Row;", true)
  | 1 => ("FelledByNames", "cools", "LFelledByNames$Text;", true)
  | 2 => ("FelledByNames", "woods", "LFelledByNames$Text;", true)
  | 3 => ("FelledByNames", "now", "LFelledByNames$World;", true)
  | 4 => ("FelledByNames", "thought", "LFelledByNames$World;", true)
  | 5 => ("FelledByNames", "waiting", "LFelledByNames$Row;", true)
  | 6 => ("FelledByNames", "bodies", "LFelledByNames$Row;", true)
  | 7 => ("FelledByNames", "sheets", "[LFelledByNames$Sheet;", true)
  | 8 => ("FelledByNames", "errors", "[I", true)
  | 9 => ("FelledByNames", "keptWorld", "LFelledByNames$World;", true)
  | 10 => ("FelledByNames", "keptTape", "LFelledByNames$Row;", true)
  | 11 => ("FelledByNames", "keptWaiting", "LFelledByNames$Row;", true)
  | 12 => ("FelledByNames", "keptCools", "LFelledByNames$Row;", true)
  | 13 => ("FelledByNames", "keptWoods", "LFelledByNames$Row;", true)
  | _ => ("FelledByNames", "images", "I", false)
def t_F : Nat → FieldType := fun k => match k with
  | 0 => .object "FelledByNames$Row"
  | 1 => .object "FelledByNames$Text"
  | 2 => .object "FelledByNames$Text"
  | 3 => .object "FelledByNames$World"
  | 4 => .object "FelledByNames$World"
  | 5 => .object "FelledByNames$Row"
  | 6 => .object "FelledByNames$Row"
  | 7 => .array (.object "FelledByNames$Sheet")
  | 8 => .array .int
  | 9 => .object "FelledByNames$World"
  | 10 => .object "FelledByNames$Row"
  | 11 => .object "FelledByNames$Row"
  | 12 => .object "FelledByNames$Row"
  | 13 => .object "FelledByNames$Row"
  | _ => .int
theorem n_F : ∀ a, a < 15 → ∀ b, b < 15 → a ≠ b → (F_F a).2.1 ≠ (F_F b).2.1 := by decide +kernel
theorem t_F_ok : ∀ k, k < 15 → parseFieldDescriptor (F_F k).2.2.1 = some (t_F k) := by decide +kernel
theorem i_F : ∀ w ∈ u_ws R_F F_F 15, w ∈ tb := by
  refine u_wsIn (fun k hk => ?_)
  match k, hk with
  | 0, _ => exact tm 445 (by decide +kernel) rfl
  | 1, _ => exact tm 447 (by decide +kernel) rfl
  | 2, _ => exact tm 449 (by decide +kernel) rfl
  | 3, _ => exact tm 451 (by decide +kernel) rfl
  | 4, _ => exact tm 453 (by decide +kernel) rfl
  | 5, _ => exact tm 455 (by decide +kernel) rfl
  | 6, _ => exact tm 457 (by decide +kernel) rfl
  | 7, _ => exact tm 459 (by decide +kernel) rfl
  | 8, _ => exact tm 461 (by decide +kernel) rfl
  | 9, _ => exact tm 463 (by decide +kernel) rfl
  | 10, _ => exact tm 465 (by decide +kernel) rfl
  | 11, _ => exact tm 467 (by decide +kernel) rfl
  | 12, _ => exact tm 469 (by decide +kernel) rfl
  | 13, _ => exact tm 471 (by decide +kernel) rfl
  | 14, _ => exact tm 473 (by decide +kernel) rfl
  | k + 15, hk => exact absurd hk (by omega)
def R_Row : String := "FelledByNames$Row"
def F_Row : u_T := fun k => match k with
  | 0 => ("FelledByNames$Row", "at", "[I", true)
  | _ => ("FelledByNames$Row", "size", "I", false)
def t_Row : Nat → FieldType := fun k => match k with
  | 0 => .array .int
  | _ => .int
theorem n_Row : ∀ a, a < 2 → ∀ b, b < 2 → a ≠ b → (F_Row a).2.1 ≠ (F_Row b).2.1 := by decide +kernel
theorem t_Row_ok : ∀ k, k < 2 → parseFieldDescriptor (F_Row k).2.2.1 = some (t_Row k) := by decide +kernel
theorem i_Row : ∀ w ∈ u_ws R_Row F_Row 2, w ∈ tb := by
  refine u_wsIn (fun k hk => ?_)
  match k, hk with
  | 0, _ => exact tm 53 (by decide +kernel) rfl
  | 1, _ => exact tm 55 (by decide +kernel) rfl
  | k + 2, hk => exact absurd hk (by omega)
def R_Sheet : String := "FelledByNames$Sheet"
def F_Sheet : u_T := fun k => match k with
  | 0 => ("FelledByNames$Row", "at", "[I", true)
  | 1 => ("FelledByNames$Row", "size", "I", false)
  | _ => ("FelledByNames$Sheet", "bits", "I", false)
def t_Sheet : Nat → FieldType := fun k => match k with
  | 0 => .array .int
  | 1 => .int
  | _ => .int
theorem n_Sheet : ∀ a, a < 3 → ∀ b, b < 3 → a ≠ b → (F_Sheet a).2.1 ≠ (F_Sheet b).2.1 := by decide +kernel
theorem t_Sheet_ok : ∀ k, k < 3 → parseFieldDescriptor (F_Sheet k).2.2.1 = some (t_Sheet k) := by decide +kernel
theorem i_Sheet : ∀ w ∈ u_ws R_Sheet F_Sheet 3, w ∈ tb := by
  refine u_wsIn (fun k hk => ?_)
  match k, hk with
  | 0, _ => exact tm 427 (by decide +kernel) rfl
  | 1, _ => exact tm 428 (by decide +kernel) rfl
  | 2, _ => exact tm 425 (by decide +kernel) rfl
  | k + 3, hk => exact absurd hk (by omega)
def R_Text : String := "FelledByNames$Text"
def F_Text : u_T := fun k => match k with
  | 0 => ("FelledByNames$Text", "code", "LFelledByNames$Row;", true)
  | 1 => ("FelledByNames$Text", "tape", "LFelledByNames$Row;", true)
  | 2 => ("FelledByNames$Text", "names", "Ljava/lang/String;", true)
  | 3 => ("FelledByNames$Text", "low", "I", true)
  | 4 => ("FelledByNames$Text", "high", "I", true)
  | 5 => ("FelledByNames$Text", "draft", "LFelledByNames$Row;", true)
  | 6 => ("FelledByNames$Text", "stack", "[I", true)
  | 7 => ("FelledByNames$Text", "place", "I", false)
  | 8 => ("FelledByNames$Text", "open", "I", false)
  | 9 => ("FelledByNames$Text", "fault", "I", false)
  | _ => ("FelledByNames$Text", "known", "[B", false)
def t_Text : Nat → FieldType := fun k => match k with
  | 0 => .object "FelledByNames$Row"
  | 1 => .object "FelledByNames$Row"
  | 2 => .object "java/lang/String"
  | 3 => .int
  | 4 => .int
  | 5 => .object "FelledByNames$Row"
  | 6 => .array .int
  | 7 => .int
  | 8 => .int
  | 9 => .int
  | _ => .array .byte
theorem n_Text : ∀ a, a < 11 → ∀ b, b < 11 → a ≠ b → (F_Text a).2.1 ≠ (F_Text b).2.1 := by decide +kernel
theorem t_Text_ok : ∀ k, k < 11 → parseFieldDescriptor (F_Text k).2.2.1 = some (t_Text k) := by decide +kernel
theorem i_Text : ∀ w ∈ u_ws R_Text F_Text 11, w ∈ tb := by
  refine u_wsIn (fun k hk => ?_)
  match k, hk with
  | 0, _ => exact tm 80 (by decide +kernel) rfl
  | 1, _ => exact tm 82 (by decide +kernel) rfl
  | 2, _ => exact tm 84 (by decide +kernel) rfl
  | 3, _ => exact tm 86 (by decide +kernel) rfl
  | 4, _ => exact tm 88 (by decide +kernel) rfl
  | 5, _ => exact tm 90 (by decide +kernel) rfl
  | 6, _ => exact tm 92 (by decide +kernel) rfl
  | 7, _ => exact tm 94 (by decide +kernel) rfl
  | 8, _ => exact tm 96 (by decide +kernel) rfl
  | 9, _ => exact tm 98 (by decide +kernel) rfl
  | 10, _ => exact tm 100 (by decide +kernel) rfl
  | k + 11, hk => exact absurd hk (by omega)
def R_World : String := "FelledByNames$World"
def F_World : u_T := fun k => match k with
  | 0 => ("FelledByNames$World", "cools", "LFelledByNames$Text;", true)
  | 1 => ("FelledByNames$World", "woods", "LFelledByNames$Text;", true)
  | 2 => ("FelledByNames$World", "holds", "[I", true)
  | 3 => ("FelledByNames$World", "talk", "[I", true)
  | 4 => ("FelledByNames$World", "trees", "[LFelledByNames$Tree;", true)
  | 5 => ("FelledByNames$World", "treeCount", "I", false)
  | 6 => ("FelledByNames$World", "day", "I", false)
  | 7 => ("FelledByNames$World", "fence", "I", false)
  | 8 => ("FelledByNames$World", "harm", "I", false)
  | 9 => ("FelledByNames$World", "wood", "I", false)
  | 10 => ("FelledByNames$World", "z", "I", false)
  | 11 => ("FelledByNames$World", "fell", "LFelledByNames$Row;", true)
  | 12 => ("FelledByNames$World", "hits", "[I", true)
  | _ => ("FelledByNames$World", "pairs", "LFelledByNames$Row;", true)
def t_World : Nat → FieldType := fun k => match k with
  | 0 => .object "FelledByNames$Text"
  | 1 => .object "FelledByNames$Text"
  | 2 => .array .int
  | 3 => .array .int
  | 4 => .array (.object "FelledByNames$Tree")
  | 5 => .int
  | 6 => .int
  | 7 => .int
  | 8 => .int
  | 9 => .int
  | 10 => .int
  | 11 => .object "FelledByNames$Row"
  | 12 => .array .int
  | _ => .object "FelledByNames$Row"
theorem n_World : ∀ a, a < 14 → ∀ b, b < 14 → a ≠ b → (F_World a).2.1 ≠ (F_World b).2.1 := by decide +kernel
theorem t_World_ok : ∀ k, k < 14 → parseFieldDescriptor (F_World k).2.2.1 = some (t_World k) := by decide +kernel
theorem i_World : ∀ w ∈ u_ws R_World F_World 14, w ∈ tb := by
  refine u_wsIn (fun k hk => ?_)
  match k, hk with
  | 0, _ => exact tm 200 (by decide +kernel) rfl
  | 1, _ => exact tm 202 (by decide +kernel) rfl
  | 2, _ => exact tm 204 (by decide +kernel) rfl
  | 3, _ => exact tm 206 (by decide +kernel) rfl
  | 4, _ => exact tm 208 (by decide +kernel) rfl
  | 5, _ => exact tm 210 (by decide +kernel) rfl
  | 6, _ => exact tm 212 (by decide +kernel) rfl
  | 7, _ => exact tm 214 (by decide +kernel) rfl
  | 8, _ => exact tm 216 (by decide +kernel) rfl
  | 9, _ => exact tm 218 (by decide +kernel) rfl
  | 10, _ => exact tm 220 (by decide +kernel) rfl
  | 11, _ => exact tm 222 (by decide +kernel) rfl
  | 12, _ => exact tm 224 (by decide +kernel) rfl
  | 13, _ => exact tm 226 (by decide +kernel) rfl
  | k + 14, hk => exact absurd hk (by omega)
def R_Mo : String := "FelledByNamesModel"
def F_Mo : u_T := fun k => match k with
  | 0 => ("FelledByNamesModel", "d", "[I", true)
  | 1 => ("FelledByNamesModel", "kept", "[I", true)
  | 2 => ("FelledByNamesModel", "aside", "[I", true)
  | 3 => ("FelledByNamesModel", "images", "I", false)
  | 4 => ("FelledByNamesModel", "found", "[I", true)
  | 5 => ("FelledByNamesModel", "base", "I", false)
  | 6 => ("FelledByNamesModel", "at", "I", false)
  | 7 => ("FelledByNamesModel", "size", "I", false)
  | 8 => ("FelledByNamesModel", "fault", "I", false)
  | 9 => ("FelledByNamesModel", "opened", "I", false)
  | 10 => ("FelledByNamesModel", "isWood", "Z", false)
  | 11 => ("FelledByNamesModel", "names", "[I", true)
  | 12 => ("FelledByNamesModel", "code", "[I", true)
  | 13 => ("FelledByNamesModel", "coded", "I", false)
  | 14 => ("FelledByNamesModel", "pile", "[I", true)
  | 15 => ("FelledByNamesModel", "pile0", "[I", true)
  | 16 => ("FelledByNamesModel", "looks", "[I", true)
  | 17 => ("FelledByNamesModel", "fell", "[I", true)
  | 18 => ("FelledByNamesModel", "fellMany", "I", false)
  | 19 => ("FelledByNamesModel", "traced", "[I", true)
  | 20 => ("FelledByNamesModel", "traceMany", "I", false)
  | 21 => ("FelledByNamesModel", "who", "I", false)
  | 22 => ("FelledByNamesModel", "bitsOf", "[I", true)
  | 23 => ("FelledByNamesModel", "sizeOf", "[I", true)
  | 24 => ("FelledByNamesModel", "number", "[I", true)
  | _ => ("FelledByNamesModel", "lifted", "[I", true)
def t_Mo : Nat → FieldType := fun k => match k with
  | 0 => .array .int
  | 1 => .array .int
  | 2 => .array .int
  | 3 => .int
  | 4 => .array .int
  | 5 => .int
  | 6 => .int
  | 7 => .int
  | 8 => .int
  | 9 => .int
  | 10 => .boolean
  | 11 => .array .int
  | 12 => .array .int
  | 13 => .int
  | 14 => .array .int
  | 15 => .array .int
  | 16 => .array .int
  | 17 => .array .int
  | 18 => .int
  | 19 => .array .int
  | 20 => .int
  | 21 => .int
  | 22 => .array .int
  | 23 => .array .int
  | 24 => .array .int
  | _ => .array .int
theorem n_Mo : ∀ a, a < 26 → ∀ b, b < 26 → a ≠ b → (F_Mo a).2.1 ≠ (F_Mo b).2.1 := by decide +kernel
theorem t_Mo_ok : ∀ k, k < 26 → parseFieldDescriptor (F_Mo k).2.2.1 = some (t_Mo k) := by decide +kernel
theorem i_Mo : ∀ w ∈ u_ws R_Mo F_Mo 26, w ∈ tb := by
  refine u_wsIn (fun k hk => ?_)
  match k, hk with
  | 0, _ => exact tm 1085 (by decide +kernel) rfl
  | 1, _ => exact tm 1087 (by decide +kernel) rfl
  | 2, _ => exact tm 1089 (by decide +kernel) rfl
  | 3, _ => exact tm 1091 (by decide +kernel) rfl
  | 4, _ => exact tm 1093 (by decide +kernel) rfl
  | 5, _ => exact tm 1095 (by decide +kernel) rfl
  | 6, _ => exact tm 1097 (by decide +kernel) rfl
  | 7, _ => exact tm 1099 (by decide +kernel) rfl
  | 8, _ => exact tm 1101 (by decide +kernel) rfl
  | 9, _ => exact tm 1103 (by decide +kernel) rfl
  | 10, _ => exact tm 1105 (by decide +kernel) rfl
  | 11, _ => exact tm 1107 (by decide +kernel) rfl
  | 12, _ => exact tm 1109 (by decide +kernel) rfl
  | 13, _ => exact tm 1111 (by decide +kernel) rfl
  | 14, _ => exact tm 1113 (by decide +kernel) rfl
  | 15, _ => exact tm 1115 (by decide +kernel) rfl
  | 16, _ => exact tm 1117 (by decide +kernel) rfl
  | 17, _ => exact tm 1119 (by decide +kernel) rfl
  | 18, _ => exact tm 1121 (by decide +kernel) rfl
  | 19, _ => exact tm 1123 (by decide +kernel) rfl
  | 20, _ => exact tm 1125 (by decide +kernel) rfl
  | 21, _ => exact tm 1127 (by decide +kernel) rfl
  | 22, _ => exact tm 1129 (by decide +kernel) rfl
  | 23, _ => exact tm 1131 (by decide +kernel) rfl
  | 24, _ => exact tm 1133 (by decide +kernel) rfl
  | 25, _ => exact tm 1135 (by decide +kernel) rfl
  | k + 26, hk => exact absurd hk (by omega)
def R_Tree : String := "FelledByNames$Tree"
def F_Tree : u_T := fun k => match k with
  | 0 => ("FelledByNames$Tree", "kind", "I", true)
  | 1 => ("FelledByNames$Tree", "number", "I", true)
  | 2 => ("FelledByNames$Tree", "m", "I", false)
  | 3 => ("FelledByNames$Tree", "one", "I", false)
  | 4 => ("FelledByNames$Tree", "other", "I", false)
  | 5 => ("FelledByNames$Tree", "place", "I", false)
  | 6 => ("FelledByNames$Tree", "height", "I", false)
  | _ => ("FelledByNames$Tree", "standing", "Z", false)
def t_Tree : Nat → FieldType := fun k => match k with
  | 0 => .int
  | 1 => .int
  | 2 => .int
  | 3 => .int
  | 4 => .int
  | 5 => .int
  | 6 => .int
  | _ => .boolean
theorem n_Tree : ∀ a, a < 8 → ∀ b, b < 8 → a ≠ b → (F_Tree a).2.1 ≠ (F_Tree b).2.1 := by decide +kernel
theorem t_Tree_ok : ∀ k, k < 8 → parseFieldDescriptor (F_Tree k).2.2.1 = some (t_Tree k) := by decide +kernel
theorem i_Tree : ∀ w ∈ u_ws R_Tree F_Tree 8, w ∈ tb := by
  refine u_wsIn (fun k hk => ?_)
  match k, hk with
  | 0, _ => exact tm 152 (by decide +kernel) rfl
  | 1, _ => exact tm 154 (by decide +kernel) rfl
  | 2, _ => exact tm 156 (by decide +kernel) rfl
  | 3, _ => exact tm 158 (by decide +kernel) rfl
  | 4, _ => exact tm 160 (by decide +kernel) rfl
  | 5, _ => exact tm 162 (by decide +kernel) rfl
  | 6, _ => exact tm 164 (by decide +kernel) rfl
  | 7, _ => exact tm 166 (by decide +kernel) rfl
  | k + 8, hk => exact absurd hk (by omega)
def R_Beech : String := "FelledByNames$Beech"
def F_Beech : u_T := fun k => match k with
  | 0 => ("FelledByNames$Tree", "kind", "I", true)
  | 1 => ("FelledByNames$Tree", "number", "I", true)
  | 2 => ("FelledByNames$Tree", "m", "I", false)
  | 3 => ("FelledByNames$Tree", "one", "I", false)
  | 4 => ("FelledByNames$Tree", "other", "I", false)
  | 5 => ("FelledByNames$Tree", "place", "I", false)
  | 6 => ("FelledByNames$Tree", "height", "I", false)
  | _ => ("FelledByNames$Tree", "standing", "Z", false)
def t_Beech : Nat → FieldType := fun k => match k with
  | 0 => .int
  | 1 => .int
  | 2 => .int
  | 3 => .int
  | 4 => .int
  | 5 => .int
  | 6 => .int
  | _ => .boolean
theorem n_Beech : ∀ a, a < 8 → ∀ b, b < 8 → a ≠ b → (F_Beech a).2.1 ≠ (F_Beech b).2.1 := by decide +kernel
theorem t_Beech_ok : ∀ k, k < 8 → parseFieldDescriptor (F_Beech k).2.2.1 = some (t_Beech k) := by decide +kernel
theorem i_Beech : ∀ w ∈ u_ws R_Beech F_Beech 8, w ∈ tb := by
  refine u_wsIn (fun k hk => ?_)
  match k, hk with
  | 0, _ => exact tm 524 (by decide +kernel) rfl
  | 1, _ => exact tm 525 (by decide +kernel) rfl
  | 2, _ => exact tm 526 (by decide +kernel) rfl
  | 3, _ => exact tm 527 (by decide +kernel) rfl
  | 4, _ => exact tm 528 (by decide +kernel) rfl
  | 5, _ => exact tm 529 (by decide +kernel) rfl
  | 6, _ => exact tm 530 (by decide +kernel) rfl
  | 7, _ => exact tm 531 (by decide +kernel) rfl
  | k + 8, hk => exact absurd hk (by omega)
def R_Oak : String := "FelledByNames$Oak"
def F_Oak : u_T := fun k => match k with
  | 0 => ("FelledByNames$Tree", "kind", "I", true)
  | 1 => ("FelledByNames$Tree", "number", "I", true)
  | 2 => ("FelledByNames$Tree", "m", "I", false)
  | 3 => ("FelledByNames$Tree", "one", "I", false)
  | 4 => ("FelledByNames$Tree", "other", "I", false)
  | 5 => ("FelledByNames$Tree", "place", "I", false)
  | 6 => ("FelledByNames$Tree", "height", "I", false)
  | _ => ("FelledByNames$Tree", "standing", "Z", false)
def t_Oak : Nat → FieldType := fun k => match k with
  | 0 => .int
  | 1 => .int
  | 2 => .int
  | 3 => .int
  | 4 => .int
  | 5 => .int
  | 6 => .int
  | _ => .boolean
theorem n_Oak : ∀ a, a < 8 → ∀ b, b < 8 → a ≠ b → (F_Oak a).2.1 ≠ (F_Oak b).2.1 := by decide +kernel
theorem t_Oak_ok : ∀ k, k < 8 → parseFieldDescriptor (F_Oak k).2.2.1 = some (t_Oak k) := by decide +kernel
theorem i_Oak : ∀ w ∈ u_ws R_Oak F_Oak 8, w ∈ tb := by
  refine u_wsIn (fun k hk => ?_)
  match k, hk with
  | 0, _ => exact tm 539 (by decide +kernel) rfl
  | 1, _ => exact tm 540 (by decide +kernel) rfl
  | 2, _ => exact tm 541 (by decide +kernel) rfl
  | 3, _ => exact tm 542 (by decide +kernel) rfl
  | 4, _ => exact tm 543 (by decide +kernel) rfl
  | 5, _ => exact tm 544 (by decide +kernel) rfl
  | 6, _ => exact tm 545 (by decide +kernel) rfl
  | 7, _ => exact tm 546 (by decide +kernel) rfl
  | k + 8, hk => exact absurd hk (by omega)
def R_Sapling : String := "FelledByNames$Sapling"
def F_Sapling : u_T := fun k => match k with
  | 0 => ("FelledByNames$Tree", "kind", "I", true)
  | 1 => ("FelledByNames$Tree", "number", "I", true)
  | 2 => ("FelledByNames$Tree", "m", "I", false)
  | 3 => ("FelledByNames$Tree", "one", "I", false)
  | 4 => ("FelledByNames$Tree", "other", "I", false)
  | 5 => ("FelledByNames$Tree", "place", "I", false)
  | 6 => ("FelledByNames$Tree", "height", "I", false)
  | _ => ("FelledByNames$Tree", "standing", "Z", false)
def t_Sapling : Nat → FieldType := fun k => match k with
  | 0 => .int
  | 1 => .int
  | 2 => .int
  | 3 => .int
  | 4 => .int
  | 5 => .int
  | 6 => .int
  | _ => .boolean
theorem n_Sapling : ∀ a, a < 8 → ∀ b, b < 8 → a ≠ b → (F_Sapling a).2.1 ≠ (F_Sapling b).2.1 := by decide +kernel
theorem t_Sapling_ok : ∀ k, k < 8 → parseFieldDescriptor (F_Sapling k).2.2.1 = some (t_Sapling k) := by decide +kernel
theorem i_Sapling : ∀ w ∈ u_ws R_Sapling F_Sapling 8, w ∈ tb := by
  refine u_wsIn (fun k hk => ?_)
  match k, hk with
  | 0, _ => exact tm 554 (by decide +kernel) rfl
  | 1, _ => exact tm 555 (by decide +kernel) rfl
  | 2, _ => exact tm 556 (by decide +kernel) rfl
  | 3, _ => exact tm 557 (by decide +kernel) rfl
  | 4, _ => exact tm 558 (by decide +kernel) rfl
  | 5, _ => exact tm 559 (by decide +kernel) rfl
  | 6, _ => exact tm 560 (by decide +kernel) rfl
  | 7, _ => exact tm 561 (by decide +kernel) rfl
  | k + 8, hk => exact absurd hk (by omega)
def R_Wedged : String := "FelledByNames$Wedged"
def F_Wedged : u_T := fun k => match k with
  | 0 => ("FelledByNames$Tree", "kind", "I", true)
  | 1 => ("FelledByNames$Tree", "number", "I", true)
  | 2 => ("FelledByNames$Tree", "m", "I", false)
  | 3 => ("FelledByNames$Tree", "one", "I", false)
  | 4 => ("FelledByNames$Tree", "other", "I", false)
  | 5 => ("FelledByNames$Tree", "place", "I", false)
  | 6 => ("FelledByNames$Tree", "height", "I", false)
  | _ => ("FelledByNames$Tree", "standing", "Z", false)
def t_Wedged : Nat → FieldType := fun k => match k with
  | 0 => .int
  | 1 => .int
  | 2 => .int
  | 3 => .int
  | 4 => .int
  | 5 => .int
  | 6 => .int
  | _ => .boolean
theorem n_Wedged : ∀ a, a < 8 → ∀ b, b < 8 → a ≠ b → (F_Wedged a).2.1 ≠ (F_Wedged b).2.1 := by decide +kernel
theorem t_Wedged_ok : ∀ k, k < 8 → parseFieldDescriptor (F_Wedged k).2.2.1 = some (t_Wedged k) := by decide +kernel
theorem i_Wedged : ∀ w ∈ u_ws R_Wedged F_Wedged 8, w ∈ tb := by
  refine u_wsIn (fun k hk => ?_)
  match k, hk with
  | 0, _ => exact tm 569 (by decide +kernel) rfl
  | 1, _ => exact tm 570 (by decide +kernel) rfl
  | 2, _ => exact tm 571 (by decide +kernel) rfl
  | 3, _ => exact tm 572 (by decide +kernel) rfl
  | 4, _ => exact tm 573 (by decide +kernel) rfl
  | 5, _ => exact tm 574 (by decide +kernel) rfl
  | 6, _ => exact tm 575 (by decide +kernel) rfl
  | 7, _ => exact tm 576 (by decide +kernel) rfl
  | k + 8, hk => exact absurd hk (by omega)
def R_Hollow : String := "FelledByNames$Hollow"
def F_Hollow : u_T := fun k => match k with
  | 0 => ("FelledByNames$Tree", "kind", "I", true)
  | 1 => ("FelledByNames$Tree", "number", "I", true)
  | 2 => ("FelledByNames$Tree", "m", "I", false)
  | 3 => ("FelledByNames$Tree", "one", "I", false)
  | 4 => ("FelledByNames$Tree", "other", "I", false)
  | 5 => ("FelledByNames$Tree", "place", "I", false)
  | 6 => ("FelledByNames$Tree", "height", "I", false)
  | _ => ("FelledByNames$Tree", "standing", "Z", false)
def t_Hollow : Nat → FieldType := fun k => match k with
  | 0 => .int
  | 1 => .int
  | 2 => .int
  | 3 => .int
  | 4 => .int
  | 5 => .int
  | 6 => .int
  | _ => .boolean
theorem n_Hollow : ∀ a, a < 8 → ∀ b, b < 8 → a ≠ b → (F_Hollow a).2.1 ≠ (F_Hollow b).2.1 := by decide +kernel
theorem t_Hollow_ok : ∀ k, k < 8 → parseFieldDescriptor (F_Hollow k).2.2.1 = some (t_Hollow k) := by decide +kernel
theorem i_Hollow : ∀ w ∈ u_ws R_Hollow F_Hollow 8, w ∈ tb := by
  refine u_wsIn (fun k hk => ?_)
  match k, hk with
  | 0, _ => exact tm 584 (by decide +kernel) rfl
  | 1, _ => exact tm 585 (by decide +kernel) rfl
  | 2, _ => exact tm 586 (by decide +kernel) rfl
  | 3, _ => exact tm 587 (by decide +kernel) rfl
  | 4, _ => exact tm 588 (by decide +kernel) rfl
  | 5, _ => exact tm 589 (by decide +kernel) rfl
  | 6, _ => exact tm 590 (by decide +kernel) rfl
  | 7, _ => exact tm 591 (by decide +kernel) rfl
  | k + 8, hk => exact absurd hk (by omega)
def R_Hill : String := "FelledByNames$Hill"
def F_Hill : u_T := fun k => match k with
  | 0 => ("FelledByNames$Tree", "kind", "I", true)
  | 1 => ("FelledByNames$Tree", "number", "I", true)
  | 2 => ("FelledByNames$Tree", "m", "I", false)
  | 3 => ("FelledByNames$Tree", "one", "I", false)
  | 4 => ("FelledByNames$Tree", "other", "I", false)
  | 5 => ("FelledByNames$Tree", "place", "I", false)
  | 6 => ("FelledByNames$Tree", "height", "I", false)
  | _ => ("FelledByNames$Tree", "standing", "Z", false)
def t_Hill : Nat → FieldType := fun k => match k with
  | 0 => .int
  | 1 => .int
  | 2 => .int
  | 3 => .int
  | 4 => .int
  | 5 => .int
  | 6 => .int
  | _ => .boolean
theorem n_Hill : ∀ a, a < 8 → ∀ b, b < 8 → a ≠ b → (F_Hill a).2.1 ≠ (F_Hill b).2.1 := by decide +kernel
theorem t_Hill_ok : ∀ k, k < 8 → parseFieldDescriptor (F_Hill k).2.2.1 = some (t_Hill k) := by decide +kernel
theorem i_Hill : ∀ w ∈ u_ws R_Hill F_Hill 8, w ∈ tb := by
  refine u_wsIn (fun k hk => ?_)
  match k, hk with
  | 0, _ => exact tm 599 (by decide +kernel) rfl
  | 1, _ => exact tm 600 (by decide +kernel) rfl
  | 2, _ => exact tm 601 (by decide +kernel) rfl
  | 3, _ => exact tm 602 (by decide +kernel) rfl
  | 4, _ => exact tm 603 (by decide +kernel) rfl
  | 5, _ => exact tm 604 (by decide +kernel) rfl
  | 6, _ => exact tm 605 (by decide +kernel) rfl
  | 7, _ => exact tm 606 (by decide +kernel) rfl
  | k + 8, hk => exact absurd hk (by omega)
abbrev cls : List vw_C := [(R_F, F_F, 15), (R_Row, F_Row, 2), (R_Sheet, F_Sheet, 3), (R_Text, F_Text, 11), (R_World, F_World, 14), (R_Mo, F_Mo, 26), (R_Tree, F_Tree, 8), (R_Beech, F_Beech, 8), (R_Oak, F_Oak, 8), (R_Sapling, F_Sapling, 8), (R_Wedged, F_Wedged, 8), (R_Hollow, F_Hollow, 8), (R_Hill, F_Hill, 8)]
end
section
/-! ===== the abstract heap: cells by small numbers, B + a the machine's own address of cell a; constants by numbers of their own ===== -/
abbrev AE : Type := (Nat × vp_A) ⊕ (Nat × List Value)
abbrev HP : Type := Nat → Option AE
/-- where the new cells begin, the places of the constants, the classes of arrays, classes and slots, the script -/
abbrev Ev : Type := Nat × (Nat → Nat) × (Nat → ClassId) × va_G × Nat × (Nat → Int32)
def tV (E : Ev) (v : Value) : Value := match v with
  | .ref a => .ref (E.1 + a)
  | .float k => .ref (E.2.1 k.toNat)
  | .int x => .int x
  | .long x => .long x
  | .double x => .double x
  | .null => .null
  | .retAddr x => .retAddr x
abbrev AX : Type := (Nat → Int32) ⊕ (Nat → Int64) ⊕ (Nat → UInt32) ⊕ (Nat → UInt64) ⊕ (Nat → Option Nat)
def tX (B : Nat) (x : AX) : AX := match x with
  | .inl f => .inl f
  | .inr (.inl f) => .inr (.inl f)
  | .inr (.inr (.inl f)) => .inr (.inr (.inl f))
  | .inr (.inr (.inr (.inl f))) => .inr (.inr (.inr (.inl f)))
  | .inr (.inr (.inr (.inr f))) => .inr (.inr (.inr (.inr (fun i => (f i).map (fun a => B + a)))))
def tE (E : Ev) (e : AE) : va_E := match e with
  | .inl (k, n, x) => .inl (E.2.2.1 k, n, tX E.1 x)
  | .inr (ci, fs) => .inr (ci, fs.map (tV E))
def HR (E : Ev) (n : Nat) (h : HP) (H : Heap) : Prop := H.size = E.1 + n ∧ ∀ (a : Nat) (e : AE), h a = some e → a < n ∧ va_at E.2.2.2.1 cls (E.1 + a, tE E e) H
def up (h : HP) (a : Nat) (e : AE) : HP := fun x => if x = a then some e else h x
theorem up_s {h : HP} {a : Nat} {e : AE} : up h a e a = some e := if_pos rfl
theorem up_n {h : HP} {a b : Nat} {e : AE} (hn : b ≠ a) : up h a e b = h b := if_neg hn
theorem tV_cat (E : Ev) (v : Value) : (tV E v).category = v.category := by cases v <;> rfl
theorem HR.set {E : Ev} {n a : Nat} {h : HP} {e0 e : AE} {H H1 : Heap} (hH : HR E n h H) (ha : h a = some e0) (he : va_at E.2.2.2.1 cls (E.1 + a, tE E e) H1) (hz : H1.size = H.size) (ho : ∀ q, q ≠ E.1 + a → H1[q]? = H[q]?) : HR E n (up h a e) H1 := by
  refine ⟨by rw [hz]; exact hH.1, fun x e' hx => ?_⟩
  by_cases hxa : x = a
  · subst hxa
    rw [up_s] at hx
    cases hx
    exact ⟨(hH.2 _ _ ha).1, he⟩
  · rw [up_n hxa] at hx
    exact ⟨(hH.2 _ _ hx).1, (hH.2 _ _ hx).2.kept (ho _ (by show E.1 + x ≠ E.1 + a; omega))⟩
theorem HR.push {E : Ev} {n : Nat} {h : HP} {e : AE} {H H1 : Heap} (hH : HR E n h H) (he : va_at E.2.2.2.1 cls (E.1 + n, tE E e) H1) (hz : H1.size = E.1 + n + 1) (ho : ∀ q, q < E.1 + n → H1[q]? = H[q]?) : HR E (n + 1) (up h n e) H1 := by
  refine ⟨by rw [hz]; omega, fun x e' hx => ?_⟩
  by_cases hxa : x = n
  · subst hxa
    rw [up_s] at hx
    cases hx
    exact ⟨by omega, he⟩
  · rw [up_n hxa] at hx
    have h1 := (hH.2 _ _ hx).1
    exact ⟨by omega, (hH.2 _ _ hx).2.kept (ho _ (by show E.1 + x < E.1 + n; omega))⟩
/-- since the method began: what is older than all that is made here is as it was -/
def Sx (E : Ev) (s : State) (H : Heap) (locs : List Loc) : Prop := E.1 ≤ s.heap.size ∧ (∀ q, q < E.1 → H[q]? = s.heap[q]?) ∧ ∀ l ∈ locs, E.1 ≤ l.base
abbrev EA (E : Ev) : Nat → Prop := fun q => E.1 ≤ q
def tys (E : Ev) : List (ClassId × FieldType) := [(E.2.2.1 0, .int), (E.2.2.1 1, .byte), (E.2.2.1 2, .object "FelledByNames$Tree"), (E.2.2.1 3, .object "FelledByNames$Sheet")]
/-- the texts among the constants: who names them, where, what they are -/
def txs : List (String × Nat × String) := [("FelledByNames", 20, "htd"), ("FelledByNames", 29, "xmp"), ("FelledByNames", 81, "0-t"), ("FelledByNames", 87, "x"), ("FelledByNames$Text", 95, "|"), ("FelledByNames$Text", 97, "&"), ("FelledByNames$Text", 99, "<=>"), ("FelledByNames$Text", 101, "+-"), ("FelledByNames$Text", 103, "*/%"), ("FelledByNames$Text", 133, ")")]
def txl : List Nat := [3, 3, 3, 1, 1, 1, 3, 2, 3, 1]
def txb : List (List Int32) := [[104, 116, 100], [120, 109, 112], [48, 45, 116], [120], [124], [38], [60, 61, 62], [43, 45], [42, 47, 37], [41]]
/-- pairs of KINDS that aren't so related -/
def ncs : List (String × String) := ["FelledByNames$Tree", "FelledByNames$Beech", "FelledByNames$Oak", "FelledByNames$Sapling", "FelledByNames$Wedged", "FelledByNames$Hollow", "FelledByNames$Hill"].flatMap (fun a => (["FelledByNames$Beech", "FelledByNames$Oak", "FelledByNames$Sapling", "FelledByNames$Wedged", "FelledByNames$Hollow", "FelledByNames$Hill"].filter (fun b => !(a == b) && !([("FelledByNames$Wedged", "FelledByNames$Beech"), ("FelledByNames$Hollow", "FelledByNames$Oak"), ("FelledByNames$Hill", "FelledByNames$Sapling")].contains (a, b)))).map (fun b => (a, b)))
def Gx (E : Ev) (U : State) (H : Heap) : Prop := va_K E.2.2.2.1 cls (tys E) U ∧ (∀ q ∈ ncs, va_Nc q.1 q.2 U) ∧ vk_S 10 txl txb (fun i => E.2.1 i) (fun i => E.2.1 (100 + i)) (EA E) U H ∧ (∀ (i : Nat) (q : String × Nat × String), txs[i]? = some q → vk_R q.1 q.2.1 q.2.2 (E.2.1 i) U) ∧ va_Z "java/lang/String" "COMPACT_STRINGS" "Z" (.int 1) (EA E) U H ∧ va_T .int (E.2.1 200) E.2.2.2.2.1 (fun j => .int (E.2.2.2.2.2 j)) (EA E) U H
theorem Gx.go {E : Ev} {s U : State} (h : Gx E s s.heap) (hW : s.WarmedH U.vm) (hq : ∀ q, q < E.1 → U.heap[q]? = s.heap[q]?) : Gx E U U.heap := by
  have hk : ∀ a : Nat, a < s.heap.size → ¬ EA E a → U.heap[a]? = s.heap[a]? := fun a _ h2 => hq a (Nat.not_le.mp h2)
  obtain ⟨h1, h2, h3, h4, h5, h6⟩ := h
  exact ⟨h1.moved hW.alike, fun q hq => (h2 q hq).moved hW.alike, (h3.kept hk).moved hW.alike, fun i q hi => (h4 i q hi).warm hW, (h5.kept hk).moved hW.alike, (h6.kept hk).moved hW.alike⟩
theorem Gx.call {E : Ev} {U : State} {g : JFrame} {mk : MethodId} {a : Array Value} (h : Gx E U U.heap) : Gx E (U.calling g mk a) (U.calling g mk a).heap := by
  obtain ⟨h1, h2, h3, h4, h5, h6⟩ := h
  have hr : U.vm.Alike (U.calling g mk a).vm := Vm.Alike.refl U.vm
  exact ⟨h1.moved hr, fun q hq => (h2 q hq).moved hr, h3.moved hr, fun i q hi => vk_R.same rfl (h4 i q hi), h5.moved hr, h6.moved hr⟩
/-! ===== a method: its name, its bytes, its locals, its answer ===== -/
abbrev MD : Type := MethodName × ByteArray × Nat × Option FieldType
def wsM (M : MD) : List Cond := Cond.code M.1 M.2.1 M.2.2.1 M.2.2.2 :: tb
def rmd (d mc ms : Nat) : Room := { frames := d, cells := mc, slots := ms, locals := 64 * d }
abbrev QT : Type := Option Value → Nat → HP → Prop
def Pst (E : Ev) (Q : QT) : Array Value → State → Outcome → State → Prop := fun _ st oc t => ∃ (r : Option Value) (n : Nat) (h : HP), oc = .returned (r.map (tV E)) ∧ Q r n h ∧ HR E n h t.heap ∧ ∀ q, q < E.1 → t.heap[q]? = st.heap[q]?
def Pre (E : Ev) (n : Nat) (h : HP) (U : State) : Prop := HR E n h U.heap ∧ Gx E U U.heap ∧ E.1 ≤ U.heap.size
/-- A CONTRACT: from the heap h of n cells, with arguments vs: the method returns, with Q; depth d, at most mc cells of ms slots are made -/
def Ct (l : Launch) (M : MD) (d mc ms : Nat) (vs : List Value) (n : Nat) (h : HP) (Q : QT) : Prop :=
  ∀ E : Ev, Met l M.1 (wsM M) (rmd d mc ms) (va_Pc (vs.map (tV E)) (Pre E n h)) (Pst E Q) mc ms (EA E)
/-- what a walk through M's body takes along -/
def Cx (M : MD) (E : Ev) (p : Program) (s : State) (m : MethodId) (args : Array Value) (meth : Method) (c : Code) : Prop :=
  p.tables.exec = Jvm.exec ∧ c.code = M.2.1 ∧ c.maxLocals = M.2.2.1 ∧ meth.sig.returnType = M.2.2.2 ∧ s.vm.findClass M.1.cls = some m.cls ∧ (∀ w ∈ tb, w.before args s = true) ∧ meth.locks = false ∧ meth.name = M.1.name ∧ Gx E s s.heap
def tL (E : Ev) (ls : List (Nat × Value)) : List (Nat × Value) := ls.map (fun q => (q.1, tV E q.2))
/-- THE WALK: M stands at pc, with locals ls, stack st, heap h of n cells, c cells of s slots made: it comes to its end, with Q -/
def V (l : Launch) (M : MD) (d mc ms pc : Nat) (ls : List (Nat × Value)) (st : List Value) (n : Nat) (h : HP) (c s : Nat) (Q : QT) : Prop :=
  ∀ (E : Ev) (p : Program) (e : Env) (s0 : State) (m : MethodId) (args : Array Value) (below : List Frame) (meth : Method) (cd : Code), Cx M E p s0 m args meth cd →
    ∀ (H : Heap) (locs : List Loc) (lm : Array Slot), HR E n h H → Sx E s0 H locs → lv_has lm M.2.2.1 (tL E ls) →
      W p l e (rmd d mc ms) s0 m args below meth cd H locs c s (MQ below (Pst E Q) args s0 mc ms (EA E)) (F0 m pc lm (st.map (tV E)))
theorem lv_args_map (E : Ev) : ∀ (vs : List Value) (i : Nat), lv_args i (vs.map (tV E)) = tL E (lv_args i vs) := by
  intro vs
  induction vs with
  | nil => intro i; rfl
  | cons v vs ih =>
    intro i
    show (i, tV E v) :: lv_args (if (tV E v).category = 2 then i + 2 else i + 1) (vs.map (tV E)) = (i, tV E v) :: tL E (lv_args (if v.category = 2 then i + 2 else i + 1) vs)
    rw [tV_cat, ih]
theorem lg_sl_len (E : Ev) : ∀ vs : List Value, (lg_sl (vs.map (tV E))).length = (lg_sl vs).length := by
  intro vs
  induction vs with
  | nil => rfl
  | cons v vs ih =>
    have e1 : lg_sl ((v :: vs).map (tV E)) = (if (tV E v).category = 2 then [Slot.val (tV E v), .second] else [.val (tV E v)]) ++ lg_sl (vs.map (tV E)) := by simp [lg_sl]
    have e2 : lg_sl (v :: vs) = (if v.category = 2 then [Slot.val v, .second] else [.val v]) ++ lg_sl vs := by simp [lg_sl]
    rw [e1, e2, List.length_append, List.length_append, ih, tV_cat]
    by_cases hc : v.category = 2 <;> simp [hc]
/-- a contract out of a walk from the method's first instruction -/
theorem Ct.of {l : Launch} {M : MD} {d mc ms : Nat} {vs : List Value} {n : Nat} {h : HP} {Q : QT} (hp : plainName M.1.cls = true) (hv : (lg_sl vs).length ≤ M.2.2.1) (k : V l M d mc ms 0 (lv_args 0 vs) [] n h 0 0 Q) : Ct l M d mc ms vs n h Q := by
  intro E
  refine Met.ofW (cc := M.2.1) (maxL := M.2.2.1) (ret := M.2.2.2) hp rfl ?_
  intro p e s m args below meth c s₁ B hml hpre
  obtain ⟨rfl, hH, hG, hB⟩ := hpre
  have hts : ∀ w ∈ tb, w.before (vs.map (tV E)).toArray s = true := fun w hw => atoms_spec (ws := wsM M) B.pre w (List.mem_cons_of_mem _ hw)
  have hl := lv_entry (vs.map (tV E)) (n := M.2.2.1) (by rw [lg_sl_len]; exact hv)
  rw [lg_entry_eq]
  rw [lv_args_map] at hl
  exact k E p e s m _ below meth c ⟨B.exec, B.bytes, hml, B.returns, findClass_of_methodNamed B.named, hts, B.notSynchronized, (name_of_methodNamed B.named B.method).1, hG⟩ s.heap [] _ hH ⟨hB, fun _ _ => rfl, fun _ h => by cases h⟩ hl
end
