section
-- ===== PART A: goes FIRST, ahead of the names: the tables' words, and 'selects' of the private methods out of them =====
/-- a private method of a class that the tables say can be made, by its rows of tables_1 -/
def lw_okq (q : MethodName × Nat) : Prop := (q.1.cls ≠ "java/lang/invoke/MethodHandle" ∧ q.1.cls ≠ "java/lang/invoke/VarHandle") ∧ Cond.instantiable q.1.cls q.2 ∈ tables_1 ∧ Cond.privateMethod q.1 ∈ tables_1 ∧ Cond.instanceMethod q.1 ∈ tables_1
theorem lw_p0 : lw_okq (⟨"OneFriend$Village", "amissBy", "(I)I"⟩, 15) := ⟨⟨by decide +kernel, by decide +kernel⟩, List.mem_of_getElem? (i := 32) (by decide +kernel), List.mem_of_getElem? (i := 341) (by decide +kernel), List.mem_of_getElem? (i := 342) (by decide +kernel)⟩
theorem lw_p1 : lw_okq (⟨"OneFriend$Village", "asTownSays", "(II)I"⟩, 15) := ⟨⟨by decide +kernel, by decide +kernel⟩, List.mem_of_getElem? (i := 32) (by decide +kernel), List.mem_of_getElem? (i := 407) (by decide +kernel), List.mem_of_getElem? (i := 408) (by decide +kernel)⟩
theorem lw_p2 : lw_okq (⟨"OneFriend$Town", "holds", "(I[I)Z"⟩, 9) := ⟨⟨by decide +kernel, by decide +kernel⟩, List.mem_of_getElem? (i := 112) (by decide +kernel), List.mem_of_getElem? (i := 419) (by decide +kernel), List.mem_of_getElem? (i := 420) (by decide +kernel)⟩
theorem lw_p3 : lw_okq (⟨"OneFriend", "refusalOfTwo", "(II)I"⟩, 12) := ⟨⟨by decide +kernel, by decide +kernel⟩, List.mem_of_getElem? (i := 24) (by decide +kernel), List.mem_of_getElem? (i := 441) (by decide +kernel), List.mem_of_getElem? (i := 442) (by decide +kernel)⟩
theorem lw_p4 : lw_okq (⟨"OneFriend$Town", "takes", "(C)Z"⟩, 9) := ⟨⟨by decide +kernel, by decide +kernel⟩, List.mem_of_getElem? (i := 112) (by decide +kernel), List.mem_of_getElem? (i := 499) (by decide +kernel), List.mem_of_getElem? (i := 500) (by decide +kernel)⟩
theorem lw_p5 : lw_okq (⟨"OneFriend$Town", "takesClause", "(I)Z"⟩, 9) := ⟨⟨by decide +kernel, by decide +kernel⟩, List.mem_of_getElem? (i := 112) (by decide +kernel), List.mem_of_getElem? (i := 503) (by decide +kernel), List.mem_of_getElem? (i := 504) (by decide +kernel)⟩
theorem lw_p6 : lw_okq (⟨"OneFriend$Town", "takenWord", "()I"⟩, 9) := ⟨⟨by decide +kernel, by decide +kernel⟩, List.mem_of_getElem? (i := 112) (by decide +kernel), List.mem_of_getElem? (i := 507) (by decide +kernel), List.mem_of_getElem? (i := 508) (by decide +kernel)⟩
theorem lw_p7 : lw_okq (⟨"OneFriend$Town", "takenOneOf", "(Ljava/lang/String;)I"⟩, 9) := ⟨⟨by decide +kernel, by decide +kernel⟩, List.mem_of_getElem? (i := 112) (by decide +kernel), List.mem_of_getElem? (i := 512) (by decide +kernel), List.mem_of_getElem? (i := 513) (by decide +kernel)⟩
theorem lw_p8 : lw_okq (⟨"OneFriend$Town", "takesAll", "(Ljava/lang/String;)Z"⟩, 9) := ⟨⟨by decide +kernel, by decide +kernel⟩, List.mem_of_getElem? (i := 112) (by decide +kernel), List.mem_of_getElem? (i := 590) (by decide +kernel), List.mem_of_getElem? (i := 591) (by decide +kernel)⟩
theorem lw_p9 : lw_okq (⟨"OneFriend$Town", "takenNumber", "()I"⟩, 9) := ⟨⟨by decide +kernel, by decide +kernel⟩, List.mem_of_getElem? (i := 112) (by decide +kernel), List.mem_of_getElem? (i := 617) (by decide +kernel), List.mem_of_getElem? (i := 618) (by decide +kernel)⟩
theorem lw_p10 : lw_okq (⟨"OneFriend$Town", "takesEither", "(I)Z"⟩, 9) := ⟨⟨by decide +kernel, by decide +kernel⟩, List.mem_of_getElem? (i := 112) (by decide +kernel), List.mem_of_getElem? (i := 622) (by decide +kernel), List.mem_of_getElem? (i := 623) (by decide +kernel)⟩
theorem lw_p11 : lw_okq (⟨"OneFriend$Town", "takesBoth", "(I)Z"⟩, 9) := ⟨⟨by decide +kernel, by decide +kernel⟩, List.mem_of_getElem? (i := 112) (by decide +kernel), List.mem_of_getElem? (i := 626) (by decide +kernel), List.mem_of_getElem? (i := 627) (by decide +kernel)⟩
theorem lw_p12 : lw_okq (⟨"OneFriend$Town", "takesFactor", "(I)Z"⟩, 9) := ⟨⟨by decide +kernel, by decide +kernel⟩, List.mem_of_getElem? (i := 112) (by decide +kernel), List.mem_of_getElem? (i := 630) (by decide +kernel), List.mem_of_getElem? (i := 631) (by decide +kernel)⟩
theorem lw_p13 : lw_okq (⟨"OneFriend$Town", "keep", "(I)V"⟩, 9) := ⟨⟨by decide +kernel, by decide +kernel⟩, List.mem_of_getElem? (i := 112) (by decide +kernel), List.mem_of_getElem? (i := 634) (by decide +kernel), List.mem_of_getElem? (i := 635) (by decide +kernel)⟩
theorem lw_p14 : lw_okq (⟨"OneFriend", "offer", "(IIII)V"⟩, 12) := ⟨⟨by decide +kernel, by decide +kernel⟩, List.mem_of_getElem? (i := 24) (by decide +kernel), List.mem_of_getElem? (i := 692) (by decide +kernel), List.mem_of_getElem? (i := 693) (by decide +kernel)⟩
theorem lw_p15 : lw_okq (⟨"OneFriendModel", "in", "(III)Z"⟩, 61) := ⟨⟨by decide +kernel, by decide +kernel⟩, List.mem_of_getElem? (i := 931) (by decide +kernel), List.mem_of_getElem? (i := 1126) (by decide +kernel), List.mem_of_getElem? (i := 1127) (by decide +kernel)⟩
def lw_privs_1 : List (MethodName × Nat) := [(⟨"OneFriend$Village", "amissBy", "(I)I"⟩, 15), (⟨"OneFriend$Village", "asTownSays", "(II)I"⟩, 15), (⟨"OneFriend$Town", "holds", "(I[I)Z"⟩, 9), (⟨"OneFriend", "refusalOfTwo", "(II)I"⟩, 12), (⟨"OneFriend$Town", "takes", "(C)Z"⟩, 9), (⟨"OneFriend$Town", "takesClause", "(I)Z"⟩, 9), (⟨"OneFriend$Town", "takenWord", "()I"⟩, 9), (⟨"OneFriend$Town", "takenOneOf", "(Ljava/lang/String;)I"⟩, 9), (⟨"OneFriend$Town", "takesAll", "(Ljava/lang/String;)Z"⟩, 9), (⟨"OneFriend$Town", "takenNumber", "()I"⟩, 9), (⟨"OneFriend$Town", "takesEither", "(I)Z"⟩, 9), (⟨"OneFriend$Town", "takesBoth", "(I)Z"⟩, 9), (⟨"OneFriend$Town", "takesFactor", "(I)Z"⟩, 9), (⟨"OneFriend$Town", "keep", "(I)V"⟩, 9), (⟨"OneFriend", "offer", "(IIII)V"⟩, 12), (⟨"OneFriendModel", "in", "(III)Z"⟩, 61)]
theorem lw_r1 : ∀ q ∈ lw_privs_1, lw_okq q := List.forall_mem_cons.mpr ⟨lw_p0, List.forall_mem_cons.mpr ⟨lw_p1, List.forall_mem_cons.mpr ⟨lw_p2, List.forall_mem_cons.mpr ⟨lw_p3, List.forall_mem_cons.mpr ⟨lw_p4, List.forall_mem_cons.mpr ⟨lw_p5, List.forall_mem_cons.mpr ⟨lw_p6, List.forall_mem_cons.mpr ⟨lw_p7, List.forall_mem_cons.mpr ⟨lw_p8, List.forall_mem_cons.mpr ⟨lw_p9, List.forall_mem_cons.mpr ⟨lw_p10, List.forall_mem_cons.mpr ⟨lw_p11, List.forall_mem_cons.mpr ⟨lw_p12, List.forall_mem_cons.mpr ⟨lw_p13, List.forall_mem_cons.mpr ⟨lw_p14, List.forall_mem_cons.mpr ⟨lw_p15, fun _ h => absurd h List.not_mem_nil⟩⟩⟩⟩⟩⟩⟩⟩⟩⟩⟩⟩⟩⟩⟩⟩
theorem lw_p16 : lw_okq (⟨"OneFriendModel", "lay", "(III)V"⟩, 61) := ⟨⟨by decide +kernel, by decide +kernel⟩, List.mem_of_getElem? (i := 931) (by decide +kernel), List.mem_of_getElem? (i := 1130) (by decide +kernel), List.mem_of_getElem? (i := 1131) (by decide +kernel)⟩
theorem lw_p17 : lw_okq (⟨"OneFriendModel", "isPerson", "(I)Z"⟩, 61) := ⟨⟨by decide +kernel, by decide +kernel⟩, List.mem_of_getElem? (i := 931) (by decide +kernel), List.mem_of_getElem? (i := 1138) (by decide +kernel), List.mem_of_getElem? (i := 1139) (by decide +kernel)⟩
theorem lw_p18 : lw_okq (⟨"OneFriendModel", "has", "(II)Z"⟩, 61) := ⟨⟨by decide +kernel, by decide +kernel⟩, List.mem_of_getElem? (i := 931) (by decide +kernel), List.mem_of_getElem? (i := 1142) (by decide +kernel), List.mem_of_getElem? (i := 1143) (by decide +kernel)⟩
theorem lw_p19 : lw_okq (⟨"OneFriendModel", "turns", "(II)V"⟩, 61) := ⟨⟨by decide +kernel, by decide +kernel⟩, List.mem_of_getElem? (i := 931) (by decide +kernel), List.mem_of_getElem? (i := 1146) (by decide +kernel), List.mem_of_getElem? (i := 1147) (by decide +kernel)⟩
theorem lw_p20 : lw_okq (⟨"OneFriendModel", "pairOf", "(II)I"⟩, 61) := ⟨⟨by decide +kernel, by decide +kernel⟩, List.mem_of_getElem? (i := 931) (by decide +kernel), List.mem_of_getElem? (i := 1154) (by decide +kernel), List.mem_of_getElem? (i := 1155) (by decide +kernel)⟩
theorem lw_p21 : lw_okq (⟨"OneFriendModel", "goesText", "(I)Z"⟩, 61) := ⟨⟨by decide +kernel, by decide +kernel⟩, List.mem_of_getElem? (i := 931) (by decide +kernel), List.mem_of_getElem? (i := 1170) (by decide +kernel), List.mem_of_getElem? (i := 1171) (by decide +kernel)⟩
theorem lw_p22 : lw_okq (⟨"OneFriendModel", "takesClause", "(I)Z"⟩, 61) := ⟨⟨by decide +kernel, by decide +kernel⟩, List.mem_of_getElem? (i := 931) (by decide +kernel), List.mem_of_getElem? (i := 1174) (by decide +kernel), List.mem_of_getElem? (i := 1175) (by decide +kernel)⟩
theorem lw_p23 : lw_okq (⟨"OneFriendModel", "takesHead", "(I)Z"⟩, 61) := ⟨⟨by decide +kernel, by decide +kernel⟩, List.mem_of_getElem? (i := 931) (by decide +kernel), List.mem_of_getElem? (i := 1178) (by decide +kernel), List.mem_of_getElem? (i := 1179) (by decide +kernel)⟩
theorem lw_p24 : lw_okq (⟨"OneFriendModel", "peek", "()I"⟩, 61) := ⟨⟨by decide +kernel, by decide +kernel⟩, List.mem_of_getElem? (i := 931) (by decide +kernel), List.mem_of_getElem? (i := 1182) (by decide +kernel), List.mem_of_getElem? (i := 1183) (by decide +kernel)⟩
theorem lw_p25 : lw_okq (⟨"OneFriendModel", "takesWord", "(II)Z"⟩, 61) := ⟨⟨by decide +kernel, by decide +kernel⟩, List.mem_of_getElem? (i := 931) (by decide +kernel), List.mem_of_getElem? (i := 1186) (by decide +kernel), List.mem_of_getElem? (i := 1187) (by decide +kernel)⟩
theorem lw_p26 : lw_okq (⟨"OneFriendModel", "takes", "(I)Z"⟩, 61) := ⟨⟨by decide +kernel, by decide +kernel⟩, List.mem_of_getElem? (i := 931) (by decide +kernel), List.mem_of_getElem? (i := 1190) (by decide +kernel), List.mem_of_getElem? (i := 1191) (by decide +kernel)⟩
theorem lw_p27 : lw_okq (⟨"OneFriendModel", "takesNumber", "()Z"⟩, 61) := ⟨⟨by decide +kernel, by decide +kernel⟩, List.mem_of_getElem? (i := 931) (by decide +kernel), List.mem_of_getElem? (i := 1194) (by decide +kernel), List.mem_of_getElem? (i := 1195) (by decide +kernel)⟩
theorem lw_p28 : lw_okq (⟨"OneFriendModel", "isDigit", "()Z"⟩, 61) := ⟨⟨by decide +kernel, by decide +kernel⟩, List.mem_of_getElem? (i := 931) (by decide +kernel), List.mem_of_getElem? (i := 1198) (by decide +kernel), List.mem_of_getElem? (i := 1199) (by decide +kernel)⟩
theorem lw_p29 : lw_okq (⟨"OneFriendModel", "takesE", "(I)Z"⟩, 61) := ⟨⟨by decide +kernel, by decide +kernel⟩, List.mem_of_getElem? (i := 931) (by decide +kernel), List.mem_of_getElem? (i := 1202) (by decide +kernel), List.mem_of_getElem? (i := 1203) (by decide +kernel)⟩
theorem lw_p30 : lw_okq (⟨"OneFriendModel", "takesTest", "()Z"⟩, 61) := ⟨⟨by decide +kernel, by decide +kernel⟩, List.mem_of_getElem? (i := 931) (by decide +kernel), List.mem_of_getElem? (i := 1206) (by decide +kernel), List.mem_of_getElem? (i := 1207) (by decide +kernel)⟩
theorem lw_p31 : lw_okq (⟨"OneFriendModel", "place", "(I)I"⟩, 61) := ⟨⟨by decide +kernel, by decide +kernel⟩, List.mem_of_getElem? (i := 931) (by decide +kernel), List.mem_of_getElem? (i := 1210) (by decide +kernel), List.mem_of_getElem? (i := 1211) (by decide +kernel)⟩
def lw_privs_2 : List (MethodName × Nat) := [(⟨"OneFriendModel", "lay", "(III)V"⟩, 61), (⟨"OneFriendModel", "isPerson", "(I)Z"⟩, 61), (⟨"OneFriendModel", "has", "(II)Z"⟩, 61), (⟨"OneFriendModel", "turns", "(II)V"⟩, 61), (⟨"OneFriendModel", "pairOf", "(II)I"⟩, 61), (⟨"OneFriendModel", "goesText", "(I)Z"⟩, 61), (⟨"OneFriendModel", "takesClause", "(I)Z"⟩, 61), (⟨"OneFriendModel", "takesHead", "(I)Z"⟩, 61), (⟨"OneFriendModel", "peek", "()I"⟩, 61), (⟨"OneFriendModel", "takesWord", "(II)Z"⟩, 61), (⟨"OneFriendModel", "takes", "(I)Z"⟩, 61), (⟨"OneFriendModel", "takesNumber", "()Z"⟩, 61), (⟨"OneFriendModel", "isDigit", "()Z"⟩, 61), (⟨"OneFriendModel", "takesE", "(I)Z"⟩, 61), (⟨"OneFriendModel", "takesTest", "()Z"⟩, 61), (⟨"OneFriendModel", "place", "(I)I"⟩, 61)]
theorem lw_r2 : ∀ q ∈ lw_privs_2, lw_okq q := List.forall_mem_cons.mpr ⟨lw_p16, List.forall_mem_cons.mpr ⟨lw_p17, List.forall_mem_cons.mpr ⟨lw_p18, List.forall_mem_cons.mpr ⟨lw_p19, List.forall_mem_cons.mpr ⟨lw_p20, List.forall_mem_cons.mpr ⟨lw_p21, List.forall_mem_cons.mpr ⟨lw_p22, List.forall_mem_cons.mpr ⟨lw_p23, List.forall_mem_cons.mpr ⟨lw_p24, List.forall_mem_cons.mpr ⟨lw_p25, List.forall_mem_cons.mpr ⟨lw_p26, List.forall_mem_cons.mpr ⟨lw_p27, List.forall_mem_cons.mpr ⟨lw_p28, List.forall_mem_cons.mpr ⟨lw_p29, List.forall_mem_cons.mpr ⟨lw_p30, List.forall_mem_cons.mpr ⟨lw_p31, fun _ h => absurd h List.not_mem_nil⟩⟩⟩⟩⟩⟩⟩⟩⟩⟩⟩⟩⟩⟩⟩⟩
theorem lw_p32 : lw_okq (⟨"OneFriendModel", "emits", "(I)V"⟩, 61) := ⟨⟨by decide +kernel, by decide +kernel⟩, List.mem_of_getElem? (i := 931) (by decide +kernel), List.mem_of_getElem? (i := 1214) (by decide +kernel), List.mem_of_getElem? (i := 1215) (by decide +kernel)⟩
theorem lw_p33 : lw_okq (⟨"OneFriendModel", "whole", "()V"⟩, 61) := ⟨⟨by decide +kernel, by decide +kernel⟩, List.mem_of_getElem? (i := 931) (by decide +kernel), List.mem_of_getElem? (i := 1218) (by decide +kernel), List.mem_of_getElem? (i := 1219) (by decide +kernel)⟩
theorem lw_p34 : lw_okq (⟨"OneFriendModel", "settle", "(I)V"⟩, 61) := ⟨⟨by decide +kernel, by decide +kernel⟩, List.mem_of_getElem? (i := 931) (by decide +kernel), List.mem_of_getElem? (i := 1222) (by decide +kernel), List.mem_of_getElem? (i := 1223) (by decide +kernel)⟩
theorem lw_p35 : lw_okq (⟨"OneFriendModel", "layAmiss", "()I"⟩, 61) := ⟨⟨by decide +kernel, by decide +kernel⟩, List.mem_of_getElem? (i := 931) (by decide +kernel), List.mem_of_getElem? (i := 1230) (by decide +kernel), List.mem_of_getElem? (i := 1231) (by decide +kernel)⟩
theorem lw_p36 : lw_okq (⟨"OneFriendModel", "offOf", "(II)I"⟩, 61) := ⟨⟨by decide +kernel, by decide +kernel⟩, List.mem_of_getElem? (i := 931) (by decide +kernel), List.mem_of_getElem? (i := 1234) (by decide +kernel), List.mem_of_getElem? (i := 1235) (by decide +kernel)⟩
theorem lw_p37 : lw_okq (⟨"OneFriendModel", "commonOf", "(II)I"⟩, 61) := ⟨⟨by decide +kernel, by decide +kernel⟩, List.mem_of_getElem? (i := 931) (by decide +kernel), List.mem_of_getElem? (i := 1238) (by decide +kernel), List.mem_of_getElem? (i := 1239) (by decide +kernel)⟩
theorem lw_p38 : lw_okq (⟨"OneFriendModel", "counts", "(III)I"⟩, 61) := ⟨⟨by decide +kernel, by decide +kernel⟩, List.mem_of_getElem? (i := 931) (by decide +kernel), List.mem_of_getElem? (i := 1242) (by decide +kernel), List.mem_of_getElem? (i := 1243) (by decide +kernel)⟩
theorem lw_p39 : lw_okq (⟨"OneFriendModel", "isAlls", "(I)Z"⟩, 61) := ⟨⟨by decide +kernel, by decide +kernel⟩, List.mem_of_getElem? (i := 931) (by decide +kernel), List.mem_of_getElem? (i := 1246) (by decide +kernel), List.mem_of_getElem? (i := 1247) (by decide +kernel)⟩
theorem lw_p40 : lw_okq (⟨"OneFriendModel", "manyOf", "(I)I"⟩, 61) := ⟨⟨by decide +kernel, by decide +kernel⟩, List.mem_of_getElem? (i := 931) (by decide +kernel), List.mem_of_getElem? (i := 1250) (by decide +kernel), List.mem_of_getElem? (i := 1251) (by decide +kernel)⟩
theorem lw_p41 : lw_okq (⟨"OneFriendModel", "ones", "(I)I"⟩, 61) := ⟨⟨by decide +kernel, by decide +kernel⟩, List.mem_of_getElem? (i := 931) (by decide +kernel), List.mem_of_getElem? (i := 1254) (by decide +kernel), List.mem_of_getElem? (i := 1255) (by decide +kernel)⟩
theorem lw_p42 : lw_okq (⟨"OneFriendModel", "sumOf", "(III)I"⟩, 61) := ⟨⟨by decide +kernel, by decide +kernel⟩, List.mem_of_getElem? (i := 931) (by decide +kernel), List.mem_of_getElem? (i := 1258) (by decide +kernel), List.mem_of_getElem? (i := 1259) (by decide +kernel)⟩
theorem lw_p43 : lw_okq (⟨"OneFriendModel", "begin", "()I"⟩, 61) := ⟨⟨by decide +kernel, by decide +kernel⟩, List.mem_of_getElem? (i := 931) (by decide +kernel), List.mem_of_getElem? (i := 1262) (by decide +kernel), List.mem_of_getElem? (i := 1263) (by decide +kernel)⟩
theorem lw_p44 : lw_okq (⟨"OneFriendModel", "behind", "()I"⟩, 61) := ⟨⟨by decide +kernel, by decide +kernel⟩, List.mem_of_getElem? (i := 931) (by decide +kernel), List.mem_of_getElem? (i := 1266) (by decide +kernel), List.mem_of_getElem? (i := 1267) (by decide +kernel)⟩
theorem lw_p45 : lw_okq (⟨"OneFriendModel", "holds", "(III)Z"⟩, 61) := ⟨⟨by decide +kernel, by decide +kernel⟩, List.mem_of_getElem? (i := 931) (by decide +kernel), List.mem_of_getElem? (i := 1270) (by decide +kernel), List.mem_of_getElem? (i := 1271) (by decide +kernel)⟩
theorem lw_p46 : lw_okq (⟨"OneFriendModel", "factOf", "(III)I"⟩, 61) := ⟨⟨by decide +kernel, by decide +kernel⟩, List.mem_of_getElem? (i := 931) (by decide +kernel), List.mem_of_getElem? (i := 1274) (by decide +kernel), List.mem_of_getElem? (i := 1275) (by decide +kernel)⟩
theorem lw_p47 : lw_okq (⟨"OneFriendModel", "isPair", "(I)Z"⟩, 61) := ⟨⟨by decide +kernel, by decide +kernel⟩, List.mem_of_getElem? (i := 931) (by decide +kernel), List.mem_of_getElem? (i := 1282) (by decide +kernel), List.mem_of_getElem? (i := 1283) (by decide +kernel)⟩
def lw_privs_3 : List (MethodName × Nat) := [(⟨"OneFriendModel", "emits", "(I)V"⟩, 61), (⟨"OneFriendModel", "whole", "()V"⟩, 61), (⟨"OneFriendModel", "settle", "(I)V"⟩, 61), (⟨"OneFriendModel", "layAmiss", "()I"⟩, 61), (⟨"OneFriendModel", "offOf", "(II)I"⟩, 61), (⟨"OneFriendModel", "commonOf", "(II)I"⟩, 61), (⟨"OneFriendModel", "counts", "(III)I"⟩, 61), (⟨"OneFriendModel", "isAlls", "(I)Z"⟩, 61), (⟨"OneFriendModel", "manyOf", "(I)I"⟩, 61), (⟨"OneFriendModel", "ones", "(I)I"⟩, 61), (⟨"OneFriendModel", "sumOf", "(III)I"⟩, 61), (⟨"OneFriendModel", "begin", "()I"⟩, 61), (⟨"OneFriendModel", "behind", "()I"⟩, 61), (⟨"OneFriendModel", "holds", "(III)Z"⟩, 61), (⟨"OneFriendModel", "factOf", "(III)I"⟩, 61), (⟨"OneFriendModel", "isPair", "(I)Z"⟩, 61)]
theorem lw_r3 : ∀ q ∈ lw_privs_3, lw_okq q := List.forall_mem_cons.mpr ⟨lw_p32, List.forall_mem_cons.mpr ⟨lw_p33, List.forall_mem_cons.mpr ⟨lw_p34, List.forall_mem_cons.mpr ⟨lw_p35, List.forall_mem_cons.mpr ⟨lw_p36, List.forall_mem_cons.mpr ⟨lw_p37, List.forall_mem_cons.mpr ⟨lw_p38, List.forall_mem_cons.mpr ⟨lw_p39, List.forall_mem_cons.mpr ⟨lw_p40, List.forall_mem_cons.mpr ⟨lw_p41, List.forall_mem_cons.mpr ⟨lw_p42, List.forall_mem_cons.mpr ⟨lw_p43, List.forall_mem_cons.mpr ⟨lw_p44, List.forall_mem_cons.mpr ⟨lw_p45, List.forall_mem_cons.mpr ⟨lw_p46, List.forall_mem_cons.mpr ⟨lw_p47, fun _ h => absurd h List.not_mem_nil⟩⟩⟩⟩⟩⟩⟩⟩⟩⟩⟩⟩⟩⟩⟩⟩
theorem lw_p48 : lw_okq (⟨"OneFriendModel", "pairs", "()I"⟩, 61) := ⟨⟨by decide +kernel, by decide +kernel⟩, List.mem_of_getElem? (i := 931) (by decide +kernel), List.mem_of_getElem? (i := 1286) (by decide +kernel), List.mem_of_getElem? (i := 1287) (by decide +kernel)⟩
theorem lw_p49 : lw_okq (⟨"OneFriendModel", "lesserOf", "(I)I"⟩, 61) := ⟨⟨by decide +kernel, by decide +kernel⟩, List.mem_of_getElem? (i := 931) (by decide +kernel), List.mem_of_getElem? (i := 1290) (by decide +kernel), List.mem_of_getElem? (i := 1291) (by decide +kernel)⟩
theorem lw_p50 : lw_okq (⟨"OneFriendModel", "greaterOf", "(I)I"⟩, 61) := ⟨⟨by decide +kernel, by decide +kernel⟩, List.mem_of_getElem? (i := 931) (by decide +kernel), List.mem_of_getElem? (i := 1294) (by decide +kernel), List.mem_of_getElem? (i := 1295) (by decide +kernel)⟩
theorem lw_p51 : lw_okq (⟨"OneFriendModel", "priceOf", "(II)I"⟩, 61) := ⟨⟨by decide +kernel, by decide +kernel⟩, List.mem_of_getElem? (i := 931) (by decide +kernel), List.mem_of_getElem? (i := 1298) (by decide +kernel), List.mem_of_getElem? (i := 1299) (by decide +kernel)⟩
theorem lw_p52 : lw_okq (⟨"OneFriendModel", "friendships", "()I"⟩, 61) := ⟨⟨by decide +kernel, by decide +kernel⟩, List.mem_of_getElem? (i := 931) (by decide +kernel), List.mem_of_getElem? (i := 1310) (by decide +kernel), List.mem_of_getElem? (i := 1311) (by decide +kernel)⟩
theorem lw_p53 : lw_okq (⟨"OneFriendModel", "amissBy", "(I)I"⟩, 61) := ⟨⟨by decide +kernel, by decide +kernel⟩, List.mem_of_getElem? (i := 931) (by decide +kernel), List.mem_of_getElem? (i := 1326) (by decide +kernel), List.mem_of_getElem? (i := 1327) (by decide +kernel)⟩
theorem lw_p54 : lw_okq (⟨"OneFriendModel", "turn", "(I)V"⟩, 61) := ⟨⟨by decide +kernel, by decide +kernel⟩, List.mem_of_getElem? (i := 931) (by decide +kernel), List.mem_of_getElem? (i := 1330) (by decide +kernel), List.mem_of_getElem? (i := 1331) (by decide +kernel)⟩
theorem lw_p55 : lw_okq (⟨"OneFriendModel", "layCheapest", "()V"⟩, 61) := ⟨⟨by decide +kernel, by decide +kernel⟩, List.mem_of_getElem? (i := 931) (by decide +kernel), List.mem_of_getElem? (i := 1338) (by decide +kernel), List.mem_of_getElem? (i := 1339) (by decide +kernel)⟩
theorem lw_p56 : lw_okq (⟨"OneFriendModel", "take", "(IIII)V"⟩, 61) := ⟨⟨by decide +kernel, by decide +kernel⟩, List.mem_of_getElem? (i := 931) (by decide +kernel), List.mem_of_getElem? (i := 1342) (by decide +kernel), List.mem_of_getElem? (i := 1343) (by decide +kernel)⟩
theorem lw_p57 : lw_okq (⟨"OneFriendModel", "pricePair", "(I)I"⟩, 61) := ⟨⟨by decide +kernel, by decide +kernel⟩, List.mem_of_getElem? (i := 931) (by decide +kernel), List.mem_of_getElem? (i := 1346) (by decide +kernel), List.mem_of_getElem? (i := 1347) (by decide +kernel)⟩
theorem lw_p58 : lw_okq (⟨"OneFriendModel", "isTold", "()Z"⟩, 61) := ⟨⟨by decide +kernel, by decide +kernel⟩, List.mem_of_getElem? (i := 931) (by decide +kernel), List.mem_of_getElem? (i := 1366) (by decide +kernel), List.mem_of_getElem? (i := 1367) (by decide +kernel)⟩
theorem lw_p59 : lw_okq (⟨"OneFriendModel", "isLawful", "(II)Z"⟩, 61) := ⟨⟨by decide +kernel, by decide +kernel⟩, List.mem_of_getElem? (i := 931) (by decide +kernel), List.mem_of_getElem? (i := 1378) (by decide +kernel), List.mem_of_getElem? (i := 1379) (by decide +kernel)⟩
theorem lw_p60 : lw_okq (⟨"OneFriendModel", "lowest", "(III)J"⟩, 61) := ⟨⟨by decide +kernel, by decide +kernel⟩, List.mem_of_getElem? (i := 931) (by decide +kernel), List.mem_of_getElem? (i := 1391) (by decide +kernel), List.mem_of_getElem? (i := 1392) (by decide +kernel)⟩
theorem lw_p61 : lw_okq (⟨"OneFriendModel", "divisor", "(II)I"⟩, 61) := ⟨⟨by decide +kernel, by decide +kernel⟩, List.mem_of_getElem? (i := 931) (by decide +kernel), List.mem_of_getElem? (i := 1395) (by decide +kernel), List.mem_of_getElem? (i := 1396) (by decide +kernel)⟩
theorem lw_p62 : lw_okq (⟨"OneFriendModel", "isTape", "(I)Z"⟩, 61) := ⟨⟨by decide +kernel, by decide +kernel⟩, List.mem_of_getElem? (i := 931) (by decide +kernel), List.mem_of_getElem? (i := 1423) (by decide +kernel), List.mem_of_getElem? (i := 1424) (by decide +kernel)⟩
theorem lw_p63 : lw_okq (⟨"OneFriendModel", "meetsAct", "(II)I"⟩, 61) := ⟨⟨by decide +kernel, by decide +kernel⟩, List.mem_of_getElem? (i := 931) (by decide +kernel), List.mem_of_getElem? (i := 1439) (by decide +kernel), List.mem_of_getElem? (i := 1440) (by decide +kernel)⟩
def lw_privs_4 : List (MethodName × Nat) := [(⟨"OneFriendModel", "pairs", "()I"⟩, 61), (⟨"OneFriendModel", "lesserOf", "(I)I"⟩, 61), (⟨"OneFriendModel", "greaterOf", "(I)I"⟩, 61), (⟨"OneFriendModel", "priceOf", "(II)I"⟩, 61), (⟨"OneFriendModel", "friendships", "()I"⟩, 61), (⟨"OneFriendModel", "amissBy", "(I)I"⟩, 61), (⟨"OneFriendModel", "turn", "(I)V"⟩, 61), (⟨"OneFriendModel", "layCheapest", "()V"⟩, 61), (⟨"OneFriendModel", "take", "(IIII)V"⟩, 61), (⟨"OneFriendModel", "pricePair", "(I)I"⟩, 61), (⟨"OneFriendModel", "isTold", "()Z"⟩, 61), (⟨"OneFriendModel", "isLawful", "(II)Z"⟩, 61), (⟨"OneFriendModel", "lowest", "(III)J"⟩, 61), (⟨"OneFriendModel", "divisor", "(II)I"⟩, 61), (⟨"OneFriendModel", "isTape", "(I)Z"⟩, 61), (⟨"OneFriendModel", "meetsAct", "(II)I"⟩, 61)]
theorem lw_r4 : ∀ q ∈ lw_privs_4, lw_okq q := List.forall_mem_cons.mpr ⟨lw_p48, List.forall_mem_cons.mpr ⟨lw_p49, List.forall_mem_cons.mpr ⟨lw_p50, List.forall_mem_cons.mpr ⟨lw_p51, List.forall_mem_cons.mpr ⟨lw_p52, List.forall_mem_cons.mpr ⟨lw_p53, List.forall_mem_cons.mpr ⟨lw_p54, List.forall_mem_cons.mpr ⟨lw_p55, List.forall_mem_cons.mpr ⟨lw_p56, List.forall_mem_cons.mpr ⟨lw_p57, List.forall_mem_cons.mpr ⟨lw_p58, List.forall_mem_cons.mpr ⟨lw_p59, List.forall_mem_cons.mpr ⟨lw_p60, List.forall_mem_cons.mpr ⟨lw_p61, List.forall_mem_cons.mpr ⟨lw_p62, List.forall_mem_cons.mpr ⟨lw_p63, fun _ h => absurd h List.not_mem_nil⟩⟩⟩⟩⟩⟩⟩⟩⟩⟩⟩⟩⟩⟩⟩⟩
theorem lw_p64 : lw_okq (⟨"OneFriendModel", "body", "(I)V"⟩, 61) := ⟨⟨by decide +kernel, by decide +kernel⟩, List.mem_of_getElem? (i := 931) (by decide +kernel), List.mem_of_getElem? (i := 1443) (by decide +kernel), List.mem_of_getElem? (i := 1444) (by decide +kernel)⟩
theorem lw_p65 : lw_okq (⟨"OneFriendModel", "personMeets", "(II)I"⟩, 61) := ⟨⟨by decide +kernel, by decide +kernel⟩, List.mem_of_getElem? (i := 931) (by decide +kernel), List.mem_of_getElem? (i := 1447) (by decide +kernel), List.mem_of_getElem? (i := 1448) (by decide +kernel)⟩
theorem lw_p66 : lw_okq (⟨"OneFriendModel", "countsAct", "(II)I"⟩, 61) := ⟨⟨by decide +kernel, by decide +kernel⟩, List.mem_of_getElem? (i := 931) (by decide +kernel), List.mem_of_getElem? (i := 1451) (by decide +kernel), List.mem_of_getElem? (i := 1452) (by decide +kernel)⟩
theorem lw_p67 : lw_okq (⟨"OneFriendModel", "weightyCounts", "(II)I"⟩, 61) := ⟨⟨by decide +kernel, by decide +kernel⟩, List.mem_of_getElem? (i := 931) (by decide +kernel), List.mem_of_getElem? (i := 1455) (by decide +kernel), List.mem_of_getElem? (i := 1456) (by decide +kernel)⟩
theorem lw_p68 : lw_okq (⟨"OneFriendModel", "personCounts", "(II)I"⟩, 61) := ⟨⟨by decide +kernel, by decide +kernel⟩, List.mem_of_getElem? (i := 931) (by decide +kernel), List.mem_of_getElem? (i := 1459) (by decide +kernel), List.mem_of_getElem? (i := 1460) (by decide +kernel)⟩
theorem lw_p69 : lw_okq (⟨"OneFriendModel", "tellsAct", "(II)I"⟩, 61) := ⟨⟨by decide +kernel, by decide +kernel⟩, List.mem_of_getElem? (i := 931) (by decide +kernel), List.mem_of_getElem? (i := 1463) (by decide +kernel), List.mem_of_getElem? (i := 1464) (by decide +kernel)⟩
theorem lw_p70 : lw_okq (⟨"OneFriendModel", "personTells", "(II)I"⟩, 61) := ⟨⟨by decide +kernel, by decide +kernel⟩, List.mem_of_getElem? (i := 931) (by decide +kernel), List.mem_of_getElem? (i := 1467) (by decide +kernel), List.mem_of_getElem? (i := 1468) (by decide +kernel)⟩
theorem lw_p71 : lw_okq (⟨"OneFriendModel", "narrow", "(IJ)J"⟩, 61) := ⟨⟨by decide +kernel, by decide +kernel⟩, List.mem_of_getElem? (i := 931) (by decide +kernel), List.mem_of_getElem? (i := 1491) (by decide +kernel), List.mem_of_getElem? (i := 1492) (by decide +kernel)⟩
def lw_privs_5 : List (MethodName × Nat) := [(⟨"OneFriendModel", "body", "(I)V"⟩, 61), (⟨"OneFriendModel", "personMeets", "(II)I"⟩, 61), (⟨"OneFriendModel", "countsAct", "(II)I"⟩, 61), (⟨"OneFriendModel", "weightyCounts", "(II)I"⟩, 61), (⟨"OneFriendModel", "personCounts", "(II)I"⟩, 61), (⟨"OneFriendModel", "tellsAct", "(II)I"⟩, 61), (⟨"OneFriendModel", "personTells", "(II)I"⟩, 61), (⟨"OneFriendModel", "narrow", "(IJ)J"⟩, 61)]
theorem lw_r5 : ∀ q ∈ lw_privs_5, lw_okq q := List.forall_mem_cons.mpr ⟨lw_p64, List.forall_mem_cons.mpr ⟨lw_p65, List.forall_mem_cons.mpr ⟨lw_p66, List.forall_mem_cons.mpr ⟨lw_p67, List.forall_mem_cons.mpr ⟨lw_p68, List.forall_mem_cons.mpr ⟨lw_p69, List.forall_mem_cons.mpr ⟨lw_p70, List.forall_mem_cons.mpr ⟨lw_p71, fun _ h => absurd h List.not_mem_nil⟩⟩⟩⟩⟩⟩⟩⟩
def lw_privs : List (MethodName × Nat) := lw_privs_1 ++ (lw_privs_2 ++ (lw_privs_3 ++ (lw_privs_4 ++ (lw_privs_5))))
def lw_tbl : List Cond := k2_sels lw_privs ++ tables_1
theorem lw_privs_ok : ∀ q ∈ lw_privs, lw_okq q := by
  show ∀ q ∈ lw_privs_1 ++ (lw_privs_2 ++ (lw_privs_3 ++ (lw_privs_4 ++ (lw_privs_5)))), lw_okq q
  exact List.forall_mem_append.mpr ⟨lw_r1, List.forall_mem_append.mpr ⟨lw_r2, List.forall_mem_append.mpr ⟨lw_r3, List.forall_mem_append.mpr ⟨lw_r4, lw_r5⟩⟩⟩⟩
-- ===== end of PART A; then your names; then what follows =====
end
section

def RX0 : String := "OneFriend$Mayor"
def TX0 : u_T := fun k => match k with
  | 0 => ("OneFriend$Person", "kind", "I", true)
  | 1 => ("OneFriend$Person", "number", "I", true)
  | _ => ("OneFriend$Person", "v", "I", true)
def tyX0 : Nat → FieldType := fun k => match k with
  | 0 => .int
  | 1 => .int
  | _ => .int
abbrev wsX00 : List Cond := u_ws RX0 TX0 3
theorem nmX0 : ∀ a, a < 3 → ∀ b, b < 3 → a ≠ b → (TX0 a).2.1 ≠ (TX0 b).2.1 := by decide +kernel
theorem tyX0_ok : ∀ k, k < 3 → parseFieldDescriptor (TX0 k).2.2.1 = some (tyX0 k) := by decide +kernel
abbrev cX0_init : ByteArray := prog_2_method_1_code
def yX0_init : MethodName := ⟨RX0, "<init>", "(III)V"⟩
abbrev cX0_worth : ByteArray := prog_2_method_2_code
def yX0_worth : MethodName := ⟨RX0, "worth", "(LOneFriend$Village;Z)I"⟩
abbrev cX0_meets : ByteArray := prog_2_method_3_code
def yX0_meets : MethodName := ⟨RX0, "meets", "(ILOneFriend$Trace;)I"⟩
abbrev cX0_counts : ByteArray := prog_2_method_4_code
def yX0_counts : MethodName := ⟨RX0, "counts", "(ILOneFriend$Trace;)I"⟩
def RX1 : String := "OneFriend$Moody"
def TX1 : u_T := fun k => match k with
  | 0 => ("OneFriend$Person", "kind", "I", true)
  | 1 => ("OneFriend$Person", "number", "I", true)
  | _ => ("OneFriend$Person", "v", "I", true)
def tyX1 : Nat → FieldType := fun k => match k with
  | 0 => .int
  | 1 => .int
  | _ => .int
abbrev wsX10 : List Cond := u_ws RX1 TX1 3
theorem nmX1 : ∀ a, a < 3 → ∀ b, b < 3 → a ≠ b → (TX1 a).2.1 ≠ (TX1 b).2.1 := by decide +kernel
theorem tyX1_ok : ∀ k, k < 3 → parseFieldDescriptor (TX1 k).2.2.1 = some (tyX1 k) := by decide +kernel
abbrev cX1_init : ByteArray := prog_3_method_1_code
def yX1_init : MethodName := ⟨RX1, "<init>", "(III)V"⟩
abbrev cX1_worth : ByteArray := prog_3_method_2_code
def yX1_worth : MethodName := ⟨RX1, "worth", "(LOneFriend$Village;Z)I"⟩
abbrev cX1_tells : ByteArray := prog_3_method_3_code
def yX1_tells : MethodName := ⟨RX1, "tells", "(ILOneFriend$Trace;)I"⟩
def RX2 : String := "OneFriend$Person"
def TX2 : u_T := fun k => match k with
  | 0 => ("OneFriend$Person", "kind", "I", true)
  | 1 => ("OneFriend$Person", "number", "I", true)
  | _ => ("OneFriend$Person", "v", "I", true)
def tyX2 : Nat → FieldType := fun k => match k with
  | 0 => .int
  | 1 => .int
  | _ => .int
abbrev wsX20 : List Cond := u_ws RX2 TX2 3
theorem nmX2 : ∀ a, a < 3 → ∀ b, b < 3 → a ≠ b → (TX2 a).2.1 ≠ (TX2 b).2.1 := by decide +kernel
theorem tyX2_ok : ∀ k, k < 3 → parseFieldDescriptor (TX2 k).2.2.1 = some (tyX2 k) := by decide +kernel
abbrev cX2_init : ByteArray := prog_4_method_1_code
def yX2_init : MethodName := ⟨RX2, "<init>", "(III)V"⟩
abbrev cX2_worth : ByteArray := prog_4_method_2_code
def yX2_worth : MethodName := ⟨RX2, "worth", "(LOneFriend$Village;Z)I"⟩
abbrev cX2_meets : ByteArray := prog_4_method_3_code
def yX2_meets : MethodName := ⟨RX2, "meets", "(ILOneFriend$Trace;)I"⟩
abbrev cX2_counts : ByteArray := prog_4_method_4_code
def yX2_counts : MethodName := ⟨RX2, "counts", "(ILOneFriend$Trace;)I"⟩
abbrev cX2_tells : ByteArray := prog_4_method_5_code
def yX2_tells : MethodName := ⟨RX2, "tells", "(ILOneFriend$Trace;)I"⟩
def RX3 : String := "OneFriend$Secret"
def TX3 : u_T := fun k => match k with
  | 0 => ("OneFriend$Person", "kind", "I", true)
  | 1 => ("OneFriend$Person", "number", "I", true)
  | _ => ("OneFriend$Person", "v", "I", true)
def tyX3 : Nat → FieldType := fun k => match k with
  | 0 => .int
  | 1 => .int
  | _ => .int
abbrev wsX30 : List Cond := u_ws RX3 TX3 3
theorem nmX3 : ∀ a, a < 3 → ∀ b, b < 3 → a ≠ b → (TX3 a).2.1 ≠ (TX3 b).2.1 := by decide +kernel
theorem tyX3_ok : ∀ k, k < 3 → parseFieldDescriptor (TX3 k).2.2.1 = some (tyX3 k) := by decide +kernel
abbrev cX3_init : ByteArray := prog_5_method_1_code
def yX3_init : MethodName := ⟨RX3, "<init>", "(III)V"⟩
abbrev cX3_worth : ByteArray := prog_5_method_2_code
def yX3_worth : MethodName := ⟨RX3, "worth", "(LOneFriend$Village;Z)I"⟩
abbrev cX3_meets : ByteArray := prog_5_method_3_code
def yX3_meets : MethodName := ⟨RX3, "meets", "(ILOneFriend$Trace;)I"⟩
def RX4 : String := "OneFriend$Shy"
def TX4 : u_T := fun k => match k with
  | 0 => ("OneFriend$Person", "kind", "I", true)
  | 1 => ("OneFriend$Person", "number", "I", true)
  | _ => ("OneFriend$Person", "v", "I", true)
def tyX4 : Nat → FieldType := fun k => match k with
  | 0 => .int
  | 1 => .int
  | _ => .int
abbrev wsX40 : List Cond := u_ws RX4 TX4 3
theorem nmX4 : ∀ a, a < 3 → ∀ b, b < 3 → a ≠ b → (TX4 a).2.1 ≠ (TX4 b).2.1 := by decide +kernel
theorem tyX4_ok : ∀ k, k < 3 → parseFieldDescriptor (TX4 k).2.2.1 = some (tyX4 k) := by decide +kernel
abbrev cX4_init : ByteArray := prog_6_method_1_code
def yX4_init : MethodName := ⟨RX4, "<init>", "(III)V"⟩
abbrev cX4_worth : ByteArray := prog_6_method_2_code
def yX4_worth : MethodName := ⟨RX4, "worth", "(LOneFriend$Village;Z)I"⟩
abbrev cX4_tells : ByteArray := prog_6_method_3_code
def yX4_tells : MethodName := ⟨RX4, "tells", "(ILOneFriend$Trace;)I"⟩
def RX5 : String := "OneFriend$Tape"
def TX5 : u_T := fun k => match k with
  | 0 => ("OneFriend$Tape", "sort", "I", false)
  | 1 => ("OneFriend$Tape", "length", "I", false)
  | _ => ("OneFriend$Tape", "items", "[J", true)
def tyX5 : Nat → FieldType := fun k => match k with
  | 0 => .int
  | 1 => .int
  | _ => .array .long
abbrev wsX50 : List Cond := u_ws RX5 TX5 3
theorem nmX5 : ∀ a, a < 3 → ∀ b, b < 3 → a ≠ b → (TX5 a).2.1 ≠ (TX5 b).2.1 := by decide +kernel
theorem tyX5_ok : ∀ k, k < 3 → parseFieldDescriptor (TX5 k).2.2.1 = some (tyX5 k) := by decide +kernel
abbrev cX5_init : ByteArray := prog_7_method_1_code
def yX5_init : MethodName := ⟨RX5, "<init>", "()V"⟩
abbrev cX5_hold : ByteArray := prog_7_method_2_code
def yX5_hold : MethodName := ⟨RX5, "hold", "(II)V"⟩
abbrev cX5_isThere : ByteArray := prog_7_method_3_code
def yX5_isThere : MethodName := ⟨RX5, "isThere", "()Z"⟩
abbrev cX5_hasPlace : ByteArray := prog_7_method_4_code
def yX5_hasPlace : MethodName := ⟨RX5, "hasPlace", "(I)Z"⟩
abbrev cX5_hasStretch : ByteArray := prog_7_method_5_code
def yX5_hasStretch : MethodName := ⟨RX5, "hasStretch", "(II)Z"⟩
abbrev cX5_asItem : ByteArray := prog_7_method_6_code
def yX5_asItem : MethodName := ⟨RX5, "asItem", "(J)J"⟩
def RX6 : String := "OneFriend$Told"
def TX6 : u_T := fun k => match k with
  | 0 => ("OneFriend$Person", "kind", "I", true)
  | 1 => ("OneFriend$Person", "number", "I", true)
  | _ => ("OneFriend$Person", "v", "I", true)
def tyX6 : Nat → FieldType := fun k => match k with
  | 0 => .int
  | 1 => .int
  | _ => .int
abbrev wsX60 : List Cond := u_ws RX6 TX6 3
theorem nmX6 : ∀ a, a < 3 → ∀ b, b < 3 → a ≠ b → (TX6 a).2.1 ≠ (TX6 b).2.1 := by decide +kernel
theorem tyX6_ok : ∀ k, k < 3 → parseFieldDescriptor (TX6 k).2.2.1 = some (tyX6 k) := by decide +kernel
abbrev cX6_init : ByteArray := prog_8_method_1_code
def yX6_init : MethodName := ⟨RX6, "<init>", "(III)V"⟩
abbrev cX6_worth : ByteArray := prog_8_method_2_code
def yX6_worth : MethodName := ⟨RX6, "worth", "(LOneFriend$Village;Z)I"⟩
abbrev cX6_counts : ByteArray := prog_8_method_3_code
def yX6_counts : MethodName := ⟨RX6, "counts", "(ILOneFriend$Trace;)I"⟩
abbrev cX6_meets : ByteArray := prog_8_method_4_code
def yX6_meets : MethodName := ⟨RX6, "meets", "(ILOneFriend$Trace;)I"⟩
def RX7 : String := "OneFriend$Town"
def TX7 : u_T := fun k => match k with
  | 0 => ("OneFriend$Town", "place", "I", false)
  | 1 => ("OneFriend$Town", "text", "[B", true)
  | 2 => ("OneFriend$Town", "length", "I", false)
  | 3 => ("OneFriend$Town", "clauses", "I", false)
  | 4 => ("OneFriend$Town", "words", "[I", true)
  | 5 => ("OneFriend$Town", "numbers", "[I", true)
  | 6 => ("OneFriend$Town", "ends", "[I", true)
  | 7 => ("OneFriend$Town", "steps", "[I", true)
  | _ => ("OneFriend$Town", "stepCount", "I", false)
def tyX7 : Nat → FieldType := fun k => match k with
  | 0 => .int
  | 1 => .array .byte
  | 2 => .int
  | 3 => .int
  | 4 => .array .int
  | 5 => .array .int
  | 6 => .array .int
  | 7 => .array .int
  | _ => .int
abbrev wsX70 : List Cond := u_ws RX7 TX7 9
theorem nmX7 : ∀ a, a < 9 → ∀ b, b < 9 → a ≠ b → (TX7 a).2.1 ≠ (TX7 b).2.1 := by decide +kernel
theorem tyX7_ok : ∀ k, k < 9 → parseFieldDescriptor (TX7 k).2.2.1 = some (tyX7 k) := by decide +kernel
abbrev cX7_init : ByteArray := prog_9_method_1_code
def yX7_init : MethodName := ⟨RX7, "<init>", "()V"⟩
abbrev cX7_understands : ByteArray := prog_9_method_2_code
def yX7_understands : MethodName := ⟨RX7, "understands", "([BI)Z"⟩
abbrev cX7_takes : ByteArray := prog_9_method_3_code
def yX7_takes : MethodName := ⟨RX7, "takes", "(C)Z"⟩
abbrev cX7_takesClause : ByteArray := prog_9_method_4_code
def yX7_takesClause : MethodName := ⟨RX7, "takesClause", "(I)Z"⟩
abbrev cX7_takenWord : ByteArray := prog_9_method_5_code
def yX7_takenWord : MethodName := ⟨RX7, "takenWord", "()I"⟩
abbrev cX7_takesAll : ByteArray := prog_9_method_6_code
def yX7_takesAll : MethodName := ⟨RX7, "takesAll", "(Ljava/lang/String;)Z"⟩
abbrev cX7_takenNumber : ByteArray := prog_9_method_7_code
def yX7_takenNumber : MethodName := ⟨RX7, "takenNumber", "()I"⟩
abbrev cX7_takesEither : ByteArray := prog_9_method_8_code
def yX7_takesEither : MethodName := ⟨RX7, "takesEither", "(I)Z"⟩
abbrev cX7_takesBoth : ByteArray := prog_9_method_9_code
def yX7_takesBoth : MethodName := ⟨RX7, "takesBoth", "(I)Z"⟩
abbrev cX7_takesFactor : ByteArray := prog_9_method_10_code
def yX7_takesFactor : MethodName := ⟨RX7, "takesFactor", "(I)Z"⟩
abbrev cX7_takenOneOf : ByteArray := prog_9_method_11_code
def yX7_takenOneOf : MethodName := ⟨RX7, "takenOneOf", "(Ljava/lang/String;)I"⟩
abbrev cX7_keep : ByteArray := prog_9_method_12_code
def yX7_keep : MethodName := ⟨RX7, "keep", "(I)V"⟩
abbrev cX7_together : ByteArray := prog_9_method_13_code
def yX7_together : MethodName := ⟨RX7, "together", "(I[I)I"⟩
abbrev cX7_holds : ByteArray := prog_9_method_14_code
def yX7_holds : MethodName := ⟨RX7, "holds", "(I[I)Z"⟩
abbrev cX7_testHolds : ByteArray := prog_9_method_15_code
def yX7_testHolds : MethodName := ⟨RX7, "testHolds", "(I[I)Z"⟩
def RX8 : String := "OneFriend$Trace"
def TX8 : u_T := fun k => match k with
  | 0 => ("OneFriend$Trace", "bodies", "[I", true)
  | _ => ("OneFriend$Trace", "ran", "I", false)
def tyX8 : Nat → FieldType := fun k => match k with
  | 0 => .array .int
  | _ => .int
abbrev wsX80 : List Cond := u_ws RX8 TX8 2
theorem nmX8 : ∀ a, a < 2 → ∀ b, b < 2 → a ≠ b → (TX8 a).2.1 ≠ (TX8 b).2.1 := by decide +kernel
theorem tyX8_ok : ∀ k, k < 2 → parseFieldDescriptor (TX8 k).2.2.1 = some (tyX8 k) := by decide +kernel
abbrev cX8_init : ByteArray := prog_10_method_1_code
def yX8_init : MethodName := ⟨RX8, "<init>", "()V"⟩
abbrev cX8_begin : ByteArray := prog_10_method_2_code
def yX8_begin : MethodName := ⟨RX8, "begin", "(I)V"⟩
def RX9 : String := "OneFriend$Village"
def TX9 : u_T := fun k => match k with
  | 0 => ("OneFriend$Village", "size", "I", false)
  | 1 => ("OneFriend$Village", "here", "I", false)
  | 2 => ("OneFriend$Village", "years", "I", false)
  | 3 => ("OneFriend$Village", "town", "LOneFriend$Town;", false)
  | 4 => ("OneFriend$Village", "people", "[LOneFriend$Person;", true)
  | 5 => ("OneFriend$Village", "ties", "[I", true)
  | 6 => ("OneFriend$Village", "rows", "[I", true)
  | 7 => ("OneFriend$Village", "complaints", "[I", true)
  | 8 => ("OneFriend$Village", "wishes", "I", false)
  | 9 => ("OneFriend$Village", "wishPairs", "[I", true)
  | 10 => ("OneFriend$Village", "wishAre", "[I", true)
  | 11 => ("OneFriend$Village", "bookRows", "I", false)
  | 12 => ("OneFriend$Village", "bookPairs", "[I", true)
  | 13 => ("OneFriend$Village", "bookCommons", "[I", true)
  | _ => ("OneFriend$Village", "facts", "[I", true)
def tyX9 : Nat → FieldType := fun k => match k with
  | 0 => .int
  | 1 => .int
  | 2 => .int
  | 3 => .object "OneFriend$Town"
  | 4 => .array (.object "OneFriend$Person")
  | 5 => .array .int
  | 6 => .array .int
  | 7 => .array .int
  | 8 => .int
  | 9 => .array .int
  | 10 => .array .int
  | 11 => .int
  | 12 => .array .int
  | 13 => .array .int
  | _ => .array .int
abbrev wsX90 : List Cond := u_ws RX9 TX9 15
theorem nmX9 : ∀ a, a < 15 → ∀ b, b < 15 → a ≠ b → (TX9 a).2.1 ≠ (TX9 b).2.1 := by decide +kernel
theorem tyX9_ok : ∀ k, k < 15 → parseFieldDescriptor (TX9 k).2.2.1 = some (tyX9 k) := by decide +kernel
abbrev cX9_init : ByteArray := prog_11_method_1_code
def yX9_init : MethodName := ⟨RX9, "<init>", "()V"⟩
abbrev cX9_become : ByteArray := prog_11_method_2_code
def yX9_become : MethodName := ⟨RX9, "become", "(LOneFriend$Village;)V"⟩
abbrev cX9_hasPerson : ByteArray := prog_11_method_3_code
def yX9_hasPerson : MethodName := ⟨RX9, "hasPerson", "(I)Z"⟩
abbrev cX9_personAt : ByteArray := prog_11_method_4_code
def yX9_personAt : MethodName := ⟨RX9, "personAt", "(I)LOneFriend$Person;"⟩
abbrev cX9_join : ByteArray := prog_11_method_5_code
def yX9_join : MethodName := ⟨RX9, "join", "(LOneFriend$Person;)V"⟩
abbrev cX9_leave : ByteArray := prog_11_method_6_code
def yX9_leave : MethodName := ⟨RX9, "leave", "(I)V"⟩
abbrev cX9_areTied : ByteArray := prog_11_method_7_code
def yX9_areTied : MethodName := ⟨RX9, "areTied", "(II)Z"⟩
abbrev cX9_tie : ByteArray := prog_11_method_8_code
def yX9_tie : MethodName := ⟨RX9, "tie", "(IIZ)V"⟩
abbrev cX9_friendsOf : ByteArray := prog_11_method_9_code
def yX9_friendsOf : MethodName := ⟨RX9, "friendsOf", "(I)I"⟩
abbrev cX9_isEverybodys : ByteArray := prog_11_method_10_code
def yX9_isEverybodys : MethodName := ⟨RX9, "isEverybodys", "(I)Z"⟩
abbrev cX9_toldOf : ByteArray := prog_11_method_11_code
def yX9_toldOf : MethodName := ⟨RX9, "toldOf", "(I)I"⟩
abbrev cX9_withFriends : ByteArray := prog_11_method_12_code
def yX9_withFriends : MethodName := ⟨RX9, "withFriends", "(I)I"⟩
abbrev cX9_pairCount : ByteArray := prog_11_method_13_code
def yX9_pairCount : MethodName := ⟨RX9, "pairCount", "()I"⟩
abbrev cX9_hasPair : ByteArray := prog_11_method_14_code
def yX9_hasPair : MethodName := ⟨RX9, "hasPair", "(I)Z"⟩
abbrev cX9_areFriends : ByteArray := prog_11_method_15_code
def yX9_areFriends : MethodName := ⟨RX9, "areFriends", "(I)Z"⟩
abbrev cX9_change : ByteArray := prog_11_method_16_code
def yX9_change : MethodName := ⟨RX9, "change", "(I)V"⟩
abbrev cX9_friendships : ByteArray := prog_11_method_17_code
def yX9_friendships : MethodName := ⟨RX9, "friendships", "()I"⟩
abbrev cX9_commonOf : ByteArray := prog_11_method_18_code
def yX9_commonOf : MethodName := ⟨RX9, "commonOf", "(I)I"⟩
abbrev cX9_wantedOf : ByteArray := prog_11_method_19_code
def yX9_wantedOf : MethodName := ⟨RX9, "wantedOf", "(I)I"⟩
abbrev cX9_priceOf : ByteArray := prog_11_method_20_code
def yX9_priceOf : MethodName := ⟨RX9, "priceOf", "(I)I"⟩
abbrev cX9_asTownSays : ByteArray := prog_11_method_21_code
def yX9_asTownSays : MethodName := ⟨RX9, "asTownSays", "(II)I"⟩
abbrev cX9_amissBy : ByteArray := prog_11_method_22_code
def yX9_amissBy : MethodName := ⟨RX9, "amissBy", "(I)I"⟩
abbrev cX9_amissBits : ByteArray := prog_11_method_23_code
def yX9_amissBits : MethodName := ⟨RX9, "amissBits", "()I"⟩
abbrev cX9_howManyAmiss : ByteArray := prog_11_method_24_code
def yX9_howManyAmiss : MethodName := ⟨RX9, "howManyAmiss", "()I"⟩
abbrev cX9_amissTogether : ByteArray := prog_11_method_25_code
def yX9_amissTogether : MethodName := ⟨RX9, "amissTogether", "()I"⟩
abbrev cX9_isAllRight : ByteArray := prog_11_method_26_code
def yX9_isAllRight : MethodName := ⟨RX9, "isAllRight", "()Z"⟩
abbrev cX9_isAsComplained : ByteArray := prog_11_method_27_code
def yX9_isAsComplained : MethodName := ⟨RX9, "isAsComplained", "()Z"⟩
abbrev cX9_befriendAs : ByteArray := prog_11_method_28_code
def yX9_befriendAs : MethodName := ⟨RX9, "befriendAs", "(II)V"⟩
abbrev cX9_eachShares : ByteArray := prog_11_method_29_code
def yX9_eachShares : MethodName := ⟨RX9, "eachShares", "(II)Z"⟩
def RX10 : String := "OneFriend$Weighty"
def TX10 : u_T := fun k => match k with
  | 0 => ("OneFriend$Person", "kind", "I", true)
  | 1 => ("OneFriend$Person", "number", "I", true)
  | _ => ("OneFriend$Person", "v", "I", true)
def tyX10 : Nat → FieldType := fun k => match k with
  | 0 => .int
  | 1 => .int
  | _ => .int
abbrev wsX100 : List Cond := u_ws RX10 TX10 3
theorem nmX10 : ∀ a, a < 3 → ∀ b, b < 3 → a ≠ b → (TX10 a).2.1 ≠ (TX10 b).2.1 := by decide +kernel
theorem tyX10_ok : ∀ k, k < 3 → parseFieldDescriptor (TX10 k).2.2.1 = some (tyX10 k) := by decide +kernel
abbrev cX10_init : ByteArray := prog_12_method_1_code
def yX10_init : MethodName := ⟨RX10, "<init>", "(III)V"⟩
abbrev cX10_worth : ByteArray := prog_12_method_2_code
def yX10_worth : MethodName := ⟨RX10, "worth", "(LOneFriend$Village;Z)I"⟩
abbrev cX10_counts : ByteArray := prog_12_method_3_code
def yX10_counts : MethodName := ⟨RX10, "counts", "(ILOneFriend$Trace;)I"⟩
def RX11 : String := "OneFriend"
def TX11 : u_T := fun k => match k with
  | 0 => ("OneFriend", "now", "LOneFriend$Village;", true)
  | 1 => ("OneFriend", "image", "LOneFriend$Village;", true)
  | 2 => ("OneFriend", "trial", "LOneFriend$Village;", true)
  | 3 => ("OneFriend", "imaged", "Z", false)
  | 4 => ("OneFriend", "nextTown", "LOneFriend$Town;", false)
  | 5 => ("OneFriend", "townsMade", "I", false)
  | 6 => ("OneFriend", "text", "[B", true)
  | 7 => ("OneFriend", "textLength", "I", false)
  | 8 => ("OneFriend", "tapes", "[LOneFriend$Tape;", true)
  | 9 => ("OneFriend", "latest", "LOneFriend$Trace;", true)
  | 10 => ("OneFriend", "prices", "[I", true)
  | _ => ("OneFriend", "cheapestSet", "[I", true)
def tyX11 : Nat → FieldType := fun k => match k with
  | 0 => .object "OneFriend$Village"
  | 1 => .object "OneFriend$Village"
  | 2 => .object "OneFriend$Village"
  | 3 => .boolean
  | 4 => .object "OneFriend$Town"
  | 5 => .int
  | 6 => .array .byte
  | 7 => .int
  | 8 => .array (.object "OneFriend$Tape")
  | 9 => .object "OneFriend$Trace"
  | 10 => .array .int
  | _ => .array .int
abbrev wsX110 : List Cond := u_ws RX11 TX11 12
theorem nmX11 : ∀ a, a < 12 → ∀ b, b < 12 → a ≠ b → (TX11 a).2.1 ≠ (TX11 b).2.1 := by decide +kernel
theorem tyX11_ok : ∀ k, k < 12 → parseFieldDescriptor (TX11 k).2.2.1 = some (tyX11 k) := by decide +kernel
abbrev cX11_init : ByteArray := prog_1_method_1_code
def yX11_init : MethodName := ⟨RX11, "<init>", "()V"⟩
abbrev cX11_person : ByteArray := prog_1_method_2_code
def yX11_person : MethodName := ⟨RX11, "person", "(II)I"⟩
abbrev cX11_of : ByteArray := prog_1_method_3_code
def yX11_of : MethodName := ⟨RX11, "of", "(II)I"⟩
abbrev cX11_friends : ByteArray := prog_1_method_4_code
def yX11_friends : MethodName := ⟨RX11, "friends", "(IIZ)I"⟩
abbrev cX11_pair : ByteArray := prog_1_method_5_code
def yX11_pair : MethodName := ⟨RX11, "pair", "(II)I"⟩
abbrev cX11_at : ByteArray := prog_1_method_6_code
def yX11_at : MethodName := ⟨RX11, "at", "(II)I"⟩
abbrev cX11_row : ByteArray := prog_1_method_7_code
def yX11_row : MethodName := ⟨RX11, "row", "(III)I"⟩
abbrev cX11_feed : ByteArray := prog_1_method_8_code
def yX11_feed : MethodName := ⟨RX11, "feed", "(I)I"⟩
abbrev cX11_town : ByteArray := prog_1_method_9_code
def yX11_town : MethodName := ⟨RX11, "town", "()I"⟩
abbrev cX11_year : ByteArray := prog_1_method_10_code
def yX11_year : MethodName := ⟨RX11, "year", "()I"⟩
abbrev cX11_told : ByteArray := prog_1_method_11_code
def yX11_told : MethodName := ⟨RX11, "told", "(I)I"⟩
abbrev cX11_amiss : ByteArray := prog_1_method_12_code
def yX11_amiss : MethodName := ⟨RX11, "amiss", "(I)I"⟩
abbrev cX11_alls : ByteArray := prog_1_method_13_code
def yX11_alls : MethodName := ⟨RX11, "alls", "()I"⟩
abbrev cX11_first : ByteArray := prog_1_method_14_code
def yX11_first : MethodName := ⟨RX11, "first", "(I)I"⟩
abbrev cX11_cheapest : ByteArray := prog_1_method_15_code
def yX11_cheapest : MethodName := ⟨RX11, "cheapest", "(I)I"⟩
abbrev cX11_goes : ByteArray := prog_1_method_16_code
def yX11_goes : MethodName := ⟨RX11, "goes", "(I)I"⟩
abbrev cX11_befriends : ByteArray := prog_1_method_17_code
def yX11_befriends : MethodName := ⟨RX11, "befriends", "(III)I"⟩
abbrev cX11_complain : ByteArray := prog_1_method_18_code
def yX11_complain : MethodName := ⟨RX11, "complain", "(II)I"⟩
abbrev cX11_made : ByteArray := prog_1_method_19_code
def yX11_made : MethodName := ⟨RX11, "made", "()I"⟩
abbrev cX11_far : ByteArray := prog_1_method_20_code
def yX11_far : MethodName := ⟨RX11, "far", "(II)I"⟩
abbrev cX11_towns : ByteArray := prog_1_method_21_code
def yX11_towns : MethodName := ⟨RX11, "towns", "(II)I"⟩
abbrev cX11_next : ByteArray := prog_1_method_22_code
def yX11_next : MethodName := ⟨RX11, "next", "(II)I"⟩
abbrev cX11_odds : ByteArray := prog_1_method_23_code
def yX11_odds : MethodName := ⟨RX11, "odds", "(I)J"⟩
abbrev cX11_mean : ByteArray := prog_1_method_24_code
def yX11_mean : MethodName := ⟨RX11, "mean", "(I)J"⟩
abbrev cX11_wish : ByteArray := prog_1_method_25_code
def yX11_wish : MethodName := ⟨RX11, "wish", "(IZ)I"⟩
abbrev cX11_kept : ByteArray := prog_1_method_26_code
def yX11_kept : MethodName := ⟨RX11, "kept", "(I)I"⟩
abbrev cX11_book : ByteArray := prog_1_method_27_code
def yX11_book : MethodName := ⟨RX11, "book", "(II)I"⟩
abbrev cX11_looked : ByteArray := prog_1_method_28_code
def yX11_looked : MethodName := ⟨RX11, "looked", "()I"⟩
abbrev cX11_judge : ByteArray := prog_1_method_29_code
def yX11_judge : MethodName := ⟨RX11, "judge", "(II)I"⟩
abbrev cX11_image : ByteArray := prog_1_method_30_code
def yX11_image : MethodName := ⟨RX11, "image", "()I"⟩
abbrev cX11_undo : ByteArray := prog_1_method_31_code
def yX11_undo : MethodName := ⟨RX11, "undo", "()I"⟩
abbrev cX11_act : ByteArray := prog_1_method_32_code
def yX11_act : MethodName := ⟨RX11, "act", "(III)I"⟩
abbrev cX11_trace : ByteArray := prog_1_method_33_code
def yX11_trace : MethodName := ⟨RX11, "trace", "(I)I"⟩
abbrev cX11_taken : ByteArray := prog_1_method_34_code
def yX11_taken : MethodName := ⟨RX11, "taken", "(II)I"⟩
abbrev cX11_count : ByteArray := prog_1_method_35_code
def yX11_count : MethodName := ⟨RX11, "count", "(I)I"⟩
abbrev cX11_tape : ByteArray := prog_1_method_36_code
def yX11_tape : MethodName := ⟨RX11, "tape", "(III)I"⟩
abbrev cX11_item : ByteArray := prog_1_method_37_code
def yX11_item : MethodName := ⟨RX11, "item", "(IIJ)I"⟩
abbrev cX11_read : ByteArray := prog_1_method_38_code
def yX11_read : MethodName := ⟨RX11, "read", "(II)J"⟩
abbrev cX11_shift : ByteArray := prog_1_method_39_code
def yX11_shift : MethodName := ⟨RX11, "shift", "(IIIII)I"⟩
abbrev cX11_asNumber : ByteArray := prog_1_method_40_code
def yX11_asNumber : MethodName := ⟨RX11, "asNumber", "(Z)I"⟩
abbrev cX11_hasBit : ByteArray := prog_1_method_41_code
def yX11_hasBit : MethodName := ⟨RX11, "hasBit", "(II)Z"⟩
abbrev cX11_isTape : ByteArray := prog_1_method_42_code
def yX11_isTape : MethodName := ⟨RX11, "isTape", "(I)Z"⟩
abbrev cX11_newPerson : ByteArray := prog_1_method_43_code
def yX11_newPerson : MethodName := ⟨RX11, "newPerson", "(III)LOneFriend$Person;"⟩
abbrev cX11_isOfKind : ByteArray := prog_1_method_44_code
def yX11_isOfKind : MethodName := ⟨RX11, "isOfKind", "(LOneFriend$Person;I)Z"⟩
abbrev cX11_refusalOfTwo : ByteArray := prog_1_method_45_code
def yX11_refusalOfTwo : MethodName := ⟨RX11, "refusalOfTwo", "(II)I"⟩
abbrev cX11_complainsAmong : ByteArray := prog_1_method_46_code
def yX11_complainsAmong : MethodName := ⟨RX11, "complainsAmong", "(II)I"⟩
abbrev cX11_lowest : ByteArray := prog_1_method_47_code
def yX11_lowest : MethodName := ⟨RX11, "lowest", "(III)J"⟩
abbrev cX11_offer : ByteArray := prog_1_method_48_code
def yX11_offer : MethodName := ⟨RX11, "offer", "(IIII)V"⟩
def RX12 : String := "OneFriendModel"
def TX12 : u_T := fun k => match k with
  | 0 => ("OneFriendModel", "people", "I", false)
  | 1 => ("OneFriendModel", "years", "I", false)
  | 2 => ("OneFriendModel", "gone", "I", false)
  | 3 => ("OneFriendModel", "kind", "[I", true)
  | 4 => ("OneFriendModel", "v", "[I", true)
  | 5 => ("OneFriendModel", "known", "[I", true)
  | 6 => ("OneFriendModel", "rows", "[I", true)
  | 7 => ("OneFriendModel", "complaints", "[I", true)
  | 8 => ("OneFriendModel", "towns", "I", false)
  | 9 => ("OneFriendModel", "the", "I", false)
  | 10 => ("OneFriendModel", "fed", "I", false)
  | 11 => ("OneFriendModel", "at", "I", false)
  | 12 => ("OneFriendModel", "digits", "I", false)
  | 13 => ("OneFriendModel", "text", "[I", true)
  | 14 => ("OneFriendModel", "clauses", "[I", true)
  | 15 => ("OneFriendModel", "word", "[I", true)
  | 16 => ("OneFriendModel", "number", "[I", true)
  | 17 => ("OneFriendModel", "from", "[I", true)
  | 18 => ("OneFriendModel", "to", "[I", true)
  | 19 => ("OneFriendModel", "sign", "[I", true)
  | 20 => ("OneFriendModel", "waits", "[I", true)
  | 21 => ("OneFriendModel", "signs", "I", false)
  | 22 => ("OneFriendModel", "waiting", "I", false)
  | 23 => ("OneFriendModel", "open", "I", false)
  | 24 => ("OneFriendModel", "letters", "[I", true)
  | 25 => ("OneFriendModel", "pile", "[Z", true)
  | 26 => ("OneFriendModel", "amissSet", "I", false)
  | 27 => ("OneFriendModel", "amissSum", "I", false)
  | 28 => ("OneFriendModel", "complains", "[I", true)
  | 29 => ("OneFriendModel", "bestPrice", "I", false)
  | 30 => ("OneFriendModel", "bestMany", "I", false)
  | 31 => ("OneFriendModel", "bestOne", "I", false)
  | 32 => ("OneFriendModel", "bestOther", "I", false)
  | 33 => ("OneFriendModel", "plain", "[I", true)
  | 34 => ("OneFriendModel", "wishes", "I", false)
  | 35 => ("OneFriendModel", "books", "I", false)
  | 36 => ("OneFriendModel", "wishPair", "[I", true)
  | 37 => ("OneFriendModel", "bookPair", "[I", true)
  | 38 => ("OneFriendModel", "bookMany", "[I", true)
  | 39 => ("OneFriendModel", "wishAre", "[Z", true)
  | 40 => ("OneFriendModel", "hasImage", "Z", false)
  | 41 => ("OneFriendModel", "imageThe", "I", false)
  | 42 => ("OneFriendModel", "imagePeople", "I", false)
  | 43 => ("OneFriendModel", "imageYears", "I", false)
  | 44 => ("OneFriendModel", "imageWishes", "I", false)
  | 45 => ("OneFriendModel", "imageBooks", "I", false)
  | 46 => ("OneFriendModel", "imageKind", "[I", true)
  | 47 => ("OneFriendModel", "imageV", "[I", true)
  | 48 => ("OneFriendModel", "imageKnown", "[I", true)
  | 49 => ("OneFriendModel", "imageRows", "[I", true)
  | 50 => ("OneFriendModel", "imageComplaints", "[I", true)
  | 51 => ("OneFriendModel", "imageWish", "[I", true)
  | 52 => ("OneFriendModel", "imagePair", "[I", true)
  | 53 => ("OneFriendModel", "imageMany", "[I", true)
  | 54 => ("OneFriendModel", "imageAre", "[Z", true)
  | 55 => ("OneFriendModel", "ran", "I", false)
  | 56 => ("OneFriendModel", "bodies", "[I", true)
  | 57 => ("OneFriendModel", "sort", "[I", true)
  | 58 => ("OneFriendModel", "length", "[I", true)
  | 59 => ("OneFriendModel", "item", "[J", true)
  | _ => ("OneFriendModel", "aside", "[J", true)
def tyX12 : Nat → FieldType := fun k => match k with
  | 0 => .int
  | 1 => .int
  | 2 => .int
  | 3 => .array .int
  | 4 => .array .int
  | 5 => .array .int
  | 6 => .array .int
  | 7 => .array .int
  | 8 => .int
  | 9 => .int
  | 10 => .int
  | 11 => .int
  | 12 => .int
  | 13 => .array .int
  | 14 => .array .int
  | 15 => .array .int
  | 16 => .array .int
  | 17 => .array .int
  | 18 => .array .int
  | 19 => .array .int
  | 20 => .array .int
  | 21 => .int
  | 22 => .int
  | 23 => .int
  | 24 => .array .int
  | 25 => .array .boolean
  | 26 => .int
  | 27 => .int
  | 28 => .array .int
  | 29 => .int
  | 30 => .int
  | 31 => .int
  | 32 => .int
  | 33 => .array .int
  | 34 => .int
  | 35 => .int
  | 36 => .array .int
  | 37 => .array .int
  | 38 => .array .int
  | 39 => .array .boolean
  | 40 => .boolean
  | 41 => .int
  | 42 => .int
  | 43 => .int
  | 44 => .int
  | 45 => .int
  | 46 => .array .int
  | 47 => .array .int
  | 48 => .array .int
  | 49 => .array .int
  | 50 => .array .int
  | 51 => .array .int
  | 52 => .array .int
  | 53 => .array .int
  | 54 => .array .boolean
  | 55 => .int
  | 56 => .array .int
  | 57 => .array .int
  | 58 => .array .int
  | 59 => .array .long
  | _ => .array .long
abbrev wsX120 : List Cond := u_ws RX12 TX12 61
theorem nmX12 : ∀ a, a < 61 → ∀ b, b < 61 → a ≠ b → (TX12 a).2.1 ≠ (TX12 b).2.1 := by decide +kernel
theorem tyX12_ok : ∀ k, k < 61 → parseFieldDescriptor (TX12 k).2.2.1 = some (tyX12 k) := by decide +kernel
abbrev cX12_init : ByteArray := prog_14_method_1_code
def yX12_init : MethodName := ⟨RX12, "<init>", "()V"⟩
abbrev cX12_in : ByteArray := prog_14_method_2_code
def yX12_in : MethodName := ⟨RX12, "in", "(III)Z"⟩
abbrev cX12_has : ByteArray := prog_14_method_3_code
def yX12_has : MethodName := ⟨RX12, "has", "(II)Z"⟩
abbrev cX12_ones : ByteArray := prog_14_method_4_code
def yX12_ones : MethodName := ⟨RX12, "ones", "(I)I"⟩
abbrev cX12_isPerson : ByteArray := prog_14_method_5_code
def yX12_isPerson : MethodName := ⟨RX12, "isPerson", "(I)Z"⟩
abbrev cX12_pairs : ByteArray := prog_14_method_6_code
def yX12_pairs : MethodName := ⟨RX12, "pairs", "()I"⟩
abbrev cX12_isPair : ByteArray := prog_14_method_7_code
def yX12_isPair : MethodName := ⟨RX12, "isPair", "(I)Z"⟩
abbrev cX12_pairOf : ByteArray := prog_14_method_8_code
def yX12_pairOf : MethodName := ⟨RX12, "pairOf", "(II)I"⟩
abbrev cX12_greaterOf : ByteArray := prog_14_method_9_code
def yX12_greaterOf : MethodName := ⟨RX12, "greaterOf", "(I)I"⟩
abbrev cX12_lesserOf : ByteArray := prog_14_method_10_code
def yX12_lesserOf : MethodName := ⟨RX12, "lesserOf", "(I)I"⟩
abbrev cX12_lay : ByteArray := prog_14_method_11_code
def yX12_lay : MethodName := ⟨RX12, "lay", "(III)V"⟩
abbrev cX12_person : ByteArray := prog_14_method_12_code
def yX12_person : MethodName := ⟨RX12, "person", "(II)I"⟩
abbrev cX12_turns : ByteArray := prog_14_method_13_code
def yX12_turns : MethodName := ⟨RX12, "turns", "(II)V"⟩
abbrev cX12_friends : ByteArray := prog_14_method_14_code
def yX12_friends : MethodName := ⟨RX12, "friends", "(IIZ)I"⟩
abbrev cX12_pair : ByteArray := prog_14_method_15_code
def yX12_pair : MethodName := ⟨RX12, "pair", "(II)I"⟩
abbrev cX12_row : ByteArray := prog_14_method_16_code
def yX12_row : MethodName := ⟨RX12, "row", "(III)I"⟩
abbrev cX12_feed : ByteArray := prog_14_method_17_code
def yX12_feed : MethodName := ⟨RX12, "feed", "(I)I"⟩
abbrev cX12_peek : ByteArray := prog_14_method_18_code
def yX12_peek : MethodName := ⟨RX12, "peek", "()I"⟩
abbrev cX12_takes : ByteArray := prog_14_method_19_code
def yX12_takes : MethodName := ⟨RX12, "takes", "(I)Z"⟩
abbrev cX12_takesWord : ByteArray := prog_14_method_20_code
def yX12_takesWord : MethodName := ⟨RX12, "takesWord", "(II)Z"⟩
abbrev cX12_isDigit : ByteArray := prog_14_method_21_code
def yX12_isDigit : MethodName := ⟨RX12, "isDigit", "()Z"⟩
abbrev cX12_takesNumber : ByteArray := prog_14_method_22_code
def yX12_takesNumber : MethodName := ⟨RX12, "takesNumber", "()Z"⟩
abbrev cX12_emits : ByteArray := prog_14_method_23_code
def yX12_emits : MethodName := ⟨RX12, "emits", "(I)V"⟩
abbrev cX12_whole : ByteArray := prog_14_method_24_code
def yX12_whole : MethodName := ⟨RX12, "whole", "()V"⟩
abbrev cX12_settle : ByteArray := prog_14_method_25_code
def yX12_settle : MethodName := ⟨RX12, "settle", "(I)V"⟩
abbrev cX12_place : ByteArray := prog_14_method_26_code
def yX12_place : MethodName := ⟨RX12, "place", "(I)I"⟩
abbrev cX12_takesTest : ByteArray := prog_14_method_27_code
def yX12_takesTest : MethodName := ⟨RX12, "takesTest", "()Z"⟩
abbrev cX12_takesE : ByteArray := prog_14_method_28_code
def yX12_takesE : MethodName := ⟨RX12, "takesE", "(I)Z"⟩
abbrev cX12_takesHead : ByteArray := prog_14_method_29_code
def yX12_takesHead : MethodName := ⟨RX12, "takesHead", "(I)Z"⟩
abbrev cX12_takesClause : ByteArray := prog_14_method_30_code
def yX12_takesClause : MethodName := ⟨RX12, "takesClause", "(I)Z"⟩
abbrev cX12_goesText : ByteArray := prog_14_method_31_code
def yX12_goesText : MethodName := ⟨RX12, "goesText", "(I)Z"⟩
abbrev cX12_town : ByteArray := prog_14_method_32_code
def yX12_town : MethodName := ⟨RX12, "town", "()I"⟩
abbrev cX12_begin : ByteArray := prog_14_method_33_code
def yX12_begin : MethodName := ⟨RX12, "begin", "()I"⟩
abbrev cX12_behind : ByteArray := prog_14_method_34_code
def yX12_behind : MethodName := ⟨RX12, "behind", "()I"⟩
abbrev cX12_manyOf : ByteArray := prog_14_method_35_code
def yX12_manyOf : MethodName := ⟨RX12, "manyOf", "(I)I"⟩
abbrev cX12_factOf : ByteArray := prog_14_method_36_code
def yX12_factOf : MethodName := ⟨RX12, "factOf", "(III)I"⟩
abbrev cX12_holds : ByteArray := prog_14_method_37_code
def yX12_holds : MethodName := ⟨RX12, "holds", "(III)Z"⟩
abbrev cX12_sumOf : ByteArray := prog_14_method_38_code
def yX12_sumOf : MethodName := ⟨RX12, "sumOf", "(III)I"⟩
abbrev cX12_priceOf : ByteArray := prog_14_method_39_code
def yX12_priceOf : MethodName := ⟨RX12, "priceOf", "(II)I"⟩
abbrev cX12_isAlls : ByteArray := prog_14_method_40_code
def yX12_isAlls : MethodName := ⟨RX12, "isAlls", "(I)Z"⟩
abbrev cX12_counts : ByteArray := prog_14_method_41_code
def yX12_counts : MethodName := ⟨RX12, "counts", "(III)I"⟩
abbrev cX12_commonOf : ByteArray := prog_14_method_42_code
def yX12_commonOf : MethodName := ⟨RX12, "commonOf", "(II)I"⟩
abbrev cX12_offOf : ByteArray := prog_14_method_43_code
def yX12_offOf : MethodName := ⟨RX12, "offOf", "(II)I"⟩
abbrev cX12_layAmiss : ByteArray := prog_14_method_44_code
def yX12_layAmiss : MethodName := ⟨RX12, "layAmiss", "()I"⟩
abbrev cX12_of : ByteArray := prog_14_method_45_code
def yX12_of : MethodName := ⟨RX12, "of", "(II)I"⟩
abbrev cX12_at : ByteArray := prog_14_method_46_code
def yX12_at : MethodName := ⟨RX12, "at", "(II)I"⟩
abbrev cX12_friendships : ByteArray := prog_14_method_47_code
def yX12_friendships : MethodName := ⟨RX12, "friendships", "()I"⟩
abbrev cX12_year : ByteArray := prog_14_method_48_code
def yX12_year : MethodName := ⟨RX12, "year", "()I"⟩
abbrev cX12_told : ByteArray := prog_14_method_49_code
def yX12_told : MethodName := ⟨RX12, "told", "(I)I"⟩
abbrev cX12_amiss : ByteArray := prog_14_method_50_code
def yX12_amiss : MethodName := ⟨RX12, "amiss", "(I)I"⟩
abbrev cX12_alls : ByteArray := prog_14_method_51_code
def yX12_alls : MethodName := ⟨RX12, "alls", "()I"⟩
abbrev cX12_turn : ByteArray := prog_14_method_52_code
def yX12_turn : MethodName := ⟨RX12, "turn", "(I)V"⟩
abbrev cX12_amissBy : ByteArray := prog_14_method_53_code
def yX12_amissBy : MethodName := ⟨RX12, "amissBy", "(I)I"⟩
abbrev cX12_first : ByteArray := prog_14_method_54_code
def yX12_first : MethodName := ⟨RX12, "first", "(I)I"⟩
abbrev cX12_pricePair : ByteArray := prog_14_method_55_code
def yX12_pricePair : MethodName := ⟨RX12, "pricePair", "(I)I"⟩
abbrev cX12_take : ByteArray := prog_14_method_56_code
def yX12_take : MethodName := ⟨RX12, "take", "(IIII)V"⟩
abbrev cX12_layCheapest : ByteArray := prog_14_method_57_code
def yX12_layCheapest : MethodName := ⟨RX12, "layCheapest", "()V"⟩
abbrev cX12_cheapest : ByteArray := prog_14_method_58_code
def yX12_cheapest : MethodName := ⟨RX12, "cheapest", "(I)I"⟩
abbrev cX12_goes : ByteArray := prog_14_method_59_code
def yX12_goes : MethodName := ⟨RX12, "goes", "(I)I"⟩
abbrev cX12_befriends : ByteArray := prog_14_method_60_code
def yX12_befriends : MethodName := ⟨RX12, "befriends", "(III)I"⟩
abbrev cX12_complain : ByteArray := prog_14_method_61_code
def yX12_complain : MethodName := ⟨RX12, "complain", "(II)I"⟩
abbrev cX12_isTold : ByteArray := prog_14_method_62_code
def yX12_isTold : MethodName := ⟨RX12, "isTold", "()Z"⟩
abbrev cX12_made : ByteArray := prog_14_method_63_code
def yX12_made : MethodName := ⟨RX12, "made", "()I"⟩
abbrev cX12_far : ByteArray := prog_14_method_64_code
def yX12_far : MethodName := ⟨RX12, "far", "(II)I"⟩
abbrev cX12_isLawful : ByteArray := prog_14_method_65_code
def yX12_isLawful : MethodName := ⟨RX12, "isLawful", "(II)Z"⟩
abbrev cX12_towns : ByteArray := prog_14_method_66_code
def yX12_towns : MethodName := ⟨RX12, "towns", "(II)I"⟩
abbrev cX12_next : ByteArray := prog_14_method_67_code
def yX12_next : MethodName := ⟨RX12, "next", "(II)I"⟩
abbrev cX12_divisor : ByteArray := prog_14_method_68_code
def yX12_divisor : MethodName := ⟨RX12, "divisor", "(II)I"⟩
abbrev cX12_lowest : ByteArray := prog_14_method_69_code
def yX12_lowest : MethodName := ⟨RX12, "lowest", "(III)J"⟩
abbrev cX12_odds : ByteArray := prog_14_method_70_code
def yX12_odds : MethodName := ⟨RX12, "odds", "(I)J"⟩
abbrev cX12_mean : ByteArray := prog_14_method_71_code
def yX12_mean : MethodName := ⟨RX12, "mean", "(I)J"⟩
abbrev cX12_wish : ByteArray := prog_14_method_72_code
def yX12_wish : MethodName := ⟨RX12, "wish", "(IZ)I"⟩
abbrev cX12_kept : ByteArray := prog_14_method_73_code
def yX12_kept : MethodName := ⟨RX12, "kept", "(I)I"⟩
abbrev cX12_book : ByteArray := prog_14_method_74_code
def yX12_book : MethodName := ⟨RX12, "book", "(II)I"⟩
abbrev cX12_looked : ByteArray := prog_14_method_75_code
def yX12_looked : MethodName := ⟨RX12, "looked", "()I"⟩
abbrev cX12_judge : ByteArray := prog_14_method_76_code
def yX12_judge : MethodName := ⟨RX12, "judge", "(II)I"⟩
abbrev cX12_image : ByteArray := prog_14_method_77_code
def yX12_image : MethodName := ⟨RX12, "image", "()I"⟩
abbrev cX12_undo : ByteArray := prog_14_method_78_code
def yX12_undo : MethodName := ⟨RX12, "undo", "()I"⟩
abbrev cX12_body : ByteArray := prog_14_method_79_code
def yX12_body : MethodName := ⟨RX12, "body", "(I)V"⟩
abbrev cX12_personMeets : ByteArray := prog_14_method_80_code
def yX12_personMeets : MethodName := ⟨RX12, "personMeets", "(II)I"⟩
abbrev cX12_meetsAct : ByteArray := prog_14_method_81_code
def yX12_meetsAct : MethodName := ⟨RX12, "meetsAct", "(II)I"⟩
abbrev cX12_personCounts : ByteArray := prog_14_method_82_code
def yX12_personCounts : MethodName := ⟨RX12, "personCounts", "(II)I"⟩
abbrev cX12_weightyCounts : ByteArray := prog_14_method_83_code
def yX12_weightyCounts : MethodName := ⟨RX12, "weightyCounts", "(II)I"⟩
abbrev cX12_countsAct : ByteArray := prog_14_method_84_code
def yX12_countsAct : MethodName := ⟨RX12, "countsAct", "(II)I"⟩
abbrev cX12_personTells : ByteArray := prog_14_method_85_code
def yX12_personTells : MethodName := ⟨RX12, "personTells", "(II)I"⟩
abbrev cX12_tellsAct : ByteArray := prog_14_method_86_code
def yX12_tellsAct : MethodName := ⟨RX12, "tellsAct", "(II)I"⟩
abbrev cX12_act : ByteArray := prog_14_method_87_code
def yX12_act : MethodName := ⟨RX12, "act", "(III)I"⟩
abbrev cX12_trace : ByteArray := prog_14_method_88_code
def yX12_trace : MethodName := ⟨RX12, "trace", "(I)I"⟩
abbrev cX12_taken : ByteArray := prog_14_method_89_code
def yX12_taken : MethodName := ⟨RX12, "taken", "(II)I"⟩
abbrev cX12_count : ByteArray := prog_14_method_90_code
def yX12_count : MethodName := ⟨RX12, "count", "(I)I"⟩
abbrev cX12_isTape : ByteArray := prog_14_method_91_code
def yX12_isTape : MethodName := ⟨RX12, "isTape", "(I)Z"⟩
abbrev cX12_tape : ByteArray := prog_14_method_92_code
def yX12_tape : MethodName := ⟨RX12, "tape", "(III)I"⟩
abbrev cX12_narrow : ByteArray := prog_14_method_93_code
def yX12_narrow : MethodName := ⟨RX12, "narrow", "(IJ)J"⟩
abbrev cX12_item : ByteArray := prog_14_method_94_code
def yX12_item : MethodName := ⟨RX12, "item", "(IIJ)I"⟩
abbrev cX12_read : ByteArray := prog_14_method_95_code
def yX12_read : MethodName := ⟨RX12, "read", "(II)J"⟩
abbrev cX12_shift : ByteArray := prog_14_method_96_code
def yX12_shift : MethodName := ⟨RX12, "shift", "(IIIII)I"⟩
def RJx145de : String := "java/io/Serializable"
def TJx145de : u_T := fun k => match k with
  | _ => ("", "", "", false)
def tyJx145de : Nat → FieldType := fun k => match k with
  | _ => .int
abbrev wsJx145de0 : List Cond := u_ws RJx145de TJx145de 0
theorem nmJx145de : ∀ a, a < 0 → ∀ b, b < 0 → a ≠ b → (TJx145de a).2.1 ≠ (TJx145de b).2.1 := by decide +kernel
theorem tyJx145de_ok : ∀ k, k < 0 → parseFieldDescriptor (TJx145de k).2.2.1 = some (tyJx145de k) := by decide +kernel
def RJx9f9b0 : String := "java/lang/CharSequence"
def TJx9f9b0 : u_T := fun k => match k with
  | _ => ("", "", "", false)
def tyJx9f9b0 : Nat → FieldType := fun k => match k with
  | _ => .int
abbrev wsJx9f9b00 : List Cond := u_ws RJx9f9b0 TJx9f9b0 0
theorem nmJx9f9b0 : ∀ a, a < 0 → ∀ b, b < 0 → a ≠ b → (TJx9f9b0 a).2.1 ≠ (TJx9f9b0 b).2.1 := by decide +kernel
theorem tyJx9f9b0_ok : ∀ k, k < 0 → parseFieldDescriptor (TJx9f9b0 k).2.2.1 = some (tyJx9f9b0 k) := by decide +kernel
def RJ11 : String := "java/lang/Character"
def TJ11 : u_T := fun k => match k with
  | _ => ("", "", "", false)
def tyJ11 : Nat → FieldType := fun k => match k with
  | _ => .int
abbrev wsJ110 : List Cond := u_ws RJ11 TJ11 0
theorem nmJ11 : ∀ a, a < 0 → ∀ b, b < 0 → a ≠ b → (TJ11 a).2.1 ≠ (TJ11 b).2.1 := by decide +kernel
theorem tyJ11_ok : ∀ k, k < 0 → parseFieldDescriptor (TJ11 k).2.2.1 = some (tyJ11 k) := by decide +kernel
abbrev cJ11_isValidCodePoint_9a6ad : ByteArray := prog_15_method_11_code
def yJ11_isValidCodePoint_9a6ad : MethodName := ⟨RJ11, "isValidCodePoint", "(I)Z"⟩
abbrev cJ11_highSurrogate_5068e : ByteArray := prog_15_method_28_code
def yJ11_highSurrogate_5068e : MethodName := ⟨RJ11, "highSurrogate", "(I)C"⟩
abbrev cJ11_lowSurrogate_5068e : ByteArray := prog_15_method_29_code
def yJ11_lowSurrogate_5068e : MethodName := ⟨RJ11, "lowSurrogate", "(I)C"⟩
def RJxb160c : String := "java/lang/Comparable"
def TJxb160c : u_T := fun k => match k with
  | _ => ("", "", "", false)
def tyJxb160c : Nat → FieldType := fun k => match k with
  | _ => .int
abbrev wsJxb160c0 : List Cond := u_ws RJxb160c TJxb160c 0
theorem nmJxb160c : ∀ a, a < 0 → ∀ b, b < 0 → a ≠ b → (TJxb160c a).2.1 ≠ (TJxb160c b).2.1 := by decide +kernel
theorem tyJxb160c_ok : ∀ k, k < 0 → parseFieldDescriptor (TJxb160c k).2.2.1 = some (tyJxb160c k) := by decide +kernel
def RJ6 : String := "java/lang/Integer"
def TJ6 : u_T := fun k => match k with
  | _ => ("", "", "", false)
def tyJ6 : Nat → FieldType := fun k => match k with
  | _ => .int
abbrev wsJ60 : List Cond := u_ws RJ6 TJ6 0
theorem nmJ6 : ∀ a, a < 0 → ∀ b, b < 0 → a ≠ b → (TJ6 a).2.1 ≠ (TJ6 b).2.1 := by decide +kernel
theorem tyJ6_ok : ∀ k, k < 0 → parseFieldDescriptor (TJ6 k).2.2.1 = some (tyJ6 k) := by decide +kernel
abbrev cJ6_bitCount_0f7a4 : ByteArray := prog_16_method_49_code
def yJ6_bitCount_0f7a4 : MethodName := ⟨RJ6, "bitCount", "(I)I"⟩
def RJ9 : String := "java/lang/Math"
def TJ9 : u_T := fun k => match k with
  | _ => ("", "", "", false)
def tyJ9 : Nat → FieldType := fun k => match k with
  | _ => .int
abbrev wsJ90 : List Cond := u_ws RJ9 TJ9 0
theorem nmJ9 : ∀ a, a < 0 → ∀ b, b < 0 → a ≠ b → (TJ9 a).2.1 ≠ (TJ9 b).2.1 := by decide +kernel
theorem tyJ9_ok : ∀ k, k < 0 → parseFieldDescriptor (TJ9 k).2.2.1 = some (tyJ9 k) := by decide +kernel
abbrev cJ9_abs_0f7a4 : ByteArray := prog_17_method_59_code
def yJ9_abs_0f7a4 : MethodName := ⟨RJ9, "abs", "(I)I"⟩
abbrev cJ9_max_7cf53 : ByteArray := prog_17_method_65_code
def yJ9_max_7cf53 : MethodName := ⟨RJ9, "max", "(II)I"⟩
abbrev cJ9_min_7cf53 : ByteArray := prog_17_method_69_code
def yJ9_min_7cf53 : MethodName := ⟨RJ9, "min", "(II)I"⟩
def RJ0 : String := "java/lang/String"
def TJ0 : u_T := fun k => match k with
  | _ => ("", "", "", false)
def tyJ0 : Nat → FieldType := fun k => match k with
  | _ => .int
abbrev wsJ00 : List Cond := u_ws RJ0 TJ0 0
theorem nmJ0 : ∀ a, a < 0 → ∀ b, b < 0 → a ≠ b → (TJ0 a).2.1 ≠ (TJ0 b).2.1 := by decide +kernel
theorem tyJ0_ok : ∀ k, k < 0 → parseFieldDescriptor (TJ0 k).2.2.1 = some (tyJ0 k) := by decide +kernel
abbrev cJ0_length_8abf5 : ByteArray := prog_18_method_54_code
def yJ0_length_8abf5 : MethodName := ⟨RJ0, "length", "()I"⟩
abbrev cJ0_charAt_5068e : ByteArray := prog_18_method_56_code
def yJ0_charAt_5068e : MethodName := ⟨RJ0, "charAt", "(I)C"⟩
abbrev cJ0_indexOf_0f7a4 : ByteArray := prog_18_method_79_code
def yJ0_indexOf_0f7a4 : MethodName := ⟨RJ0, "indexOf", "(I)I"⟩
abbrev cJ0_indexOf_7cf53 : ByteArray := prog_18_method_80_code
def yJ0_indexOf_7cf53 : MethodName := ⟨RJ0, "indexOf", "(II)I"⟩
abbrev cJ0_coder_7d493 : ByteArray := prog_18_method_152_code
def yJ0_coder_7d493 : MethodName := ⟨RJ0, "coder", "()B"⟩
abbrev cJ0_isLatin1_aae02 : ByteArray := prog_18_method_154_code
def yJ0_isLatin1_aae02 : MethodName := ⟨RJ0, "isLatin1", "()Z"⟩
abbrev cJ0_checkIndex_df160 : ByteArray := prog_18_method_155_code
def yJ0_checkIndex_df160 : MethodName := ⟨RJ0, "checkIndex", "(II)V"⟩
abbrev cJ0_checkBoundsBeginEnd_23922 : ByteArray := prog_18_method_158_code
def yJ0_checkBoundsBeginEnd_23922 : MethodName := ⟨RJ0, "checkBoundsBeginEnd", "(III)V"⟩
def RJ1 : String := "java/lang/StringLatin1"
def TJ1 : u_T := fun k => match k with
  | _ => ("", "", "", false)
def tyJ1 : Nat → FieldType := fun k => match k with
  | _ => .int
abbrev wsJ10 : List Cond := u_ws RJ1 TJ1 0
theorem nmJ1 : ∀ a, a < 0 → ∀ b, b < 0 → a ≠ b → (TJ1 a).2.1 ≠ (TJ1 b).2.1 := by decide +kernel
theorem tyJ1_ok : ∀ k, k < 0 → parseFieldDescriptor (TJ1 k).2.2.1 = some (tyJ1 k) := by decide +kernel
abbrev cJ1_charAt_3b067 : ByteArray := prog_19_method_2_code
def yJ1_charAt_3b067 : MethodName := ⟨RJ1, "charAt", "([BI)C"⟩
abbrev cJ1_canEncode_9a6ad : ByteArray := prog_19_method_4_code
def yJ1_canEncode_9a6ad : MethodName := ⟨RJ1, "canEncode", "(I)Z"⟩
abbrev cJ1_indexOf_4cfef : ByteArray := prog_19_method_22_code
def yJ1_indexOf_4cfef : MethodName := ⟨RJ1, "indexOf", "([BIII)I"⟩
abbrev cJ1_indexOfChar_4cfef : ByteArray := prog_19_method_23_code
def yJ1_indexOfChar_4cfef : MethodName := ⟨RJ1, "indexOfChar", "([BIII)I"⟩
def RJ2 : String := "java/lang/StringUTF16"
def TJ2 : u_T := fun k => match k with
  | _ => ("", "", "", false)
def tyJ2 : Nat → FieldType := fun k => match k with
  | _ => .int
abbrev wsJ20 : List Cond := u_ws RJ2 TJ2 0
theorem nmJ2 : ∀ a, a < 0 → ∀ b, b < 0 → a ≠ b → (TJ2 a).2.1 ≠ (TJ2 b).2.1 := by decide +kernel
theorem tyJ2_ok : ∀ k, k < 0 → parseFieldDescriptor (TJ2 k).2.2.1 = some (tyJ2 k) := by decide +kernel
abbrev cJ2_getChar_3b067 : ByteArray := prog_20_method_5_code
def yJ2_getChar_3b067 : MethodName := ⟨RJ2, "getChar", "([BI)C"⟩
abbrev cJ2_length_9d52b : ByteArray := prog_20_method_6_code
def yJ2_length_9d52b : MethodName := ⟨RJ2, "length", "([B)I"⟩
abbrev cJ2_indexOf_4cfef : ByteArray := prog_20_method_40_code
def yJ2_indexOf_4cfef : MethodName := ⟨RJ2, "indexOf", "([BIII)I"⟩
abbrev cJ2_indexOfChar_4cfef : ByteArray := prog_20_method_47_code
def yJ2_indexOfChar_4cfef : MethodName := ⟨RJ2, "indexOfChar", "([BIII)I"⟩
abbrev cJ2_indexOfCharUnsafe_4cfef : ByteArray := prog_20_method_48_code
def yJ2_indexOfCharUnsafe_4cfef : MethodName := ⟨RJ2, "indexOfCharUnsafe", "([BIII)I"⟩
abbrev cJ2_indexOfSupplementary_4cfef : ByteArray := prog_20_method_49_code
def yJ2_indexOfSupplementary_4cfef : MethodName := ⟨RJ2, "indexOfSupplementary", "([BIII)I"⟩
abbrev cJ2_charAt_3b067 : ByteArray := prog_20_method_83_code
def yJ2_charAt_3b067 : MethodName := ⟨RJ2, "charAt", "([BI)C"⟩
abbrev cJ2_checkIndex_2214a : ByteArray := prog_20_method_91_code
def yJ2_checkIndex_2214a : MethodName := ⟨RJ2, "checkIndex", "(I[B)V"⟩
abbrev cJ2_checkBoundsBeginEnd_d044e : ByteArray := prog_20_method_93_code
def yJ2_checkBoundsBeginEnd_d044e : MethodName := ⟨RJ2, "checkBoundsBeginEnd", "(II[B)V"⟩
def RJ10 : String := "java/lang/System"
def TJ10 : u_T := fun k => match k with
  | _ => ("", "", "", false)
def tyJ10 : Nat → FieldType := fun k => match k with
  | _ => .int
abbrev wsJ100 : List Cond := u_ws RJ10 TJ10 0
theorem nmJ10 : ∀ a, a < 0 → ∀ b, b < 0 → a ≠ b → (TJ10 a).2.1 ≠ (TJ10 b).2.1 := by decide +kernel
theorem tyJ10_ok : ∀ k, k < 0 → parseFieldDescriptor (TJ10 k).2.2.1 = some (tyJ10 k) := by decide +kernel
def RJxfd54e : String := "java/lang/constant/Constable"
def TJxfd54e : u_T := fun k => match k with
  | _ => ("", "", "", false)
def tyJxfd54e : Nat → FieldType := fun k => match k with
  | _ => .int
abbrev wsJxfd54e0 : List Cond := u_ws RJxfd54e TJxfd54e 0
theorem nmJxfd54e : ∀ a, a < 0 → ∀ b, b < 0 → a ≠ b → (TJxfd54e a).2.1 ≠ (TJxfd54e b).2.1 := by decide +kernel
theorem tyJxfd54e_ok : ∀ k, k < 0 → parseFieldDescriptor (TJxfd54e k).2.2.1 = some (tyJxfd54e k) := by decide +kernel
def RJx3cf43 : String := "java/lang/constant/ConstantDesc"
def TJx3cf43 : u_T := fun k => match k with
  | _ => ("", "", "", false)
def tyJx3cf43 : Nat → FieldType := fun k => match k with
  | _ => .int
abbrev wsJx3cf430 : List Cond := u_ws RJx3cf43 TJx3cf43 0
theorem nmJx3cf43 : ∀ a, a < 0 → ∀ b, b < 0 → a ≠ b → (TJx3cf43 a).2.1 ≠ (TJx3cf43 b).2.1 := by decide +kernel
theorem tyJx3cf43_ok : ∀ k, k < 0 → parseFieldDescriptor (TJx3cf43 k).2.2.1 = some (tyJx3cf43 k) := by decide +kernel
def RJ7 : String := "java/util/Arrays"
def TJ7 : u_T := fun k => match k with
  | _ => ("", "", "", false)
def tyJ7 : Nat → FieldType := fun k => match k with
  | _ => .int
abbrev wsJ70 : List Cond := u_ws RJ7 TJ7 0
theorem nmJ7 : ∀ a, a < 0 → ∀ b, b < 0 → a ≠ b → (TJ7 a).2.1 ≠ (TJ7 b).2.1 := by decide +kernel
theorem tyJ7_ok : ∀ k, k < 0 → parseFieldDescriptor (TJ7 k).2.2.1 = some (tyJ7 k) := by decide +kernel
abbrev cJ7_fill_d0a16 : ByteArray := prog_22_method_101_code
def yJ7_fill_d0a16 : MethodName := ⟨RJ7, "fill", "([JJ)V"⟩
abbrev cJ7_fill_53178 : ByteArray := prog_22_method_103_code
def yJ7_fill_53178 : MethodName := ⟨RJ7, "fill", "([II)V"⟩
def RJ3 : String := "jdk/internal/util/Preconditions"
def TJ3 : u_T := fun k => match k with
  | _ => ("", "", "", false)
def tyJ3 : Nat → FieldType := fun k => match k with
  | _ => .int
abbrev wsJ30 : List Cond := u_ws RJ3 TJ3 0
theorem nmJ3 : ∀ a, a < 0 → ∀ b, b < 0 → a ≠ b → (TJ3 a).2.1 ≠ (TJ3 b).2.1 := by decide +kernel
theorem tyJ3_ok : ∀ k, k < 0 → parseFieldDescriptor (TJ3 k).2.2.1 = some (tyJ3 k) := by decide +kernel
abbrev cJ3_checkIndex_8e157 : ByteArray := prog_23_method_11_code
def yJ3_checkIndex_8e157 : MethodName := ⟨RJ3, "checkIndex", "(IILjava/util/function/BiFunction;)I"⟩
abbrev cJ3_checkFromToIndex_8c36e : ByteArray := prog_23_method_12_code
def yJ3_checkFromToIndex_8c36e : MethodName := ⟨RJ3, "checkFromToIndex", "(IIILjava/util/function/BiFunction;)I"⟩
def RL : String := "OneFriendLaw"
abbrev cL_law : ByteArray := code
def yL_law : MethodName := ⟨RL, "law", "([I)Z"⟩
abbrev vwCl : List vw_C := [(RX0, TX0, 3), (RX1, TX1, 3), (RX2, TX2, 3), (RX3, TX3, 3), (RX4, TX4, 3), (RX5, TX5, 3), (RX6, TX6, 3), (RX7, TX7, 9), (RX8, TX8, 2), (RX9, TX9, 15), (RX10, TX10, 3), (RX11, TX11, 12), (RX12, TX12, 61)]
theorem inX0 : ∀ w ∈ wsX00, w ∈ lw_tbl := by decide +kernel
theorem inX1 : ∀ w ∈ wsX10, w ∈ lw_tbl := by decide +kernel
theorem inX2 : ∀ w ∈ wsX20, w ∈ lw_tbl := by decide +kernel
theorem inX3 : ∀ w ∈ wsX30, w ∈ lw_tbl := by decide +kernel
theorem inX4 : ∀ w ∈ wsX40, w ∈ lw_tbl := by decide +kernel
theorem inX5 : ∀ w ∈ wsX50, w ∈ lw_tbl := by decide +kernel
theorem inX6 : ∀ w ∈ wsX60, w ∈ lw_tbl := by decide +kernel
theorem inX7 : ∀ w ∈ wsX70, w ∈ lw_tbl := by decide +kernel
theorem inX8 : ∀ w ∈ wsX80, w ∈ lw_tbl := by decide +kernel
theorem inX9 : ∀ w ∈ wsX90, w ∈ lw_tbl := by decide +kernel
theorem inX10 : ∀ w ∈ wsX100, w ∈ lw_tbl := by decide +kernel
theorem inX11 : ∀ w ∈ wsX110, w ∈ lw_tbl := by decide +kernel
theorem inX12 : ∀ w ∈ wsX120, w ∈ lw_tbl := by decide +kernel
end
section
/-! THE PURE MEMORY. A run's objects and arrays have numbers (handles) in the order of their making; what they hold: ints, longs, handles, by handle and place. -/
abbrev v_TY : Type := Nat → Nat × Nat
abbrev v_MM : Type := (Nat × v_TY) × (Nat → Nat → Int32) × (Nat → Nat → Int64) × (Nat → Nat → Option Nat)
/-- what stays the same in a whole run: the classes' numbers and slots; the arrays' classes; the first address; the addresses of what was there before (statics' arrays, texts) -/
abbrev v_G : Type := va_G × (Nat → ClassId) × Nat × (Nat → Nat)
def v_ad (G : v_G) (h : Nat) : Nat := if h < 1000000 then G.2.2.1 + h else G.2.2.2 (h - 1000000)
def v_tv (G : v_G) : Value → Value
  | .ref a => .ref (v_ad G a)
  | v => v
theorem v_tv_int (G : v_G) (x : Int32) : v_tv G (.int x) = .int x := rfl
theorem v_tv_long (G : v_G) (x : Int64) : v_tv G (.long x) = .long x := rfl
theorem v_tv_ref (G : v_G) (a : Nat) : v_tv G (.ref a) = .ref (v_ad G a) := rfl
theorem v_tv_rf (G : v_G) (r : Option Nat) : v_tv G (va_rf r) = va_rf (r.map (v_ad G)) := by cases r <;> rfl
theorem v_tv_cat (G : v_G) (v : Value) : (v_tv G v).category = v.category := by cases v <;> rfl
/-- the fields of a class that are references -/
def v_fl (k : Nat) : List Bool := match k with
  | 0 => [false, false, false]
  | 1 => [false, false, false]
  | 2 => [false, false, false]
  | 3 => [false, false, false]
  | 4 => [false, false, false]
  | 5 => [false, false, true]
  | 6 => [false, false, false]
  | 7 => [false, true, false, false, true, true, true, true, false]
  | 8 => [true, false]
  | 9 => [false, false, false, true, true, true, true, true, false, true, true, false, true, true, true]
  | 10 => [false, false, false]
  | 11 => [true, true, true, false, true, false, true, false, true, true, true, true]
  | 12 => [false, false, false, true, true, true, true, true, false, false, false, false, false, true, true, true, true, true, true, true, true, false, false, false, true, true, false, false, true, false, false, false, false, true, false, false, true, true, true, true, false, false, false, false, false, false, true, true, true, true, true, true, true, true, true, false, true, true, true, true, true]
  | _ => []
def v_fs (G : v_G) (I : Nat → Nat → Int32) (R : Nat → Nat → Option Nat) (h k : Nat) : List Value := (v_fl k).mapIdx (fun j b => if b then va_rf ((R h j).map (v_ad G)) else .int (I h j))
def v_cell (G : v_G) (K : Nat × v_TY) (I : Nat → Nat → Int32) (J : Nat → Nat → Int64) (R : Nat → Nat → Option Nat) (h : Nat) : va_E :=
  if (K.2 h).1 < 13 then .inr ((K.2 h).1, v_fs G I R h (K.2 h).1)
  else if (K.2 h).1 = 15 then .inl (G.2.1 (K.2 h).1, (K.2 h).2, .inr (.inl (J h)))
  else if (K.2 h).1 < 17 then .inl (G.2.1 (K.2 h).1, (K.2 h).2, .inl (I h))
  else .inl (G.2.1 (K.2 h).1, (K.2 h).2, .inr (.inr (.inr (.inr (fun j => (R h j).map (v_ad G))))))
def v_ws (G : v_G) (M : v_MM) : va_W := (List.range M.1.1).map (fun h => (v_ad G h, v_cell G M.1 M.2.1 M.2.2.1 M.2.2.2 h))
def v_A (G : v_G) : Nat → Prop := fun q => G.2.2.1 ≤ q
abbrev v_ty (G : v_G) : List (ClassId × FieldType) := [(G.2.1 13, .byte), (G.2.1 14, .int), (G.2.1 15, .long), (G.2.1 16, .boolean), (G.2.1 17, .object "OneFriend$Person"), (G.2.1 18, .object "OneFriend$Tape")]
def v_u {α : Type} (f : Nat → Nat → α) (h k : Nat) (x : α) : Nat → Nat → α := fun a b => if a = h ∧ b = k then x else f a b
theorem v_u_same {α : Type} {f : Nat → Nat → α} {h k : Nat} {x : α} : v_u f h k x h k = x := by simp [v_u]
theorem v_u_h {α : Type} {f : Nat → Nat → α} {h k a b : Nat} {x : α} (n : a ≠ h) : v_u f h k x a b = f a b := by simp [v_u, n]
theorem v_u_k {α : Type} {f : Nat → Nat → α} {h k a b : Nat} {x : α} (n : b ≠ k) : v_u f h k x a b = f a b := by simp [v_u, n]
theorem v_ws_len (G : v_G) (M : v_MM) : (v_ws G M).length = M.1.1 := by simp [v_ws]
theorem v_ws_at {G : v_G} {M : v_MM} {h : Nat} (hh : h < M.1.1) : (v_ws G M)[h]? = some (v_ad G h, v_cell G M.1 M.2.1 M.2.2.1 M.2.2.2 h) := by
  simp [v_ws, hh]
theorem v_ws_set {G : v_G} {K : Nat × v_TY} {I I' : Nat → Nat → Int32} {J J' : Nat → Nat → Int64} {R R' : Nat → Nat → Option Nat} {h : Nat} {e : va_E} (he : v_cell G K I' J' R' h = e) (hne : ∀ a, a ≠ h → v_cell G K I' J' R' a = v_cell G K I J R a) :
    (v_ws G (K, I, J, R)).set h (v_ad G h, e) = v_ws G (K, I', J', R') := by
  subst he
  apply List.ext_getElem?
  intro i
  by_cases hi : i < K.1
  · by_cases hih : i = h
    · subst hih
      rw [List.getElem?_set_self (by simp [v_ws, hi])]
      simp [v_ws, hi]
    · rw [List.getElem?_set_ne (Ne.symm hih)]
      simp [v_ws, hi, hne i hih]
  · rw [List.getElem?_eq_none (by simp [v_ws]; omega), List.getElem?_eq_none (by simp [v_ws]; omega)]
theorem v_ad_lt {G : v_G} {h : Nat} (hh : h < 1000000) : v_ad G h = G.2.2.1 + h := by simp [v_ad, hh]
theorem v_D {G : v_G} {M : v_MM} (hn : M.1.1 ≤ 1000000) : va_D (v_A G) (v_ws G M) := by
  have key : ∀ (i : Nat) (p : Nat × va_E), (v_ws G M)[i]? = some p → i < M.1.1 ∧ p.1 = G.2.2.1 + i := by
    intro i p hp
    have hi : i < M.1.1 := by
      have := (List.getElem?_eq_some_iff.mp hp).1
      rwa [v_ws_len] at this
    rw [v_ws_at hi] at hp
    cases hp
    exact ⟨hi, v_ad_lt (by omega)⟩
  refine ⟨fun i j p q hp hq e => ?_, fun k q hq => ?_⟩
  · have h1 := key i p hp
    have h2 := key j q hq
    rw [h1.2, h2.2] at e
    omega
  · have h1 := key k q hq
    show G.2.2.1 ≤ q.1
    rw [h1.2]; omega
/-- a handle's kind and length -/
def v_is (K : Nat × v_TY) (h k n : Nat) : Prop := h < K.1 ∧ K.2 h = (k, n)
theorem v_at_obj {G : v_G} {K : Nat × v_TY} {I : Nat → Nat → Int32} {J : Nat → Nat → Int64} {R : Nat → Nat → Option Nat} {h k n : Nat} (hi : v_is K h k n) (hk : k < 13) : (v_ws G (K, I, J, R))[h]? = some (v_ad G h, .inr (k, v_fs G I R h k)) := by
  rw [v_ws_at hi.1]
  simp [v_cell, hi.2, hk]
theorem v_at_int {G : v_G} {K : Nat × v_TY} {I : Nat → Nat → Int32} {J : Nat → Nat → Int64} {R : Nat → Nat → Option Nat} {h k n : Nat} (hi : v_is K h k n) (hk : k = 13 ∨ k = 14 ∨ k = 16) : (v_ws G (K, I, J, R))[h]? = some (v_ad G h, .inl (G.2.1 k, n, .inl (I h))) := by
  rw [v_ws_at hi.1]
  rcases hk with rfl | rfl | rfl <;> simp [v_cell, hi.2]
theorem v_at_long {G : v_G} {K : Nat × v_TY} {I : Nat → Nat → Int32} {J : Nat → Nat → Int64} {R : Nat → Nat → Option Nat} {h n : Nat} (hi : v_is K h 15 n) : (v_ws G (K, I, J, R))[h]? = some (v_ad G h, .inl (G.2.1 15, n, .inr (.inl (J h)))) := by
  rw [v_ws_at hi.1]
  simp [v_cell, hi.2]
theorem v_at_ref {G : v_G} {K : Nat × v_TY} {I : Nat → Nat → Int32} {J : Nat → Nat → Int64} {R : Nat → Nat → Option Nat} {h k n : Nat} (hi : v_is K h k n) (hk : k = 17 ∨ k = 18) : (v_ws G (K, I, J, R))[h]? = some (v_ad G h, .inl (G.2.1 k, n, .inr (.inr (.inr (.inr (fun j => (R h j).map (v_ad G))))))) := by
  rw [v_ws_at hi.1]
  rcases hk with rfl | rfl <;> simp [v_cell, hi.2]
end
section
/-! THE JUDGEMENT v_V: a method's run over the pure memory -/
def wsG : List Cond := lw_tbl.filter goodWord
def v_kn : Cond → Bool
  | .methodLinkNest .. => true
  | .fieldLinkNest .. => true
  | .castable .. => true
  | .declares .. => true
  | .arrayOver (.object _) => true
  | _ => false
def wsN : List Cond := lw_tbl.filter v_kn
theorem v_nw_warm {w : Cond} (hw : v_kn w = true) {s U : State} (hW : s.WarmedH U.vm) (h : va_Nw w s) : va_Nw w U := by
  cases w with
  | methodLinkNest a i x hh => exact va_Nw.warmM hW h
  | fieldLinkNest a i b n d hh => exact va_Nw.warmF hW h
  | castable a b => exact va_Nw.warmC hW h
  | declares x => exact va_Nw.warmD hW h
  | arrayOver t =>
    cases t with
    | object C => exact va_AO.moved hW.alike h
    | _ => cases hw
  | _ => cases hw
/-- pairs of classes of which the first isn't under the second -/
def v_nc : List (String × String) := [("OneFriend$Person", "OneFriend$Weighty"), ("OneFriend$Person", "OneFriend$Secret"), ("OneFriend$Person", "OneFriend$Moody"), ("OneFriend$Person", "OneFriend$Mayor"), ("OneFriend$Person", "OneFriend$Shy"), ("OneFriend$Person", "OneFriend$Told"),
  ("OneFriend$Weighty", "OneFriend$Secret"), ("OneFriend$Weighty", "OneFriend$Moody"), ("OneFriend$Weighty", "OneFriend$Mayor"), ("OneFriend$Weighty", "OneFriend$Shy"), ("OneFriend$Weighty", "OneFriend$Told"),
  ("OneFriend$Secret", "OneFriend$Weighty"), ("OneFriend$Secret", "OneFriend$Moody"), ("OneFriend$Secret", "OneFriend$Mayor"), ("OneFriend$Secret", "OneFriend$Shy"), ("OneFriend$Secret", "OneFriend$Told"),
  ("OneFriend$Moody", "OneFriend$Weighty"), ("OneFriend$Moody", "OneFriend$Secret"), ("OneFriend$Moody", "OneFriend$Mayor"), ("OneFriend$Moody", "OneFriend$Shy"), ("OneFriend$Moody", "OneFriend$Told"),
  ("OneFriend$Mayor", "OneFriend$Secret"), ("OneFriend$Mayor", "OneFriend$Moody"), ("OneFriend$Mayor", "OneFriend$Shy"), ("OneFriend$Mayor", "OneFriend$Told"),
  ("OneFriend$Shy", "OneFriend$Weighty"), ("OneFriend$Shy", "OneFriend$Moody"), ("OneFriend$Shy", "OneFriend$Mayor"), ("OneFriend$Shy", "OneFriend$Told"),
  ("OneFriend$Told", "OneFriend$Weighty"), ("OneFriend$Told", "OneFriend$Secret"), ("OneFriend$Told", "OneFriend$Mayor"), ("OneFriend$Told", "OneFriend$Shy")]
def v_les : Nat → Value := fun j => .int (([0, 0, 1, 0, 1, 2, 0, 1, 2, 3, 0, 1, 2, 3, 4] : List Int32).getD j 0)
def v_gre : Nat → Value := fun j => .int (([1, 2, 2, 3, 3, 3, 4, 4, 4, 4, 5, 5, 5, 5, 5] : List Int32).getD j 0)
/-- the texts: ant ake reak wmb digits letters signs; their lengths, their bytes -/
def v_tln : List Nat := [3, 3, 4, 3, 10, 6, 3]
def v_tby : List (List Int32) := [[97, 110, 116], [97, 107, 101], [114, 101, 97, 107], [119, 109, 98], [48, 49, 50, 51, 52, 53, 54, 55, 56, 57], [97, 98, 102, 100, 101, 121], [60, 61, 62]]
/-- which class's which entry is which text -/
def v_trf : List (String × Nat × String × Nat) := [("OneFriend$Town", 101, "abfdey", 5), ("OneFriend$Town", 103, "<=>", 6), ("OneFriend$Town", 65, "wmb", 3), ("OneFriend$Town", 71, "ant", 0), ("OneFriend$Town", 77, "ake", 1), ("OneFriend$Town", 79, "reak", 2), ("OneFriend$Town", 89, "0123456789", 4), ("OneFriend$Village", 41, "abfdey", 5)]
/-- what was there before the run, at the state U -/
def v_X (G : v_G) (U : State) : Prop :=
  (∀ w ∈ wsN, va_Nw w U) ∧ (∀ q ∈ v_nc, va_Nc q.1 q.2 U) ∧
  (va_Z "OneFriend" "LESSER" "[I" (.ref (G.2.2.2 0)) (v_A G) U U.heap ∧ va_T .int (G.2.2.2 0) 15 v_les (v_A G) U U.heap) ∧
  (va_Z "OneFriend" "GREATER" "[I" (.ref (G.2.2.2 1)) (v_A G) U U.heap ∧ va_T .int (G.2.2.2 1) 15 v_gre (v_A G) U U.heap) ∧
  (va_Z "java/lang/String" "COMPACT_STRINGS" "Z" (.int 1) (v_A G) U U.heap ∧ (va_Z "jdk/internal/util/Preconditions" "SIOOBE_FORMATTER" "Ljava/util/function/BiFunction;" .null (v_A G) U U.heap ∨ va_Z "jdk/internal/util/Preconditions" "SIOOBE_FORMATTER" "Ljava/util/function/BiFunction;" (.ref (G.2.2.2 2)) (v_A G) U U.heap)) ∧
  vk_S 7 v_tln v_tby (fun i => G.2.2.2 (10 + i)) (fun i => G.2.2.2 (20 + i)) (v_A G) U U.heap ∧
  (∀ q ∈ v_trf, vk_R q.1 q.2.1 q.2.2.1 (G.2.2.2 (10 + q.2.2.2)) U)
theorem v_X_go {G : v_G} {s U : State} {H : Heap} {locs : List Loc} (h : v_X G s) (hW : s.WarmedH U.vm) (hU : U.heap = H) (hS : va_S (v_A G) s.heap H locs) : v_X G U := by
  obtain ⟨h1, h2, ⟨h3, h4⟩, ⟨h5, h6⟩, ⟨h7, h7b⟩, h8, h9⟩ := h
  have hq : ∀ a : Nat, a < s.heap.size → ¬ v_A G a → H[a]? = s.heap[a]? := hS.2.1
  subst hU
  exact ⟨fun w hw => v_nw_warm (List.mem_filter.mp hw).2 hW (h1 w hw), fun q hq => (h2 q hq).moved hW.alike, ⟨(h3.moved hW.alike).kept hq, (h4.moved hW.alike).kept hq⟩, ⟨(h5.moved hW.alike).kept hq, (h6.moved hW.alike).kept hq⟩, ⟨(h7.moved hW.alike).kept hq, h7b.elim (fun z => Or.inl ((z.moved hW.alike).kept hq)) (fun z => Or.inr ((z.moved hW.alike).kept hq))⟩, (h8.moved hW.alike).kept hq, fun q hq => vk_R.warm hW (h9 q hq)⟩
/-- a method's frame: the machine's tables, the code, the words, what was there before -/
def v_C (G : v_G) (l : Launch) (y : MethodName) (cc : ByteArray) (nL : Nat) (rt : Option FieldType) (p : Program) (s : State) (m : MethodId) (args : Array Value) (meth : Method) (c : Code) : Prop :=
  p.tables.exec = Jvm.exec ∧ c.code = cc ∧ c.maxLocals = nL ∧ s.vm.findClass y.cls = some m.cls ∧ (∀ w ∈ wsG, w.before args s = true) ∧ meth.sig.returnType = rt ∧ meth.locks = false ∧ meth.name = y.name ∧ va_K G.1 vwCl (v_ty G) s ∧ v_X G s ∧ G.2.2.1 ≤ s.heap.size
def v_Wx (G : v_G) (M : v_MM) (U : State) : Prop := va_P G.1 vwCl (v_ws G M) U.heap ∧ U.heap.size = G.2.2.1 + M.1.1 ∧ M.1.1 ≤ 1000000
def v_We (G : v_G) (M : v_MM) (U : State) : Prop := v_Wx G M U ∧ va_K G.1 vwCl (v_ty G) U ∧ v_X G U
def v_Rp (G : v_G) (M : v_MM) (s : State) (H : Heap) (locs : List Loc) : Prop := va_P G.1 vwCl (v_ws G M) H ∧ H.size = G.2.2.1 + M.1.1 ∧ M.1.1 ≤ 1000000 ∧ va_S (v_A G) s.heap H locs
/-- the locals, by their places -/
def v_as (G : v_G) (lv : List (Option Value)) : List (Nat × Value) := (List.range lv.length).filterMap (fun j => (lv[j]?).join.map (fun v => (j, v_tv G v)))
theorem v_as_mem {G : v_G} {lv : List (Option Value)} {q : Nat × Value} : q ∈ v_as G lv ↔ ∃ v, lv[q.1]? = some (some v) ∧ q.2 = v_tv G v := by
  unfold v_as
  rw [List.mem_filterMap]
  constructor
  · rintro ⟨j, hj, h⟩
    cases h1 : lv[j]? with
    | none => simp [h1] at h
    | some o =>
      cases o with
      | none => simp [h1] at h
      | some v =>
        simp [h1] at h
        subst h
        exact ⟨v, h1, rfl⟩
  · rintro ⟨v, h1, h2⟩
    refine ⟨q.1, List.mem_range.mpr (List.getElem?_eq_some_iff.mp h1).1, ?_⟩
    simp [h1, ← h2]
def v_L (G : v_G) (nL : Nat) (ls : Array Slot) (lv : List (Option Value)) : Prop := lv_has ls nL (v_as G lv) ∧ lv.length ≤ nL
theorem v_L_at {G : v_G} {nL : Nat} {ls : Array Slot} {lv : List (Option Value)} (L : v_L G nL ls lv) {i : Nat} {v : Value} (h : lv[i]? = some (some v)) : ls[i]? = some (.val (v_tv G v)) := L.1.2.2 (i, v_tv G v) (v_as_mem.mpr ⟨v, h, rfl⟩)
theorem v_L_ix {G : v_G} {nL : Nat} {ls : Array Slot} {lv : List (Option Value)} (L : v_L G nL ls lv) {i : Nat} {v : Value} (h : lv[i]? = some (some v)) : ∃ j : Nat, (v_as G lv)[j]? = some (i, v_tv G v) := List.getElem?_of_mem (v_as_mem.mpr ⟨v, h, rfl⟩)
/-- no long begins just ahead of place i -/
def v_c1 (lv : List (Option Value)) (i : Nat) : Bool := match i with
  | 0 => true
  | j + 1 => match lv[j]? with
    | some (some (.long _)) => false
    | some (some (.double _)) => false
    | _ => true
theorem v_c1_cat {lv : List (Option Value)} {i j : Nat} {v : Value} (hc : v_c1 lv i = true) (hj : j + 1 = i) (hv : lv[j]? = some (some v)) : v.category = 1 := by
  subst hj
  cases v <;> simp_all [v_c1, Value.category]
theorem v_L_set1 {G : v_G} {nL : Nat} {ls ls' : Array Slot} {lv : List (Option Value)} (L : v_L G nL ls lv) {i : Nat} {v : Value} (hc : v_c1 lv i = true)
    (h : lv_has ls' nL ((i, v_tv G v) :: (v_as G lv).filter (fun q => !(q.1 == i) && !(q.1 + 1 == i && q.2.category == 2)))) : v_L G nL ls' (lv.set i (some v)) := by
  refine ⟨⟨h.1, h.2.1, fun q hq => h.2.2 q ?_⟩, by rw [List.length_set]; exact L.2⟩
  obtain ⟨w, h1, h2⟩ := v_as_mem.mp hq
  by_cases hqi : q.1 = i
  · rw [hqi, List.getElem?_set_self' ] at h1
    cases h3 : lv[i]? with
    | none => simp [h3] at h1
    | some o =>
      simp [h3] at h1
      subst h1
      rw [← hqi, ← h2]
      exact List.mem_cons_self
  · rw [List.getElem?_set_ne (Ne.symm hqi)] at h1
    refine List.mem_cons_of_mem _ (List.mem_filter.mpr ⟨v_as_mem.mpr ⟨w, h1, h2⟩, ?_⟩)
    by_cases hq1 : q.1 + 1 = i
    · have := v_c1_cat hc hq1 h1
      simp [hqi, h2, v_tv_cat, this]
    · simp [hqi, hq1]
theorem v_L_set2 {G : v_G} {nL : Nat} {ls ls' : Array Slot} {lv : List (Option Value)} (L : v_L G nL ls lv) {i : Nat} {x : Int64} (hc : v_c1 lv i = true)
    (h : lv_has ls' nL ((i, .long x) :: (v_as G lv).filter (fun q => !(q.1 == i) && (!(q.1 == i + 1) && !(q.1 + 1 == i && q.2.category == 2))))) : v_L G nL ls' ((lv.set i (some (.long x))).set (i + 1) none) := by
  refine ⟨⟨h.1, h.2.1, fun q hq => h.2.2 q ?_⟩, by rw [List.length_set, List.length_set]; exact L.2⟩
  obtain ⟨w, h1, h2⟩ := v_as_mem.mp hq
  by_cases hq2 : q.1 = i + 1
  · rw [hq2, List.getElem?_set_self'] at h1
    cases h3 : (lv.set i (some (.long x)))[i + 1]? with
    | none => simp [h3] at h1
    | some o => simp [h3] at h1
  · rw [List.getElem?_set_ne (Ne.symm hq2)] at h1
    by_cases hqi : q.1 = i
    · rw [hqi, List.getElem?_set_self'] at h1
      cases h3 : lv[i]? with
      | none => simp [h3] at h1
      | some o =>
        simp [h3] at h1
        subst h1
        have e : q = (i, .long x) := by
          cases q
          simp_all [v_tv]
        rw [e]
        exact List.mem_cons_self
    · rw [List.getElem?_set_ne (Ne.symm hqi)] at h1
      refine List.mem_cons_of_mem _ (List.mem_filter.mpr ⟨v_as_mem.mpr ⟨w, h1, h2⟩, ?_⟩)
      by_cases hq1 : q.1 + 1 = i
      · have := v_c1_cat hc hq1 h1
        simp [hqi, hq2, h2, v_tv_cat, this]
      · simp [hqi, hq1, hq2]
/-- from this frame, with these locals, this stack and this memory, the method comes to its end, with Qc -/
def v_V (G : v_G) (l : Launch) (y : MethodName) (cc : ByteArray) (nL : Nat) (rt : Option FieldType) (Z : Room) (Qc : Array Value → State → Outcome → State → Prop) (cells slots pc : Nat) (lv : List (Option Value)) (st : List Value) (M : v_MM) : Prop :=
  ∀ (p : Program) (e : Env) (s : State) (m : MethodId) (args : Array Value) (below : List Frame) (meth : Method) (c : Code) (H : Heap) (locs : List Loc) (ls : Array Slot),
    v_C G l y cc nL rt p s m args meth c → v_Rp G M s H locs → v_L G nL ls lv →
    W p l e Z s m args below meth c H locs cells slots (MQ below Qc args s Z.cells Z.slots (v_A G)) (F0 m pc ls (st.map (v_tv G)))
section VROWS
variable {G : v_G} {l : Launch} {y : MethodName} {cc : ByteArray} {nL : Nat} {rt : Option FieldType} {Z : Room} {Qc : Array Value → State → Outcome → State → Prop} {cells slots pc : Nat} {lv : List (Option Value)} {st : List Value} {M : v_MM}
theorem v_iconst {n : Int} {v : Int32} (hd : decode cc pc = .ok (.iconst n, 1)) (hv : Int32.ofInt n = v) (k : v_V G l y cc nL rt Z Qc cells slots (pc + 1) lv (.int v :: st) M) : v_V G l y cc nL rt Z Qc cells slots pc lv (st) M :=
  fun p e s m args below meth c H locs ls C P L => lv_iconst C.1 C.2.1 hd hv (k p e s m args below meth c H locs ls C P L)
theorem v_bipush {n : Int} {v : Int32} (hd : decode cc pc = .ok (.bipush n, 2)) (hv : (Int8.ofInt n).toInt32 = v) (k : v_V G l y cc nL rt Z Qc cells slots (pc + 2) lv (.int v :: st) M) : v_V G l y cc nL rt Z Qc cells slots pc lv (st) M :=
  fun p e s m args below meth c H locs ls C P L => lv_bipush C.1 C.2.1 hd hv (k p e s m args below meth c H locs ls C P L)
theorem v_sipush {n : Int} {v : Int32} (hd : decode cc pc = .ok (.sipush n, 3)) (hv : (Int16.ofInt n).toInt32 = v) (k : v_V G l y cc nL rt Z Qc cells slots (pc + 3) lv (.int v :: st) M) : v_V G l y cc nL rt Z Qc cells slots pc lv (st) M :=
  fun p e s m args below meth c H locs ls C P L => lv_sipush C.1 C.2.1 hd hv (k p e s m args below meth c H locs ls C P L)
theorem v_lconst {n : Fin 2} {v : Int64} (hd : decode cc pc = .ok (.lconst n, 1)) (hv : Int64.ofNat (n : Nat) = v) (k : v_V G l y cc nL rt Z Qc cells slots (pc + 1) lv (.long v :: st) M) : v_V G l y cc nL rt Z Qc cells slots pc lv (st) M :=
  fun p e s m args below meth c H locs ls C P L => lv_lconst C.1 C.2.1 hd hv (k p e s m args below meth c H locs ls C P L)
theorem v_iadd {x z : Int32} (hd : decode cc pc = .ok (.iadd, 1))  (k : v_V G l y cc nL rt Z Qc cells slots (pc + 1) lv (.int (x + z) :: st) M) : v_V G l y cc nL rt Z Qc cells slots pc lv (.int z :: .int x :: st) M :=
  fun p e s m args below meth c H locs ls C P L => lv_iadd C.1 C.2.1 hd (k p e s m args below meth c H locs ls C P L)
theorem v_isub {x z : Int32} (hd : decode cc pc = .ok (.isub, 1))  (k : v_V G l y cc nL rt Z Qc cells slots (pc + 1) lv (.int (x - z) :: st) M) : v_V G l y cc nL rt Z Qc cells slots pc lv (.int z :: .int x :: st) M :=
  fun p e s m args below meth c H locs ls C P L => lv_isub C.1 C.2.1 hd (k p e s m args below meth c H locs ls C P L)
theorem v_imul {x z : Int32} (hd : decode cc pc = .ok (.imul, 1))  (k : v_V G l y cc nL rt Z Qc cells slots (pc + 1) lv (.int (x * z) :: st) M) : v_V G l y cc nL rt Z Qc cells slots pc lv (.int z :: .int x :: st) M :=
  fun p e s m args below meth c H locs ls C P L => lv_imul C.1 C.2.1 hd (k p e s m args below meth c H locs ls C P L)
theorem v_iand {x z : Int32} (hd : decode cc pc = .ok (.iand, 1))  (k : v_V G l y cc nL rt Z Qc cells slots (pc + 1) lv (.int (x &&& z) :: st) M) : v_V G l y cc nL rt Z Qc cells slots pc lv (.int z :: .int x :: st) M :=
  fun p e s m args below meth c H locs ls C P L => lv_iand C.1 C.2.1 hd (k p e s m args below meth c H locs ls C P L)
theorem v_ior {x z : Int32} (hd : decode cc pc = .ok (.ior, 1))  (k : v_V G l y cc nL rt Z Qc cells slots (pc + 1) lv (.int (x ||| z) :: st) M) : v_V G l y cc nL rt Z Qc cells slots pc lv (.int z :: .int x :: st) M :=
  fun p e s m args below meth c H locs ls C P L => lv_ior C.1 C.2.1 hd (k p e s m args below meth c H locs ls C P L)
theorem v_ixor {x z : Int32} (hd : decode cc pc = .ok (.ixor, 1))  (k : v_V G l y cc nL rt Z Qc cells slots (pc + 1) lv (.int (x ^^^ z) :: st) M) : v_V G l y cc nL rt Z Qc cells slots pc lv (.int z :: .int x :: st) M :=
  fun p e s m args below meth c H locs ls C P L => lv_ixor C.1 C.2.1 hd (k p e s m args below meth c H locs ls C P L)
theorem v_ishl {x z : Int32} (hd : decode cc pc = .ok (.ishl, 1))  (k : v_V G l y cc nL rt Z Qc cells slots (pc + 1) lv (.int (x <<< (z &&& 31)) :: st) M) : v_V G l y cc nL rt Z Qc cells slots pc lv (.int z :: .int x :: st) M :=
  fun p e s m args below meth c H locs ls C P L => lv_ishl C.1 C.2.1 hd (k p e s m args below meth c H locs ls C P L)
theorem v_ishr {x z : Int32} (hd : decode cc pc = .ok (.ishr, 1))  (k : v_V G l y cc nL rt Z Qc cells slots (pc + 1) lv (.int (x >>> (z &&& 31)) :: st) M) : v_V G l y cc nL rt Z Qc cells slots pc lv (.int z :: .int x :: st) M :=
  fun p e s m args below meth c H locs ls C P L => lv_ishr C.1 C.2.1 hd (k p e s m args below meth c H locs ls C P L)
theorem v_iushr {x z v : Int32} (hd : decode cc pc = .ok (.iushr, 1)) (hv : (x.toUInt32 >>> (z.toUInt32 &&& Int32.toUInt32 31)).toInt32 = v) (k : v_V G l y cc nL rt Z Qc cells slots (pc + 1) lv (.int v :: st) M) : v_V G l y cc nL rt Z Qc cells slots pc lv (.int z :: .int x :: st) M :=
  fun p e s m args below meth c H locs ls C P L => lv_iushr C.1 C.2.1 hd hv (k p e s m args below meth c H locs ls C P L)
theorem v_idiv {x z : Int32} (hd : decode cc pc = .ok (.idiv, 1)) (hne : ¬ z = 0) (k : v_V G l y cc nL rt Z Qc cells slots (pc + 1) lv (.int (x / z) :: st) M) : v_V G l y cc nL rt Z Qc cells slots pc lv (.int z :: .int x :: st) M :=
  fun p e s m args below meth c H locs ls C P L => lv_idiv C.1 C.2.1 hd hne (k p e s m args below meth c H locs ls C P L)
theorem v_irem {x z : Int32} (hd : decode cc pc = .ok (.irem, 1)) (hne : ¬ z = 0) (k : v_V G l y cc nL rt Z Qc cells slots (pc + 1) lv (.int (x - x / z * z) :: st) M) : v_V G l y cc nL rt Z Qc cells slots pc lv (.int z :: .int x :: st) M :=
  fun p e s m args below meth c H locs ls C P L => lv_irem C.1 C.2.1 hd hne (k p e s m args below meth c H locs ls C P L)
theorem v_ineg {x : Int32} (hd : decode cc pc = .ok (.ineg, 1))  (k : v_V G l y cc nL rt Z Qc cells slots (pc + 1) lv (.int (-x) :: st) M) : v_V G l y cc nL rt Z Qc cells slots pc lv (.int x :: st) M :=
  fun p e s m args below meth c H locs ls C P L => lv_ineg C.1 C.2.1 hd (k p e s m args below meth c H locs ls C P L)
theorem v_land {x z : Int64} (hd : decode cc pc = .ok (.land, 1))  (k : v_V G l y cc nL rt Z Qc cells slots (pc + 1) lv (.long (x &&& z) :: st) M) : v_V G l y cc nL rt Z Qc cells slots pc lv (.long z :: .long x :: st) M :=
  fun p e s m args below meth c H locs ls C P L => lv_land C.1 C.2.1 hd (k p e s m args below meth c H locs ls C P L)
theorem v_lor {x z : Int64} (hd : decode cc pc = .ok (.lor, 1))  (k : v_V G l y cc nL rt Z Qc cells slots (pc + 1) lv (.long (x ||| z) :: st) M) : v_V G l y cc nL rt Z Qc cells slots pc lv (.long z :: .long x :: st) M :=
  fun p e s m args below meth c H locs ls C P L => lv_lor C.1 C.2.1 hd (k p e s m args below meth c H locs ls C P L)
theorem v_lxor {x z : Int64} (hd : decode cc pc = .ok (.lxor, 1))  (k : v_V G l y cc nL rt Z Qc cells slots (pc + 1) lv (.long (x ^^^ z) :: st) M) : v_V G l y cc nL rt Z Qc cells slots pc lv (.long z :: .long x :: st) M :=
  fun p e s m args below meth c H locs ls C P L => lv_lxor C.1 C.2.1 hd (k p e s m args below meth c H locs ls C P L)
theorem v_lshl {x v : Int64} {z : Int32} (hd : decode cc pc = .ok (.lshl, 1)) (hv : x <<< (z.toInt64 &&& 63) = v) (k : v_V G l y cc nL rt Z Qc cells slots (pc + 1) lv (.long v :: st) M) : v_V G l y cc nL rt Z Qc cells slots pc lv (.int z :: .long x :: st) M :=
  fun p e s m args below meth c H locs ls C P L => lv_lshl C.1 C.2.1 hd hv (k p e s m args below meth c H locs ls C P L)
theorem v_lshr {x v : Int64} {z : Int32} (hd : decode cc pc = .ok (.lshr, 1)) (hv : x >>> (z.toInt64 &&& 63) = v) (k : v_V G l y cc nL rt Z Qc cells slots (pc + 1) lv (.long v :: st) M) : v_V G l y cc nL rt Z Qc cells slots pc lv (.int z :: .long x :: st) M :=
  fun p e s m args below meth c H locs ls C P L => lv_lshr C.1 C.2.1 hd hv (k p e s m args below meth c H locs ls C P L)
theorem v_lcmp {x z : Int64} (hd : decode cc pc = .ok (.lcmp, 1))  (k : v_V G l y cc nL rt Z Qc cells slots (pc + 1) lv (.int (lg_cmp x z) :: st) M) : v_V G l y cc nL rt Z Qc cells slots pc lv (.long z :: .long x :: st) M :=
  fun p e s m args below meth c H locs ls C P L => W.lcmp C.1 C.2.1 hd (k p e s m args below meth c H locs ls C P L)
theorem v_i2l {x : Int32} (hd : decode cc pc = .ok (.i2l, 1))  (k : v_V G l y cc nL rt Z Qc cells slots (pc + 1) lv (.long x.toInt64 :: st) M) : v_V G l y cc nL rt Z Qc cells slots pc lv (.int x :: st) M :=
  fun p e s m args below meth c H locs ls C P L => lv_i2l C.1 C.2.1 hd rfl (k p e s m args below meth c H locs ls C P L)
theorem v_l2i {x : Int64} (hd : decode cc pc = .ok (.l2i, 1))  (k : v_V G l y cc nL rt Z Qc cells slots (pc + 1) lv (.int x.toInt32 :: st) M) : v_V G l y cc nL rt Z Qc cells slots pc lv (.long x :: st) M :=
  fun p e s m args below meth c H locs ls C P L => lv_l2i C.1 C.2.1 hd rfl (k p e s m args below meth c H locs ls C P L)
theorem v_i2b {x : Int32} (hd : decode cc pc = .ok (.i2b, 1))  (k : v_V G l y cc nL rt Z Qc cells slots (pc + 1) lv (.int x.toInt8.toInt32 :: st) M) : v_V G l y cc nL rt Z Qc cells slots pc lv (.int x :: st) M :=
  fun p e s m args below meth c H locs ls C P L => lv_i2b C.1 C.2.1 hd rfl (k p e s m args below meth c H locs ls C P L)
theorem v_i2s {x : Int32} (hd : decode cc pc = .ok (.i2s, 1))  (k : v_V G l y cc nL rt Z Qc cells slots (pc + 1) lv (.int x.toInt16.toInt32 :: st) M) : v_V G l y cc nL rt Z Qc cells slots pc lv (.int x :: st) M :=
  fun p e s m args below meth c H locs ls C P L => lv_i2s C.1 C.2.1 hd rfl (k p e s m args below meth c H locs ls C P L)
theorem v_i2c {x : Int32} (hd : decode cc pc = .ok (.i2c, 1))  (k : v_V G l y cc nL rt Z Qc cells slots (pc + 1) lv (.int (x.toUInt32 % 65536).toInt32 :: st) M) : v_V G l y cc nL rt Z Qc cells slots pc lv (.int x :: st) M :=
  fun p e s m args below meth c H locs ls C P L => lv_i2c C.1 C.2.1 hd rfl (k p e s m args below meth c H locs ls C P L)
theorem v_dup {a : Value} (hd : decode cc pc = .ok (.dup, 1)) (ha : a.category = 1) (k : v_V G l y cc nL rt Z Qc cells slots (pc + 1) lv (a :: a :: st) M) : v_V G l y cc nL rt Z Qc cells slots pc lv (a :: st) M :=
  fun p e s m args below meth c H locs ls C P L => lv_dup C.1 C.2.1 hd ((v_tv_cat G a).trans ha) (k p e s m args below meth c H locs ls C P L)
theorem v_pop {a : Value} (hd : decode cc pc = .ok (.pop, 1)) (ha : a.category = 1) (k : v_V G l y cc nL rt Z Qc cells slots (pc + 1) lv (st) M) : v_V G l y cc nL rt Z Qc cells slots pc lv (a :: st) M :=
  fun p e s m args below meth c H locs ls C P L => lv_pop C.1 C.2.1 hd ((v_tv_cat G a).trans ha) (k p e s m args below meth c H locs ls C P L)
theorem v_dup2 {a b : Value} (hd : decode cc pc = .ok (.dup2, 1)) (ha : a.category = 1) (hb : b.category = 1) (k : v_V G l y cc nL rt Z Qc cells slots (pc + 1) lv (a :: b :: a :: b :: st) M) : v_V G l y cc nL rt Z Qc cells slots pc lv (a :: b :: st) M :=
  fun p e s m args below meth c H locs ls C P L => lv_dup2_11 C.1 C.2.1 hd ((v_tv_cat G a).trans ha) ((v_tv_cat G b).trans hb) (k p e s m args below meth c H locs ls C P L)
theorem v_iload_n {n : Fin 4} {i : Nat} {x : Int32} (hd : decode cc pc = .ok (.iload_n n, 1)) (hi : (n : Nat) = i) (hl : lv[i]? = some (some (.int x))) (k : v_V G l y cc nL rt Z Qc cells slots (pc + 1) lv (.int x :: st) M) : v_V G l y cc nL rt Z Qc cells slots pc lv st M :=
  fun p e s m args below meth c H locs ls C P L => lv_iload_n C.1 C.2.1 hd hi (v_L_at L hl) (k p e s m args below meth c H locs ls C P L)
theorem v_iload {i : Nat} {x : Int32} (hd : decode cc pc = .ok (.iload i, 2)) (hl : lv[i]? = some (some (.int x))) (k : v_V G l y cc nL rt Z Qc cells slots (pc + 2) lv (.int x :: st) M) : v_V G l y cc nL rt Z Qc cells slots pc lv st M :=
  fun p e s m args below meth c H locs ls C P L => lv_iload C.1 C.2.1 hd (v_L_at L hl) (k p e s m args below meth c H locs ls C P L)
theorem v_lload_n {n : Fin 4} {i : Nat} {x : Int64} (hd : decode cc pc = .ok (.lload_n n, 1)) (hi : (n : Nat) = i) (hl : lv[i]? = some (some (.long x))) (k : v_V G l y cc nL rt Z Qc cells slots (pc + 1) lv (.long x :: st) M) : v_V G l y cc nL rt Z Qc cells slots pc lv st M :=
  fun p e s m args below meth c H locs ls C P L => lv_lload_n C.1 C.2.1 hd hi (v_L_at L hl) (k p e s m args below meth c H locs ls C P L)
theorem v_lload {i : Nat} {x : Int64} (hd : decode cc pc = .ok (.lload i, 2)) (hl : lv[i]? = some (some (.long x))) (k : v_V G l y cc nL rt Z Qc cells slots (pc + 2) lv (.long x :: st) M) : v_V G l y cc nL rt Z Qc cells slots pc lv st M :=
  fun p e s m args below meth c H locs ls C P L => lv_lload C.1 C.2.1 hd (v_L_at L hl) (k p e s m args below meth c H locs ls C P L)
theorem v_aload_n {n : Fin 4} {i : Nat} {x : Nat} (hd : decode cc pc = .ok (.aload_n n, 1)) (hi : (n : Nat) = i) (hl : lv[i]? = some (some (.ref x))) (k : v_V G l y cc nL rt Z Qc cells slots (pc + 1) lv (.ref x :: st) M) : v_V G l y cc nL rt Z Qc cells slots pc lv st M :=
  fun p e s m args below meth c H locs ls C P L => lv_aload_n C.1 C.2.1 hd hi (v_L_at L hl) (k p e s m args below meth c H locs ls C P L)
theorem v_aload {i : Nat} {x : Nat} (hd : decode cc pc = .ok (.aload i, 2)) (hl : lv[i]? = some (some (.ref x))) (k : v_V G l y cc nL rt Z Qc cells slots (pc + 2) lv (.ref x :: st) M) : v_V G l y cc nL rt Z Qc cells slots pc lv st M :=
  fun p e s m args below meth c H locs ls C P L => lv_aload C.1 C.2.1 hd (v_L_at L hl) (k p e s m args below meth c H locs ls C P L)
theorem v_istore_n {n : Fin 4} {i : Nat} {x : Int32} (hd : decode cc pc = .ok (.istore_n n, 1)) (hi : (n : Nat) = i) (hn : i < nL) (hc : v_c1 lv i = true) (k : v_V G l y cc nL rt Z Qc cells slots (pc + 1) (lv.set i (some (.int x))) st M) : v_V G l y cc nL rt Z Qc cells slots pc lv (.int x :: st) M :=
  fun p e s m args below meth c H locs ls C P L => lv_istore_n C.1 C.2.1 hd hi L.1 hn rfl (fun ls2 h2 => k p e s m args below meth c H locs ls2 C P (v_L_set1 (v := .int x) L hc h2))
theorem v_istore {i : Nat} {x : Int32} (hd : decode cc pc = .ok (.istore i, 2)) (hn : i < nL) (hc : v_c1 lv i = true) (k : v_V G l y cc nL rt Z Qc cells slots (pc + 2) (lv.set i (some (.int x))) st M) : v_V G l y cc nL rt Z Qc cells slots pc lv (.int x :: st) M :=
  fun p e s m args below meth c H locs ls C P L => lv_istore C.1 C.2.1 hd L.1 hn rfl (fun ls2 h2 => k p e s m args below meth c H locs ls2 C P (v_L_set1 (v := .int x) L hc h2))
theorem v_astore_n {n : Fin 4} {i : Nat} {x : Nat} (hd : decode cc pc = .ok (.astore_n n, 1)) (hi : (n : Nat) = i) (hn : i < nL) (hc : v_c1 lv i = true) (k : v_V G l y cc nL rt Z Qc cells slots (pc + 1) (lv.set i (some (.ref x))) st M) : v_V G l y cc nL rt Z Qc cells slots pc lv (.ref x :: st) M :=
  fun p e s m args below meth c H locs ls C P L => lv_astore_n C.1 C.2.1 hd hi L.1 hn rfl (fun ls2 h2 => k p e s m args below meth c H locs ls2 C P (v_L_set1 (v := .ref x) L hc h2))
theorem v_astore {i : Nat} {x : Nat} (hd : decode cc pc = .ok (.astore i, 2)) (hn : i < nL) (hc : v_c1 lv i = true) (k : v_V G l y cc nL rt Z Qc cells slots (pc + 2) (lv.set i (some (.ref x))) st M) : v_V G l y cc nL rt Z Qc cells slots pc lv (.ref x :: st) M :=
  fun p e s m args below meth c H locs ls C P L => lv_astore C.1 C.2.1 hd L.1 hn rfl (fun ls2 h2 => k p e s m args below meth c H locs ls2 C P (v_L_set1 (v := .ref x) L hc h2))
theorem v_lstore_n {n : Fin 4} {i : Nat} {x : Int64} (hd : decode cc pc = .ok (.lstore_n n, 1)) (hi : (n : Nat) = i) (hn : i + 1 < nL) (hc : v_c1 lv i = true) (k : v_V G l y cc nL rt Z Qc cells slots (pc + 1) ((lv.set i (some (.long x))).set (i + 1) none) st M) : v_V G l y cc nL rt Z Qc cells slots pc lv (.long x :: st) M :=
  fun p e s m args below meth c H locs ls C P L => lv_lstore_n C.1 C.2.1 hd hi L.1 hn rfl (fun ls2 h2 => k p e s m args below meth c H locs ls2 C P (v_L_set2 L hc h2))
theorem v_lstore {i : Nat} {x : Int64} (hd : decode cc pc = .ok (.lstore i, 2)) (hn : i + 1 < nL) (hc : v_c1 lv i = true) (k : v_V G l y cc nL rt Z Qc cells slots (pc + 2) ((lv.set i (some (.long x))).set (i + 1) none) st M) : v_V G l y cc nL rt Z Qc cells slots pc lv (.long x :: st) M :=
  fun p e s m args below meth c H locs ls C P L => lv_lstore C.1 C.2.1 hd L.1 hn rfl (fun ls2 h2 => k p e s m args below meth c H locs ls2 C P (v_L_set2 L hc h2))
theorem v_iinc {i : Nat} {n : Int} {x v : Int32} (hd : decode cc pc = .ok (.iinc i n, 3)) (hl : lv[i]? = some (some (.int x))) (hv : Int32.ofInt n = v) (hn : i < nL) (hc : v_c1 lv i = true) (k : v_V G l y cc nL rt Z Qc cells slots (pc + 3) (lv.set i (some (.int (x + v)))) st M) : v_V G l y cc nL rt Z Qc cells slots pc lv st M := by
  intro p e s m args below meth c H locs ls C P L
  obtain ⟨j, hj⟩ := v_L_ix L hl
  exact lv_iinc C.1 C.2.1 hd L.1 hj (by rw [hv]) hn rfl (fun ls2 h2 => k p e s m args below meth c H locs ls2 C P (v_L_set1 (v := .int (x + v)) L hc h2))
theorem v_if_eq {x : Int32} {off : Int} {tgt : Nat} (hd : decode cc pc = .ok (.ifCond .eq off, 3)) (ht : (pc : Int) + off = (tgt : Int)) (kt : x = 0 → v_V G l y cc nL rt Z Qc cells slots tgt lv st M) (kf : ¬ (x = 0) → v_V G l y cc nL rt Z Qc cells slots (pc + 3) lv st M) : v_V G l y cc nL rt Z Qc cells slots pc lv (.int x :: st) M :=
  fun p e s m args below meth c H locs ls C P L => lv_if_eq C.1 C.2.1 hd ht (fun h => kt h p e s m args below meth c H locs ls C P L) (fun h => kf h p e s m args below meth c H locs ls C P L)
theorem v_icmp_eq {x z : Int32} {off : Int} {tgt : Nat} (hd : decode cc pc = .ok (.if_icmp .eq off, 3)) (ht : (pc : Int) + off = (tgt : Int)) (kt : x = z → v_V G l y cc nL rt Z Qc cells slots tgt lv st M) (kf : ¬ (x = z) → v_V G l y cc nL rt Z Qc cells slots (pc + 3) lv st M) : v_V G l y cc nL rt Z Qc cells slots pc lv (.int z :: .int x :: st) M :=
  fun p e s m args below meth c H locs ls C P L => lv_icmp_eq C.1 C.2.1 hd ht (fun h => kt h p e s m args below meth c H locs ls C P L) (fun h => kf h p e s m args below meth c H locs ls C P L)
theorem v_if_ne {x : Int32} {off : Int} {tgt : Nat} (hd : decode cc pc = .ok (.ifCond .ne off, 3)) (ht : (pc : Int) + off = (tgt : Int)) (kt : ¬ x = 0 → v_V G l y cc nL rt Z Qc cells slots tgt lv st M) (kf : x = 0 → v_V G l y cc nL rt Z Qc cells slots (pc + 3) lv st M) : v_V G l y cc nL rt Z Qc cells slots pc lv (.int x :: st) M :=
  fun p e s m args below meth c H locs ls C P L => lv_if_ne C.1 C.2.1 hd ht (fun h => kt h p e s m args below meth c H locs ls C P L) (fun h => kf h p e s m args below meth c H locs ls C P L)
theorem v_icmp_ne {x z : Int32} {off : Int} {tgt : Nat} (hd : decode cc pc = .ok (.if_icmp .ne off, 3)) (ht : (pc : Int) + off = (tgt : Int)) (kt : ¬ x = z → v_V G l y cc nL rt Z Qc cells slots tgt lv st M) (kf : x = z → v_V G l y cc nL rt Z Qc cells slots (pc + 3) lv st M) : v_V G l y cc nL rt Z Qc cells slots pc lv (.int z :: .int x :: st) M :=
  fun p e s m args below meth c H locs ls C P L => lv_icmp_ne C.1 C.2.1 hd ht (fun h => kt h p e s m args below meth c H locs ls C P L) (fun h => kf h p e s m args below meth c H locs ls C P L)
theorem v_if_lt {x : Int32} {off : Int} {tgt : Nat} (hd : decode cc pc = .ok (.ifCond .lt off, 3)) (ht : (pc : Int) + off = (tgt : Int)) (kt : x < 0 → v_V G l y cc nL rt Z Qc cells slots tgt lv st M) (kf : ¬ (x < 0) → v_V G l y cc nL rt Z Qc cells slots (pc + 3) lv st M) : v_V G l y cc nL rt Z Qc cells slots pc lv (.int x :: st) M :=
  fun p e s m args below meth c H locs ls C P L => lv_if_lt C.1 C.2.1 hd ht (fun h => kt h p e s m args below meth c H locs ls C P L) (fun h => kf h p e s m args below meth c H locs ls C P L)
theorem v_icmp_lt {x z : Int32} {off : Int} {tgt : Nat} (hd : decode cc pc = .ok (.if_icmp .lt off, 3)) (ht : (pc : Int) + off = (tgt : Int)) (kt : x < z → v_V G l y cc nL rt Z Qc cells slots tgt lv st M) (kf : ¬ (x < z) → v_V G l y cc nL rt Z Qc cells slots (pc + 3) lv st M) : v_V G l y cc nL rt Z Qc cells slots pc lv (.int z :: .int x :: st) M :=
  fun p e s m args below meth c H locs ls C P L => lv_icmp_lt C.1 C.2.1 hd ht (fun h => kt h p e s m args below meth c H locs ls C P L) (fun h => kf h p e s m args below meth c H locs ls C P L)
theorem v_if_ge {x : Int32} {off : Int} {tgt : Nat} (hd : decode cc pc = .ok (.ifCond .ge off, 3)) (ht : (pc : Int) + off = (tgt : Int)) (kt : 0 ≤ x → v_V G l y cc nL rt Z Qc cells slots tgt lv st M) (kf : ¬ (0 ≤ x) → v_V G l y cc nL rt Z Qc cells slots (pc + 3) lv st M) : v_V G l y cc nL rt Z Qc cells slots pc lv (.int x :: st) M :=
  fun p e s m args below meth c H locs ls C P L => lv_if_ge C.1 C.2.1 hd ht (fun h => kt h p e s m args below meth c H locs ls C P L) (fun h => kf h p e s m args below meth c H locs ls C P L)
theorem v_icmp_ge {x z : Int32} {off : Int} {tgt : Nat} (hd : decode cc pc = .ok (.if_icmp .ge off, 3)) (ht : (pc : Int) + off = (tgt : Int)) (kt : z ≤ x → v_V G l y cc nL rt Z Qc cells slots tgt lv st M) (kf : ¬ (z ≤ x) → v_V G l y cc nL rt Z Qc cells slots (pc + 3) lv st M) : v_V G l y cc nL rt Z Qc cells slots pc lv (.int z :: .int x :: st) M :=
  fun p e s m args below meth c H locs ls C P L => lv_icmp_ge C.1 C.2.1 hd ht (fun h => kt h p e s m args below meth c H locs ls C P L) (fun h => kf h p e s m args below meth c H locs ls C P L)
theorem v_if_gt {x : Int32} {off : Int} {tgt : Nat} (hd : decode cc pc = .ok (.ifCond .gt off, 3)) (ht : (pc : Int) + off = (tgt : Int)) (kt : 0 < x → v_V G l y cc nL rt Z Qc cells slots tgt lv st M) (kf : ¬ (0 < x) → v_V G l y cc nL rt Z Qc cells slots (pc + 3) lv st M) : v_V G l y cc nL rt Z Qc cells slots pc lv (.int x :: st) M :=
  fun p e s m args below meth c H locs ls C P L => lv_if_gt C.1 C.2.1 hd ht (fun h => kt h p e s m args below meth c H locs ls C P L) (fun h => kf h p e s m args below meth c H locs ls C P L)
theorem v_icmp_gt {x z : Int32} {off : Int} {tgt : Nat} (hd : decode cc pc = .ok (.if_icmp .gt off, 3)) (ht : (pc : Int) + off = (tgt : Int)) (kt : z < x → v_V G l y cc nL rt Z Qc cells slots tgt lv st M) (kf : ¬ (z < x) → v_V G l y cc nL rt Z Qc cells slots (pc + 3) lv st M) : v_V G l y cc nL rt Z Qc cells slots pc lv (.int z :: .int x :: st) M :=
  fun p e s m args below meth c H locs ls C P L => lv_icmp_gt C.1 C.2.1 hd ht (fun h => kt h p e s m args below meth c H locs ls C P L) (fun h => kf h p e s m args below meth c H locs ls C P L)
theorem v_if_le {x : Int32} {off : Int} {tgt : Nat} (hd : decode cc pc = .ok (.ifCond .le off, 3)) (ht : (pc : Int) + off = (tgt : Int)) (kt : x ≤ 0 → v_V G l y cc nL rt Z Qc cells slots tgt lv st M) (kf : ¬ (x ≤ 0) → v_V G l y cc nL rt Z Qc cells slots (pc + 3) lv st M) : v_V G l y cc nL rt Z Qc cells slots pc lv (.int x :: st) M :=
  fun p e s m args below meth c H locs ls C P L => lv_if_le C.1 C.2.1 hd ht (fun h => kt h p e s m args below meth c H locs ls C P L) (fun h => kf h p e s m args below meth c H locs ls C P L)
theorem v_icmp_le {x z : Int32} {off : Int} {tgt : Nat} (hd : decode cc pc = .ok (.if_icmp .le off, 3)) (ht : (pc : Int) + off = (tgt : Int)) (kt : x ≤ z → v_V G l y cc nL rt Z Qc cells slots tgt lv st M) (kf : ¬ (x ≤ z) → v_V G l y cc nL rt Z Qc cells slots (pc + 3) lv st M) : v_V G l y cc nL rt Z Qc cells slots pc lv (.int z :: .int x :: st) M :=
  fun p e s m args below meth c H locs ls C P L => lv_icmp_le C.1 C.2.1 hd ht (fun h => kt h p e s m args below meth c H locs ls C P L) (fun h => kf h p e s m args below meth c H locs ls C P L)
theorem v_goto {off : Int} {tgt : Nat} (hd : decode cc pc = .ok (.goto off, 3)) (ht : (pc : Int) + off = (tgt : Int)) (k : v_V G l y cc nL rt Z Qc cells slots tgt lv st M) : v_V G l y cc nL rt Z Qc cells slots pc lv st M :=
  fun p e s m args below meth c H locs ls C P L => lv_goto C.1 C.2.1 hd ht (k p e s m args below meth c H locs ls C P L)
theorem v_ifnull {x : Nat} {off : Int} (hd : decode cc pc = .ok (.ifnull off, 3)) (k : v_V G l y cc nL rt Z Qc cells slots (pc + 3) lv st M) : v_V G l y cc nL rt Z Qc cells slots pc lv (.ref x :: st) M :=
  fun p e s m args below meth c H locs ls C P L => lv_ifnull C.1 C.2.1 hd (k p e s m args below meth c H locs ls C P L)
theorem v_ifnonnull {x : Nat} {off : Int} {tgt : Nat} (hd : decode cc pc = .ok (.ifnonnull off, 3)) (ht : (pc : Int) + off = (tgt : Int)) (k : v_V G l y cc nL rt Z Qc cells slots tgt lv st M) : v_V G l y cc nL rt Z Qc cells slots pc lv (.ref x :: st) M :=
  fun p e s m args below meth c H locs ls C P L => lv_ifnonnull C.1 C.2.1 hd ht (k p e s m args below meth c H locs ls C P L)
theorem v_tableIn {dflt lo hi : Int} {offs : Array Int} {len : Nat} {x : Int32} {off : Int} {tgt : Nat} (hd : decode cc pc = .ok (.tableswitch dflt lo hi offs, len)) (h1 : ¬ x.toInt < lo) (h2 : ¬ hi < x.toInt) (ho : offs[(x.toInt - lo).toNat]? = some off) (ht : (pc : Int) + off = (tgt : Int)) (k : v_V G l y cc nL rt Z Qc cells slots tgt lv st M) : v_V G l y cc nL rt Z Qc cells slots pc lv (.int x :: st) M :=
  fun p e s m args below meth c H locs ls C P L => lv_tableIn C.1 C.2.1 hd h1 h2 ho ht (k p e s m args below meth c H locs ls C P L)
theorem v_tableOut {dflt lo hi : Int} {offs : Array Int} {len : Nat} {x : Int32} {tgt : Nat} (hd : decode cc pc = .ok (.tableswitch dflt lo hi offs, len)) (h : x.toInt < lo ∨ hi < x.toInt) (ht : (pc : Int) + dflt = (tgt : Int)) (k : v_V G l y cc nL rt Z Qc cells slots tgt lv st M) : v_V G l y cc nL rt Z Qc cells slots pc lv (.int x :: st) M :=
  fun p e s m args below meth c H locs ls C P L => lv_tableOut C.1 C.2.1 hd h ht (k p e s m args below meth c H locs ls C P L)
theorem v_lookup {dflt : Int} {ps : Array (Int × Int)} {len : Nat} {x : Int32} {off : Int} {tgt : Nat} (hd : decode cc pc = .ok (.lookupswitch dflt ps, len)) (hp : (ps.toList.zip (ps.toList.drop 1)).all (fun (a, next) => a.1 < next.1) = true) (ho : Op.lookupswitch.offset ps.toList dflt x.toInt = off) (ht : (pc : Int) + off = (tgt : Int)) (k : v_V G l y cc nL rt Z Qc cells slots tgt lv st M) : v_V G l y cc nL rt Z Qc cells slots pc lv (.int x :: st) M :=
  fun p e s m args below meth c H locs ls C P L => lv_lookup C.1 C.2.1 hd hp ho ht (k p e s m args below meth c H locs ls C P L)
end VROWS
end
section
/-! HEAP ROWS, ANSWERS, CALLS -/
theorem v_in {w : Cond} (i : Nat) (h : (decide (lw_tbl[i]? = some w) && goodWord w) = true) : w ∈ wsG := by
  simp only [Bool.and_eq_true, decide_eq_true_eq] at h
  exact List.mem_filter.mpr ⟨List.mem_of_getElem? h.1, h.2⟩
theorem v_inN {w : Cond} (i : Nat) (h : (decide (lw_tbl[i]? = some w) && v_kn w) = true) : w ∈ wsN := by
  simp only [Bool.and_eq_true, decide_eq_true_eq] at h
  exact List.mem_filter.mpr ⟨List.mem_of_getElem? h.1, h.2⟩
theorem v_good {w : Cond} (h : w ∈ wsG) : (w.onTables && w.keeps) = true ∨ ∃ ty, w = .arrayClass ty := good_of_word (List.mem_filter.mp h).2
theorem v_lay {ws : List Cond} (h : ∀ w ∈ ws, w ∈ lw_tbl) (hg : ws.all goodWord = true) : ∀ w ∈ ws, w ∈ wsG := fun w hw => List.mem_filter.mpr ⟨h w hw, List.all_eq_true.mp hg w hw⟩
theorem igX0 : ∀ w ∈ wsX00, w ∈ wsG := v_lay inX0 (by decide +kernel)
theorem igX1 : ∀ w ∈ wsX10, w ∈ wsG := v_lay inX1 (by decide +kernel)
theorem igX2 : ∀ w ∈ wsX20, w ∈ wsG := v_lay inX2 (by decide +kernel)
theorem igX3 : ∀ w ∈ wsX30, w ∈ wsG := v_lay inX3 (by decide +kernel)
theorem igX4 : ∀ w ∈ wsX40, w ∈ wsG := v_lay inX4 (by decide +kernel)
theorem igX5 : ∀ w ∈ wsX50, w ∈ wsG := v_lay inX5 (by decide +kernel)
theorem igX6 : ∀ w ∈ wsX60, w ∈ wsG := v_lay inX6 (by decide +kernel)
theorem igX7 : ∀ w ∈ wsX70, w ∈ wsG := v_lay inX7 (by decide +kernel)
theorem igX8 : ∀ w ∈ wsX80, w ∈ wsG := v_lay inX8 (by decide +kernel)
theorem igX9 : ∀ w ∈ wsX90, w ∈ wsG := v_lay inX9 (by decide +kernel)
theorem igX10 : ∀ w ∈ wsX100, w ∈ wsG := v_lay inX10 (by decide +kernel)
theorem igX11 : ∀ w ∈ wsX110, w ∈ wsG := v_lay inX11 (by decide +kernel)
theorem igX12 : ∀ w ∈ wsX120, w ∈ wsG := v_lay inX12 (by decide +kernel)
/-- how the class of number ci, seen from the class own by its entry idx, holds the field k (a reference: b) -/
def v_fg (own : String) (idx ci k : Nat) (b : Bool) : Prop :=
  ∃ (C : String) (T : u_T) (N : Nat) (ref : String), vwCl[ci]? = some (C, T, N) ∧ (∀ w ∈ u_ws C T N, w ∈ wsG) ∧ k < N ∧ Cond.fieldLink own idx ref (T k).2.1 (T k).2.2.1 ∈ wsG ∧ (ref = (T k).1 ∨ Cond.sameField ref (T k).1 (T k).2.1 (T k).2.2.1 ∈ wsG) ∧ (v_fl ci)[k]? = some b ∧ ci < 13
def v_pg (own : String) (idx ci k : Nat) (b : Bool) (ty : FieldType) (fin : Bool) : Prop :=
  ∃ (C : String) (T : u_T) (N : Nat) (ref : String) (ty0 : Nat → FieldType), vwCl[ci]? = some (C, T, N) ∧ (∀ w ∈ u_ws C T N, w ∈ wsG) ∧ k < N ∧ Cond.fieldLink own idx ref (T k).2.1 (T k).2.2.1 ∈ wsG ∧ ref = (T k).1 ∧ (v_fl ci)[k]? = some b ∧ ci < 13 ∧
    (∀ j, j < N → parseFieldDescriptor (T j).2.2.1 = some (ty0 j)) ∧ (∀ a, a < N → ∀ b, b < N → a ≠ b → (T a).2.1 ≠ (T b).2.1) ∧ parseFieldDescriptor (T k).2.2.1 = some ty ∧ (T k).2.2.2 = fin ∧ (fin = true → (T k).1 = own)
theorem v_fs_at {G : v_G} {I : Nat → Nat → Int32} {R : Nat → Nat → Option Nat} {h ci k : Nat} {b : Bool} (hf : (v_fl ci)[k]? = some b) : (v_fs G I R h ci)[k]? = some (if b then va_rf ((R h k).map (v_ad G)) else .int (I h k)) := by
  simp [v_fs, List.getElem?_mapIdx, hf]
theorem v_fs_len {G : v_G} {I : Nat → Nat → Int32} {R : Nat → Nat → Option Nat} {h ci : Nat} : (v_fs G I R h ci).length = (v_fl ci).length := by simp [v_fs]
theorem v_fs_seti {G : v_G} {I : Nat → Nat → Int32} {R : Nat → Nat → Option Nat} {h ci k : Nat} {x : Int32} (hf : (v_fl ci)[k]? = some false) : (v_fs G I R h ci).set k (.int x) = v_fs G (v_u I h k x) R h ci := by
  apply List.ext_getElem?
  intro j
  by_cases hj : j = k
  · subst hj
    rw [List.getElem?_set_self (by rw [v_fs_len]; exact (List.getElem?_eq_some_iff.mp hf).1), v_fs_at hf]
    simp [v_u]
  · rw [List.getElem?_set_ne (Ne.symm hj)]
    simp [v_fs, List.getElem?_mapIdx, v_u, hj]
theorem v_fs_setr {G : v_G} {I : Nat → Nat → Int32} {R : Nat → Nat → Option Nat} {h ci k : Nat} {x : Option Nat} (hf : (v_fl ci)[k]? = some true) : (v_fs G I R h ci).set k (va_rf (x.map (v_ad G))) = v_fs G I (v_u R h k x) h ci := by
  apply List.ext_getElem?
  intro j
  by_cases hj : j = k
  · subst hj
    rw [List.getElem?_set_self (by rw [v_fs_len]; exact (List.getElem?_eq_some_iff.mp hf).1), v_fs_at hf]
    simp [v_u]
  · rw [List.getElem?_set_ne (Ne.symm hj)]
    simp [v_fs, List.getElem?_mapIdx, v_u, hj]
theorem v_cell_obj {G : v_G} {K : Nat × v_TY} {I : Nat → Nat → Int32} {J : Nat → Nat → Int64} {R : Nat → Nat → Option Nat} {h k n : Nat} (hi : v_is K h k n) (hk : k < 13) : v_cell G K I J R h = .inr (k, v_fs G I R h k) := by
  simp [v_cell, hi.2, hk]
theorem v_cell_neI {G : v_G} {K : Nat × v_TY} {I : Nat → Nat → Int32} {J : Nat → Nat → Int64} {R : Nat → Nat → Option Nat} {h k : Nat} {x : Int32} (a : Nat) (ha : a ≠ h) : v_cell G K (v_u I h k x) J R a = v_cell G K I J R a := by
  have e : v_u I h k x a = I a := by funext b; simp [v_u, ha]
  have e2 : ∀ ci, v_fs G (v_u I h k x) R a ci = v_fs G I R a ci := fun ci => by simp [v_fs, e]
  simp [v_cell, e, e2]
theorem v_cell_neR {G : v_G} {K : Nat × v_TY} {I : Nat → Nat → Int32} {J : Nat → Nat → Int64} {R : Nat → Nat → Option Nat} {h k : Nat} {x : Option Nat} (a : Nat) (ha : a ≠ h) : v_cell G K I J (v_u R h k x) a = v_cell G K I J R a := by
  have e : v_u R h k x a = R a := by funext b; simp [v_u, ha]
  have e2 : ∀ ci, v_fs G I (v_u R h k x) a ci = v_fs G I R a ci := fun ci => by simp [v_fs, e]
  simp [v_cell, e, e2]
theorem v_cell_neJ {G : v_G} {K : Nat × v_TY} {I : Nat → Nat → Int32} {J : Nat → Nat → Int64} {R : Nat → Nat → Option Nat} {h k : Nat} {x : Int64} (a : Nat) (ha : a ≠ h) : v_cell G K I (v_u J h k x) R a = v_cell G K I J R a := by
  have e : v_u J h k x a = J a := by funext b; simp [v_u, ha]
  simp [v_cell, e]
def v_Qi (G : v_G) (Post : Int32 → v_MM → Prop) : Array Value → State → Outcome → State → Prop := va_Qi Post (v_Wx G) (v_A G)
def v_Ql (G : v_G) (Post : Int64 → v_MM → Prop) : Array Value → State → Outcome → State → Prop := va_Ql Post (v_Wx G) (v_A G)
def v_Qv (G : v_G) (Post : v_MM → Prop) : Array Value → State → Outcome → State → Prop := va_Qv Post (v_Wx G) (v_A G)
/-- an answer that is a handle, or null -/
def v_Qr (G : v_G) (Post : Option Nat → v_MM → Prop) : Array Value → State → Outcome → State → Prop := va_Qq (fun r (u : Option Nat × v_MM) => r = u.1.map (v_ad G) ∧ Post u.1 u.2) (fun u => v_Wx G u.2) (v_A G)
def v_wy (y : MethodName) (cc : ByteArray) (nL : Nat) (rt : Option FieldType) : List Cond := Cond.code y cc nL rt :: wsG
/-- a method's contract over the pure memory -/
def v_M (G : v_G) (l : Launch) (y : MethodName) (cc : ByteArray) (nL : Nat) (rt : Option FieldType) (Z : Room) (av : List Value) (M : v_MM) (Qc : Array Value → State → Outcome → State → Prop) : Prop :=
  Met l y (v_wy y cc nL rt) Z (va_Pc (av.map (v_tv G)) (v_We G M)) Qc Z.cells Z.slots (v_A G)
section VROWS2
variable {G : v_G} {l : Launch} {y : MethodName} {cc : ByteArray} {nL : Nat} {rt : Option FieldType} {Z : Room} {Qc : Array Value → State → Outcome → State → Prop} {cells slots pc : Nat} {lv : List (Option Value)} {st : List Value} {M : v_MM}
variable {K : Nat × v_TY} {I : Nat → Nat → Int32} {J : Nat → Nat → Int64} {R : Nat → Nat → Option Nat} {h n : Nat}
theorem v_of {av : List Value} (lv0 : List (Option Value)) (hpl : plainName y.cls = true) (hlen : (lg_sl (av.map (v_tv G))).length ≤ nL) (hl0 : lv0.length ≤ nL) (hlv : v_as G lv0 = lv_args 0 (av.map (v_tv G))) (k : v_V G l y cc nL rt Z Qc 0 0 0 lv0 [] M) : v_M G l y cc nL rt Z av M Qc := by
  refine Met.ofW (cc := cc) (maxL := nL) (ret := rt) hpl rfl ?_
  intro p e s m args below meth c s₁ B hml hv
  obtain ⟨rfl, ⟨hP, hsz, hn⟩, hK, hX⟩ := hv
  have hts := atoms_spec (ws := v_wy y cc nL rt) B.pre
  have hown : s.vm.findClass y.cls = some m.cls := findClass_of_methodNamed B.named
  have hl := lv_entry (av.map (v_tv G)) (n := nL) hlen
  rw [lg_entry_eq]
  exact k p e s m _ below meth c s.heap [] _ ⟨B.exec, B.bytes, hml, hown, fun w hw => hts w (List.mem_cons_of_mem _ hw), B.returns, B.notSynchronized, (name_of_methodNamed B.named B.method).1, hK, hX, by omega⟩ ⟨hP, hsz, hn, va_S.rf⟩ ⟨by rw [hlv]; exact hl, hl0⟩
theorem v_getI {idx ci k : Nat} (hg : v_fg y.cls idx ci k false) (hd : decode cc pc = .ok (.getfield idx, 3)) (hi : v_is K h ci n) (kk : v_V G l y cc nL rt Z Qc cells slots (pc + 3) lv (.int (I h k) :: st) (K, I, J, R)) : v_V G l y cc nL rt Z Qc cells slots pc lv (.ref h :: st) (K, I, J, R) := by
  intro p e s m args below meth c H locs ls C P L
  obtain ⟨C0, T, N, ref, g1, g2, g3, g4, g5, g6, g7⟩ := hg
  exact va_get C.1 C.2.1 C.2.2.2.2.1 g2 C.2.2.2.1 C.2.2.2.2.2.2.2.2.1 P.1 h (v_at_obj hi g7) g1 k g3 (C.2.2.2.2.1 _ g4) (fun x hx => by
    rcases g5 with g5 | g5
    · rw [g5]; exact hx
    · exact u_same (C.2.2.2.2.1 _ g5) x hx) (v_fs_at g6) hd (kk p e s m args below meth c H locs ls C P L)
theorem v_getR {idx ci k : Nat} {r : Option Nat} (hg : v_fg y.cls idx ci k true) (hd : decode cc pc = .ok (.getfield idx, 3)) (hi : v_is K h ci n) (hr : R h k = r) (kk : v_V G l y cc nL rt Z Qc cells slots (pc + 3) lv (va_rf r :: st) (K, I, J, R)) : v_V G l y cc nL rt Z Qc cells slots pc lv (.ref h :: st) (K, I, J, R) := by
  intro p e s m args below meth c H locs ls C P L
  obtain ⟨C0, T, N, ref, g1, g2, g3, g4, g5, g6, g7⟩ := hg
  refine va_get C.1 C.2.1 C.2.2.2.2.1 g2 C.2.2.2.1 C.2.2.2.2.2.2.2.2.1 P.1 h (v_at_obj hi g7) g1 k g3 (C.2.2.2.2.1 _ g4) (fun x hx => by
    rcases g5 with g5 | g5
    · rw [g5]; exact hx
    · exact u_same (C.2.2.2.2.1 _ g5) x hx) (v_fs_at g6) hd ?_
  have := kk p e s m args below meth c H locs ls C P L
  rw [List.map_cons, v_tv_rf] at this
  rw [if_pos rfl, hr]
  exact this
/-- a write into the cell of handle h -/
theorem v_wr {s : State} {H H1 : Heap} {locs : List Loc} {I' : Nat → Nat → Int32} {J' : Nat → Nat → Int64} {R' : Nat → Nat → Option Nat} {L : List Loc} (P : v_Rp G (K, I, J, R) s H locs) (hh : h < K.1) (he : va_at G.1 vwCl (v_ad G h, v_cell G K I' J' R' h) H1) (hne : ∀ a, a ≠ h → v_cell G K I' J' R' a = v_cell G K I J R a)
    (z : H1.size = H.size) (oq : ∀ q : Nat, q ≠ v_ad G h → H1[q]? = H[q]?) (hL : ∀ q ∈ L, q.base = v_ad G h) : v_Rp G (K, I', J', R') s H1 (locs ++ L) := by
  have hA : v_A G (v_ad G h) := by
    show G.2.2.1 ≤ v_ad G h
    have := P.2.2.1
    rw [v_ad_lt (by have : K.1 ≤ 1000000 := P.2.2.1; omega)]; omega
  have hP := P.1.set (v_D P.2.2.1) (v_ws_at (M := (K, I, J, R)) hh) he oq
  rw [v_ws_set rfl hne] at hP
  refine ⟨hP, z.trans P.2.1, P.2.2.1, by rw [z]; exact P.2.2.2.1, fun q h1 h2 => ?_, fun q hq => ?_⟩
  · rw [oq q (fun e => h2 (by rw [e]; exact hA))]
    exact P.2.2.2.2.1 q h1 h2
  · rcases List.mem_append.mp hq with h1 | h1
    · exact P.2.2.2.2.2 q h1
    · rw [hL q h1]; exact hA
theorem v_cell_int {k : Nat} (hi : v_is K h k n) (hk : k = 13 ∨ k = 14 ∨ k = 16) : v_cell G K I J R h = .inl (G.2.1 k, n, .inl (I h)) := by
  rcases hk with rfl | rfl | rfl <;> simp [v_cell, hi.2]
theorem v_cell_long (hi : v_is K h 15 n) : v_cell G K I J R h = .inl (G.2.1 15, n, .inr (.inl (J h))) := by simp [v_cell, hi.2]
theorem v_cell_ref {k : Nat} (hi : v_is K h k n) (hk : k = 17 ∨ k = 18) : v_cell G K I J R h = .inl (G.2.1 k, n, .inr (.inr (.inr (.inr (fun j => (R h j).map (v_ad G)))))) := by
  rcases hk with rfl | rfl <;> simp [v_cell, hi.2]
/-- the field's cell, ahead of a putfield and behind it -/
theorem v_putW {p : Program} {e : Env} {s : State} {m : MethodId} {args : Array Value} {below : List Frame} {meth : Method} {c : Code} {H : Heap} {locs : List Loc} {ls : Array Slot} {Q : State → Prop} {rest : List Value} {idx ci k : Nat} {b fin : Bool} {ty : FieldType} {w : Value} {I' : Nat → Nat → Int32} {R' : Nat → Nat → Option Nat}
    (C : v_C G l y cc nL rt p s m args meth c) (P : v_Rp G (K, I, J, R) s H locs) (hg : v_pg y.cls idx ci k b ty fin) (hin : fin = true → y.name = "<init>") (hd : decode cc pc = .ok (.putfield idx, 3)) (hi : v_is K h ci n) (hn : narrow ty w = w) (hfit : fits ty w = true)
    (hfs : (v_fs G I R h ci).set k w = v_fs G I' R' h ci) (hne : ∀ a, a ≠ h → v_cell G K I' J R' a = v_cell G K I J R a)
    (kk : ∀ (H1 : Heap) (locs1 : List Loc), v_Rp G (K, I', J, R') s H1 locs1 → W p l e Z s m args below meth c H1 locs1 cells slots Q (F0 m (pc + 3) ls rest)) :
    W p l e Z s m args below meth c H locs cells slots Q (F0 m pc ls (w :: .ref (v_ad G h) :: rest)) := by
  obtain ⟨C0, T, N, ref, ty0, g1, g2, g3, g4, g5, g6, g7, g8, g9, g10, g11, g12⟩ := hg
  have hap := va_apart (own := y.cls) C.2.2.2.2.1 g2 ty0 g8 g9 C.2.2.2.2.2.2.2.2.1 g1
  obtain ⟨r, h1, cell, q1, q2, q3, q4⟩ := P.1 h _ (v_at_obj hi g7)
  have hr : r = (C0, T, N) := Option.some.inj (h1.symm.trans g1)
  subst hr
  obtain ⟨hS, hfc, kC, hkC, hkind⟩ := C.2.2.2.2.2.2.2.2.1.1 ci _ g1
  obtain ⟨cf, kf, fi, f, hif, hsl⟩ := hS k g3
  have hlay := C.2.2.2.2.1 _ (g2 _ (u_in_lay g3))
  have hst := (u_facts hfc hkC (u_lays C.2.2.2.2.1 g2 g3) hif).1
  have key : ∀ H1 : Heap, H1[v_ad G h]? = some (cell.setSlot f.slot w) → va_at G.1 vwCl (v_ad G h, v_cell G K I' J R' h) H1 := by
    intro H1 e1
    rw [v_cell_obj hi g7, ← hfs]
    rw [hsl] at e1
    exact ⟨_, g1, t_OB.to (V := updV (vp_V (v_fs G I R h ci)) k w) ⟨_, e1, q2, q3, t_set q4 hap g3 w⟩ (fun j _ => vp_updV_set (by rw [v_fs_len]; exact (List.getElem?_eq_some_iff.mp g6).1) w j)⟩
  cases fin with
  | false =>
    unfold u_lay at hlay
    rw [if_neg (by rw [g11]; decide)] at hlay
    have h6 := u_store hfc hkC hkind hlay hif g10 hn hfit
    exact W.putK C.1 C.2.1 (f := f) ⟨C.2.2.2.1, C.2.2.2.2.1 _ g4, ⟨_, _, _, by rw [g5]; exact hif⟩, hst⟩ (by rw [q2]; exact h6) q1 q3 (by rw [hsl]; exact k2_hasslot (q4 k g3)) rfl rfl hd fun H' e1 e2 e3 =>
      kk H' _ (v_wr P hi.1 (key H' e1) hne e2 e3 (fun q hq => by rw [List.mem_singleton.mp hq]))
  | true =>
    unfold u_lay at hlay
    rw [if_pos g11] at hlay
    have hcf : m.cls = cf := by
      obtain ⟨_, _, c', _, _, _, -, -, hf', -, -, -, hown2, -⟩ := Cond.laysFinal_spec hlay
      have e1 : c' = cf := by have := hif.symm.trans hf'; simp at this; exact this.1.symm
      rw [g12 rfl] at hown2
      rw [← e1]; exact Option.some.inj (C.2.2.2.1.symm.trans hown2)
    have h6 := u_fits hfc hkC hkind (Or.inr hlay) hif g10 hn hfit
    exact W.putFinK C.1 C.2.1 C.2.2.2.1 (C.2.2.2.2.1 _ g4) (by rw [g5]; exact hif) hst hcf (C.2.2.2.2.2.2.2.1.trans (hin rfl)) (by rw [q2]; exact h6) q1 q3 (by rw [hsl]; exact k2_hasslot (q4 k g3)) rfl rfl hd fun H' e1 e2 e3 =>
      kk H' _ (v_wr P hi.1 (key H' e1) hne e2 e3 (fun q hq => by rw [List.mem_singleton.mp hq]))
theorem v_pg_f {own : String} {idx ci k : Nat} {b fin : Bool} {ty : FieldType} (hg : v_pg own idx ci k b ty fin) : (v_fl ci)[k]? = some b := by
  obtain ⟨C0, T, N, ref, ty0, g1, g2, g3, g4, g5, g6, g7⟩ := hg
  exact g6
theorem v_putI {idx ci k : Nat} {ty : FieldType} {fin : Bool} {x : Int32} (hg : v_pg y.cls idx ci k false ty fin) (hin : fin = true → y.name = "<init>") (hd : decode cc pc = .ok (.putfield idx, 3)) (hi : v_is K h ci n) (hn : narrow ty (.int x) = .int x) (hfit : fits ty (.int x) = true) (kk : v_V G l y cc nL rt Z Qc cells slots (pc + 3) lv st (K, v_u I h k x, J, R)) : v_V G l y cc nL rt Z Qc cells slots pc lv (.int x :: .ref h :: st) (K, I, J, R) :=
  fun p e s m args below meth c H locs ls C P L => v_putW C P hg hin hd hi hn hfit (v_fs_seti (v_pg_f hg)) v_cell_neI (fun H1 locs1 P1 => kk p e s m args below meth c H1 locs1 ls C P1 L)
theorem v_putR {idx ci k : Nat} {ty : FieldType} {fin : Bool} {r : Option Nat} (hg : v_pg y.cls idx ci k true ty fin) (hin : fin = true → y.name = "<init>") (hd : decode cc pc = .ok (.putfield idx, 3)) (hi : v_is K h ci n) (hn : ∀ w : Value, narrow ty w = w) (hfit : fits ty (va_rf (r.map (v_ad G))) = true) (kk : v_V G l y cc nL rt Z Qc cells slots (pc + 3) lv st (K, I, J, v_u R h k r)) : v_V G l y cc nL rt Z Qc cells slots pc lv (va_rf r :: .ref h :: st) (K, I, J, R) := by
  intro p e s m args below meth c H locs ls C P L
  rw [List.map_cons, v_tv_rf]
  exact v_putW C P hg hin hd hi (hn _) hfit (v_fs_setr (v_pg_f hg)) v_cell_neR (fun H1 locs1 P1 => kk p e s m args below meth c H1 locs1 ls C P1 L)
/-- arrays of ints, bytes, booleans: loads, stores -/
theorem v_iaload {i : Int32} (hd : decode cc pc = .ok (.iaload, 1)) (hi : v_is K h 14 n) (hin : vp_in i n) (kk : v_V G l y cc nL rt Z Qc cells slots (pc + 1) lv (.int (I h i.toNatClampNeg) :: st) (K, I, J, R)) : v_V G l y cc nL rt Z Qc cells slots pc lv (.int i :: .ref h :: st) (K, I, J, R) :=
  fun p e s m args below meth c H locs ls C P L => va_iald C.1 C.2.1 C.2.2.2.2.2.2.2.2.1 P.1 h 1 (v_at_int hi (by omega)) rfl hin hd (kk p e s m args below meth c H locs ls C P L)
theorem v_baload {i : Int32} (hd : decode cc pc = .ok (.baload, 1)) (hi : v_is K h 13 n) (hin : vp_in i n) (kk : v_V G l y cc nL rt Z Qc cells slots (pc + 1) lv (.int (I h i.toNatClampNeg) :: st) (K, I, J, R)) : v_V G l y cc nL rt Z Qc cells slots pc lv (.int i :: .ref h :: st) (K, I, J, R) :=
  fun p e s m args below meth c H locs ls C P L => va_bald C.1 C.2.1 C.2.2.2.2.2.2.2.2.1 P.1 h 0 (v_at_int hi (by omega)) rfl hin hd (kk p e s m args below meth c H locs ls C P L)
theorem v_zaload {i : Int32} (hd : decode cc pc = .ok (.baload, 1)) (hi : v_is K h 16 n) (hin : vp_in i n) (kk : v_V G l y cc nL rt Z Qc cells slots (pc + 1) lv (.int (I h i.toNatClampNeg) :: st) (K, I, J, R)) : v_V G l y cc nL rt Z Qc cells slots pc lv (.int i :: .ref h :: st) (K, I, J, R) :=
  fun p e s m args below meth c H locs ls C P L => va_zald C.1 C.2.1 C.2.2.2.2.2.2.2.2.1 P.1 h 3 (v_at_int hi (by omega)) rfl hin hd (kk p e s m args below meth c H locs ls C P L)
theorem v_iastore {i : Int32} {x : Int32} (hd : decode cc pc = .ok (.iastore, 1)) (hi : v_is K h 14 n) (hin : vp_in i n) (kk : v_V G l y cc nL rt Z Qc cells slots (pc + 1) lv st (K, v_u I h i.toNatClampNeg x, J, R)) : v_V G l y cc nL rt Z Qc cells slots pc lv (.int x :: .int i :: .ref h :: st) (K, I, J, R) := by
  intro p e s m args below meth c H locs ls C P L
  refine W.iast C.1 C.2.1 (P.1 h _ (v_at_int hi (by omega))) ((C.2.2.2.2.2.2.2.2.1.2 1 _ rfl).1 n (fun j => .int (I h j))) (fun q => by cases q) (by show ¬ (i < 0 ∨ (arrV _ _ _).slots.size ≤ _); rw [arrV_size]; exact hin) rfl rfl hd fun H1 e1 z oq => ?_
  refine kk p e s m args below meth c H1 _ ls C (v_wr P hi.1 ?_ v_cell_neI z oq (fun q hq => by rw [List.mem_singleton.mp hq])) L
  rw [v_cell_int hi (by omega)]
  show H1[v_ad G h]? = some (vp_cell _ _)
  rw [e1, vp_cell_i, vp_cell_i, arrV_store]
  congr 2
  funext q
  by_cases hq : q = i.toNatClampNeg
  · subst hq
    simp [updV, v_u, vp_nar]
    try rfl
  · simp [updV, v_u, hq]
theorem v_bastore {i : Int32} {x : Int32} (hd : decode cc pc = .ok (.bastore, 1)) (hi : v_is K h 13 n) (hin : vp_in i n) (kk : v_V G l y cc nL rt Z Qc cells slots (pc + 1) lv st (K, v_u I h i.toNatClampNeg (vp_nar .byte x), J, R)) : v_V G l y cc nL rt Z Qc cells slots pc lv (.int x :: .int i :: .ref h :: st) (K, I, J, R) := by
  intro p e s m args below meth c H locs ls C P L
  refine W.bast C.1 C.2.1 (P.1 h _ (v_at_int hi (by omega))) ((C.2.2.2.2.2.2.2.2.1.2 0 _ rfl).1 n (fun j => .int (I h j))) (fun q => by cases q) (by show ¬ (i < 0 ∨ (arrV _ _ _).slots.size ≤ _); rw [arrV_size]; exact hin) rfl rfl hd fun H1 e1 z oq => ?_
  refine kk p e s m args below meth c H1 _ ls C (v_wr P hi.1 ?_ v_cell_neI z oq (fun q hq => by rw [List.mem_singleton.mp hq])) L
  rw [v_cell_int hi (by omega)]
  show H1[v_ad G h]? = some (vp_cell _ _)
  rw [e1, vp_cell_i, vp_cell_i, arrV_store]
  congr 2
  funext q
  by_cases hq : q = i.toNatClampNeg
  · subst hq
    simp [updV, v_u, vp_nar]
    try rfl
  · simp [updV, v_u, hq]
theorem v_zastore {i : Int32} {x : Int32} (hd : decode cc pc = .ok (.bastore, 1)) (hi : v_is K h 16 n) (hin : vp_in i n) (kk : v_V G l y cc nL rt Z Qc cells slots (pc + 1) lv st (K, v_u I h i.toNatClampNeg (vp_nar .boolean x), J, R)) : v_V G l y cc nL rt Z Qc cells slots pc lv (.int x :: .int i :: .ref h :: st) (K, I, J, R) := by
  intro p e s m args below meth c H locs ls C P L
  refine W.zast C.1 C.2.1 (P.1 h _ (v_at_int hi (by omega))) ((C.2.2.2.2.2.2.2.2.1.2 3 _ rfl).1 n (fun j => .int (I h j))) (fun q => by cases q) (by show ¬ (i < 0 ∨ (arrV _ _ _).slots.size ≤ _); rw [arrV_size]; exact hin) rfl rfl hd fun H1 e1 z oq => ?_
  refine kk p e s m args below meth c H1 _ ls C (v_wr P hi.1 ?_ v_cell_neI z oq (fun q hq => by rw [List.mem_singleton.mp hq])) L
  rw [v_cell_int hi (by omega)]
  show H1[v_ad G h]? = some (vp_cell _ _)
  rw [e1, vp_cell_i, vp_cell_i, arrV_store]
  congr 2
  funext q
  by_cases hq : q = i.toNatClampNeg
  · subst hq
    simp [updV, v_u, vp_nar]
    try rfl
  · simp [updV, v_u, hq]
theorem v_laload {i : Int32} (hd : decode cc pc = .ok (.laload, 1)) (hi : v_is K h 15 n) (hin : vp_in i n) (kk : v_V G l y cc nL rt Z Qc cells slots (pc + 1) lv (.long (J h i.toNatClampNeg) :: st) (K, I, J, R)) : v_V G l y cc nL rt Z Qc cells slots pc lv (.int i :: .ref h :: st) (K, I, J, R) :=
  fun p e s m args below meth c H locs ls C P L => va_lald C.1 C.2.1 C.2.2.2.2.2.2.2.2.1 P.1 h 2 (v_at_long hi) rfl hin hd (kk p e s m args below meth c H locs ls C P L)
theorem v_lastore {i : Int32} {x : Int64} (hd : decode cc pc = .ok (.lastore, 1)) (hi : v_is K h 15 n) (hin : vp_in i n) (kk : v_V G l y cc nL rt Z Qc cells slots (pc + 1) lv st (K, I, v_u J h i.toNatClampNeg x, R)) : v_V G l y cc nL rt Z Qc cells slots pc lv (.long x :: .int i :: .ref h :: st) (K, I, J, R) := by
  intro p e s m args below meth c H locs ls C P L
  refine W.last C.1 C.2.1 (P.1 h _ (v_at_long hi)) ((C.2.2.2.2.2.2.2.2.1.2 2 _ rfl).1 n (fun j => .long (J h j))) (fun q => by cases q) (by show ¬ (i < 0 ∨ (arrV _ _ _).slots.size ≤ _); rw [arrV_size]; exact hin) rfl rfl hd fun H1 e1 z oq => ?_
  refine kk p e s m args below meth c H1 _ ls C (v_wr P hi.1 ?_ v_cell_neJ z oq (fun q hq => by rw [List.mem_singleton.mp hq])) L
  rw [v_cell_long hi]
  show H1[v_ad G h]? = some (vp_cell _ _)
  rw [e1, vp_cell_l, vp_cell_l, arrV_store]
  congr 2
  funext q
  by_cases hq : q = i.toNatClampNeg
  · subst hq; simp [updV, v_u]
  · simp [updV, v_u, hq]
theorem v_aaload {i : Int32} {k : Nat} {r : Option Nat} (hd : decode cc pc = .ok (.aaload, 1)) (hi : v_is K h k n) (hk : k = 17 ∨ k = 18) (hin : vp_in i n) (hr : R h i.toNatClampNeg = r) (kk : v_V G l y cc nL rt Z Qc cells slots (pc + 1) lv (va_rf r :: st) (K, I, J, R)) : v_V G l y cc nL rt Z Qc cells slots pc lv (.int i :: .ref h :: st) (K, I, J, R) := by
  intro p e s m args below meth c H locs ls C P L
  have k2 := kk p e s m args below meth c H locs ls C P L
  rw [List.map_cons, v_tv_rf, ← hr] at k2
  rcases hk with rfl | rfl
  · exact va_aldq C.1 C.2.1 C.2.2.2.2.2.2.2.2.1 P.1 h 4 (v_at_ref hi (Or.inl rfl)) rfl hin hd k2
  · exact va_aldq C.1 C.2.1 C.2.2.2.2.2.2.2.2.1 P.1 h 5 (v_at_ref hi (Or.inr rfl)) rfl hin hd k2
theorem v_alen {k : Nat} {v : Int32} (hd : decode cc pc = .ok (.arraylength, 1)) (hi : v_is K h k n) (hk : 13 ≤ k ∧ k < 19) (hv : Int32.ofNat n = v) (kk : v_V G l y cc nL rt Z Qc cells slots (pc + 1) lv (.int v :: st) (K, I, J, R)) : v_V G l y cc nL rt Z Qc cells slots pc lv (.ref h :: st) (K, I, J, R) := by
  intro p e s m args below meth c H locs ls C P L
  have k2 := kk p e s m args below meth c H locs ls C P L
  rcases (show k = 13 ∨ k = 14 ∨ k = 15 ∨ k = 16 ∨ k = 17 ∨ k = 18 by omega) with rfl | rfl | rfl | rfl | rfl | rfl
  · exact va_alen C.1 C.2.1 C.2.2.2.2.2.2.2.2.1 P.1 h 0 (v_at_int hi (by omega)) rfl hv hd k2
  · exact va_alen C.1 C.2.1 C.2.2.2.2.2.2.2.2.1 P.1 h 1 (v_at_int hi (by omega)) rfl hv hd k2
  · exact va_alen C.1 C.2.1 C.2.2.2.2.2.2.2.2.1 P.1 h 2 (v_at_long hi) rfl hv hd k2
  · exact va_alen C.1 C.2.1 C.2.2.2.2.2.2.2.2.1 P.1 h 3 (v_at_int hi (by omega)) rfl hv hd k2
  · exact va_alen C.1 C.2.1 C.2.2.2.2.2.2.2.2.1 P.1 h 4 (v_at_ref hi (by omega)) rfl hv hd k2
  · exact va_alen C.1 C.2.1 C.2.2.2.2.2.2.2.2.1 P.1 h 5 (v_at_ref hi (by omega)) rfl hv hd k2
/-- answers -/
theorem v_wx {s t : State} {H : Heap} {locs : List Loc} (P : v_Rp G M s H locs) (ht : t.heap = H) : v_Wx G M t := ⟨by rw [ht]; exact P.1, by rw [ht]; exact P.2.1, P.2.2.1⟩
theorem v_iret {Post : Int32 → v_MM → Prop} {ty : FieldType} {x : Int32} (hd : decode cc pc = .ok (.ireturn, 1)) (hrt : rt = some ty) (hn : narrow ty (.int x) = .int x) (hc : cells ≤ Z.cells) (hs : slots ≤ Z.slots) (hq : Post x M) : v_V G l y cc nL rt Z (v_Qi G Post) cells slots pc lv [.int x] M :=
  fun p e s m args below meth c H locs ls C P L => W.widen hc hs (W.zret C.1 C.2.1 (C.2.2.2.2.2.1.trans hrt) hn (fun t ht hW => ⟨⟨x, M, rfl, hq, v_wx P ht⟩, P.2.2.2.F ht⟩) P.2.2.2.2.2 hd C.2.2.2.2.2.2.1)
theorem v_lret {Post : Int64 → v_MM → Prop} {x : Int64} (hd : decode cc pc = .ok (.lreturn, 1)) (hrt : rt = some .long) (hc : cells ≤ Z.cells) (hs : slots ≤ Z.slots) (hq : Post x M) : v_V G l y cc nL rt Z (v_Ql G Post) cells slots pc lv [.long x] M :=
  fun p e s m args below meth c H locs ls C P L => W.widen hc hs (W.lret C.1 C.2.1 (C.2.2.2.2.2.1.trans hrt) (fun t ht hW => ⟨⟨x, M, rfl, hq, v_wx P ht⟩, P.2.2.2.F ht⟩) P.2.2.2.2.2 hd C.2.2.2.2.2.2.1)
theorem v_vret {Post : v_MM → Prop} (hd : decode cc pc = .ok (.return_, 1)) (hrt : rt = none) (hc : cells ≤ Z.cells) (hs : slots ≤ Z.slots) (hq : Post M) : v_V G l y cc nL rt Z (v_Qv G Post) cells slots pc lv [] M :=
  fun p e s m args below meth c H locs ls C P L => W.widen hc hs (W.vret C.1 C.2.1 (C.2.2.2.2.2.1.trans hrt) (fun t ht hW => ⟨⟨M, rfl, hq, v_wx P ht⟩, P.2.2.2.F ht⟩) P.2.2.2.2.2 hd C.2.2.2.2.2.2.1)
theorem v_aret {Post : Option Nat → v_MM → Prop} {nm : String} {r : Option Nat} (hd : decode cc pc = .ok (.areturn, 1)) (hrt : rt = some (.object nm)) (hc : cells ≤ Z.cells) (hs : slots ≤ Z.slots) (hq : Post r M) : v_V G l y cc nL rt Z (v_Qr G Post) cells slots pc lv [va_rf r] M := by
  intro p e s m args below meth c H locs ls C P L
  rw [List.map_cons, v_tv_rf]
  refine W.widen hc hs (W.aret C.1 C.2.1 (C.2.2.2.2.2.1.trans hrt) (Or.inl ⟨_, rfl⟩) (by cases r <;> simp [va_rf]) (fun t ht hW => ⟨⟨r.map (v_ad G), (r, M), rfl, ⟨rfl, hq⟩, v_wx P ht⟩, P.2.2.2.F ht⟩) P.2.2.2.2.2 hd C.2.2.2.2.2.2.1)
end VROWS2
end
section
/-! CALLS, NEW CELLS, STATICS, TEXTS -/
theorem v_X_same {G : v_G} {u U : State} (h : v_X G u) (hv : U.vm = u.vm) (hh : U.heap = u.heap) : v_X G U := by
  obtain ⟨h1, h2, ⟨h3, h4⟩, ⟨h5, h6⟩, ⟨h7, h7b⟩, h8, h9⟩ := h
  have ha : u.vm.Alike U.vm := by rw [hv]; exact Vm.Alike.refl u.vm
  unfold v_X
  rw [hh]
  refine ⟨fun w hw => ?_, fun q hq => (h2 q hq).moved ha, ⟨h3.moved ha, h4.moved ha⟩, ⟨h5.moved ha, h6.moved ha⟩, ⟨h7.moved ha, h7b.elim (fun z => Or.inl (z.moved ha)) (fun z => Or.inr (z.moved ha))⟩, h8.moved ha, fun q hq => vk_R.same hv (h9 q hq)⟩
  have hk := (List.mem_filter.mp hw).2
  have h0 := h1 w hw
  cases w with
  | methodLinkNest a i x hh => exact va_Nw.same rfl hv.symm h0
  | fieldLinkNest a i b n d hh => exact va_Nw.same rfl hv.symm h0
  | castable a b => exact va_Nw.same rfl hv.symm h0
  | declares x => exact va_Nw.same rfl hv.symm h0
  | arrayOver t =>
    cases t with
    | object C => exact va_AO.moved ha h0
    | _ => cases hk
  | _ => cases hk
theorem v_blind (G : v_G) (av : List Value) (M : v_MM) : FrameBlind (va_Pc av (v_We G M)) := by
  intro a U g mk q
  obtain ⟨q0, ⟨q1, q2, q3⟩, q4, q5⟩ := q
  exact ⟨q0, ⟨q1, q2, q3⟩, va_K.moved (u := U) (U := U.calling g mk a) (Vm.Alike.refl U.vm) q4, v_X_same q5 rfl rfl⟩
theorem v_goodIn {y : MethodName} {cc : ByteArray} {nL : Nat} {rt : Option FieldType} (h : Cond.code y cc nL rt ∈ wsG) : GoodIn wsG (v_wy y cc nL rt) := fun w hw => by
  rcases List.mem_cons.mp hw with rfl | hw
  · exact ⟨h, v_good h⟩
  · exact ⟨hw, v_good hw⟩
theorem v_goodMore {ws a : List Cond} (ha : ∀ w ∈ a, w ∈ wsG) (hb : GoodIn wsG ws) : GoodIn wsG (a ++ ws) := fun w hw => (List.mem_append.mp hw).elim (fun h => ⟨ha w h, v_good (ha w h)⟩) (hb w)
/-- a receiver -/
def v_rc (G : v_G) (M : v_MM) (h : Nat) (C : String) : Prop := ∀ (s : State) (H : Heap) (locs : List Loc), va_K G.1 vwCl (v_ty G) s → v_X G s → v_Rp G M s H locs → ∃ cell : Cell, H[v_ad G h]? = some cell ∧ cell.vm.isStatics = false ∧ s.vm.findClass C = some cell.cls
theorem v_rcO {G : v_G} {K : Nat × v_TY} {I : Nat → Nat → Int32} {J : Nat → Nat → Int64} {R : Nat → Nat → Option Nat} {h ci n : Nat} {q : vw_C} (hi : v_is K h ci n) (hc : vwCl[ci]? = some q) (hk : ci < 13) : v_rc G (K, I, J, R) h q.1 :=
  fun s H locs hK hX P => va_recv hK P.1 hc (v_at_obj hi hk)
theorem v_rcS {G : v_G} {M : v_MM} {i : Nat} (hi : i < 7) : v_rc G M (1000010 + i) "java/lang/String" := fun s H locs hK hX P => by
  have e : v_ad G (1000010 + i) = G.2.2.2 (10 + i) := by
    unfold v_ad
    rw [if_neg (by omega), show 1000010 + i - 1000000 = 10 + i by omega]
  rw [e]
  exact vk_recv (i := i) (adK := fun i => G.2.2.2 (10 + i)) hX.2.2.2.2.2.1 hi P.2.2.2
def v_np (y : MethodName) (n : Nat) : Prop := y.cls ≠ "java/lang/invoke/MethodHandle" ∧ y.cls ≠ "java/lang/invoke/VarHandle" ∧ (parseMethodDescriptor y.desc).map (fun d => d.parameters.length) = some n
/-- what a call of each kind asks of the tables -/
def v_cV (own : String) (idx : Nat) (C : String) (y : MethodName) (cc : ByteArray) (nL : Nat) (rt : Option FieldType) (n : Nat) : Prop :=
  Cond.methodLink own idx y ∈ wsG ∧ Cond.instanceMethod y ∈ wsG ∧ Cond.selects C y y ∈ wsG ∧ Cond.initialized C ∈ wsG ∧ Cond.code y cc nL rt ∈ wsG ∧ y.cls = C ∧ v_np y n
def v_cU (own : String) (idx : Nat) (C owner : String) (x y : MethodName) (cc : ByteArray) (nL : Nat) (rt : Option FieldType) (n : Nat) : Prop :=
  Cond.methodLink own idx x ∈ wsG ∧ Cond.sameMethod x.cls owner x.name x.desc ∈ wsG ∧ Cond.selects C x y ∈ wsG ∧ Cond.instanceMethod y ∈ wsG ∧ Cond.initialized y.cls ∈ wsG ∧ Cond.code y cc nL rt ∈ wsG ∧
  (Cond.declares ⟨owner, x.name, x.desc⟩ ∈ wsN ∨ ∃ (b : ByteArray) (k : Nat) (r : Option FieldType), Cond.instanceMethod ⟨owner, x.name, x.desc⟩ ∈ wsG ∧ Cond.code ⟨owner, x.name, x.desc⟩ b k r ∈ wsG) ∧ (owner ≠ "java/lang/invoke/MethodHandle" ∧ owner ≠ "java/lang/invoke/VarHandle" ∧ (parseMethodDescriptor x.desc).map (fun d => d.parameters.length) = some n)
def v_cS (own : String) (idx : Nat) (y : MethodName) (cc : ByteArray) (nL : Nat) (rt : Option FieldType) (n : Nat) : Prop :=
  Cond.methodLink own idx y ∈ wsG ∧ Cond.static y ∈ wsG ∧ Cond.initialized y.cls ∈ wsG ∧ Cond.code y cc nL rt ∈ wsG ∧ v_np y n
def v_cI (own : String) (idx : Nat) (y : MethodName) (cc : ByteArray) (nL : Nat) (n : Nat) : Prop :=
  Cond.methodLink own idx y ∈ wsG ∧ Cond.instanceMethod y ∈ wsG ∧ Cond.initialized y.cls ∈ wsG ∧ Cond.code y cc nL none ∈ wsG ∧ y.name = "<init>" ∧ v_np y n
def v_cVN (own : String) (idx : Nat) (C host : String) (y : MethodName) (cc : ByteArray) (nL : Nat) (rt : Option FieldType) (n : Nat) : Prop :=
  Cond.methodLinkNest own idx y host ∈ wsN ∧ Cond.instanceMethod y ∈ wsG ∧ Cond.selects C y y ∈ wsG ∧ Cond.initialized y.cls ∈ wsG ∧ Cond.code y cc nL rt ∈ wsG ∧ v_np y n
def v_cSN (own : String) (idx : Nat) (host : String) (y : MethodName) (cc : ByteArray) (nL : Nat) (rt : Option FieldType) (n : Nat) : Prop :=
  Cond.methodLinkNest own idx y host ∈ wsN ∧ Cond.static y ∈ wsG ∧ Cond.initialized y.cls ∈ wsG ∧ Cond.code y cc nL rt ∈ wsG ∧ v_np y n
def v_cIN (own : String) (idx : Nat) (host : String) (y : MethodName) (cc : ByteArray) (nL : Nat) (n : Nat) : Prop :=
  Cond.methodLinkNest own idx y host ∈ wsN ∧ Cond.instanceMethod y ∈ wsG ∧ Cond.initialized y.cls ∈ wsG ∧ Cond.code y cc nL none ∈ wsG ∧ y.name = "<init>" ∧ v_np y n
def v_cP (own : String) (idx : Nat) (y : MethodName) (cc : ByteArray) (nL : Nat) (rt : Option FieldType) (n : Nat) : Prop :=
  Cond.methodLink own idx y ∈ wsG ∧ Cond.sameMethod y.cls y.cls y.name y.desc ∈ wsG ∧ Cond.superclass own y.cls ∈ wsG ∧ Cond.instanceMethod y ∈ wsG ∧ Cond.initialized y.cls ∈ wsG ∧ Cond.code y cc nL rt ∈ wsG ∧ y.name ≠ "<init>" ∧ (parseMethodDescriptor y.desc).map (fun d => d.parameters.length) = some n
/-- the callee's room fits -/
def v_fit (Z Z' : Room) (nL' : Nat) : Prop := Z'.frames + 1 ≤ Z.frames ∧ 8 + (nL' + 11) + Z'.locals ≤ Z.locals
/-- a call that comes to its end, with Qc' -/
def v_Rn (G : v_G) (l : Launch) (y : MethodName) (cc : ByteArray) (nL : Nat) (rt : Option FieldType) (Z : Room) (cells slots pc : Nat) (st rest : List Value) (Z' : Room) (Qc' : Array Value → State → Outcome → State → Prop) (M : v_MM) : Prop :=
  ∀ (p : Program) (e : Env) (s : State) (m : MethodId) (args : Array Value) (below : List Frame) (meth : Method) (c : Code) (H : Heap) (locs : List Loc) (ls : Array Slot),
    v_C G l y cc nL rt p s m args meth c → v_Rp G M s H locs → ls.size = nL →
    ∃ a' : Array Value, va_Run p l e Z s m args below meth c H locs cells slots Z'.cells Z'.slots (F0 m pc ls (st.map (v_tv G))) (rest.map (v_tv G)) (Qc' a') (v_A G)
section VROWS3
variable {G : v_G} {l : Launch} {y : MethodName} {cc : ByteArray} {nL : Nat} {rt : Option FieldType} {Z : Room} {Qc : Array Value → State → Outcome → State → Prop} {cells slots pc : Nat} {lv : List (Option Value)} {st : List Value} {M : v_MM}
variable {K : Nat × v_TY} {I : Nat → Nat → Int32} {J : Nat → Nat → Int64} {R : Nat → Nat → Option Nat} {h n : Nat}
variable {y' : MethodName} {cc' : ByteArray} {nL' : Nat} {rt' : Option FieldType} {Z' : Room} {av rest : List Value} {Qc' : Array Value → State → Outcome → State → Prop}
theorem v_pre {s : State} {H : Heap} {locs : List Loc} (hK : va_K G.1 vwCl (v_ty G) s) (hX : v_X G s) (P : v_Rp G M s H locs) (U : State) (hU : U.heap = H) (hW : s.WarmedH U.vm) : v_We G M U :=
  ⟨⟨by rw [hU]; exact P.1, by rw [hU]; exact P.2.1, P.2.2.1⟩, va_K.moved hW.alike hK, v_X_go hX hW hU P.2.2.2⟩
theorem v_mapapp (a : List Value) (b : List Value) : (a.reverse ++ b).map (v_tv G) = (a.map (v_tv G)).reverse ++ b.map (v_tv G) := by
  rw [List.map_append, List.map_reverse]
theorem v_catsum : ((rest.map (v_tv G)).map fun v => v.category) = rest.map fun v => v.category := by
  rw [List.map_map]
  exact List.map_congr_left (fun v _ => v_tv_cat G v)
theorem v_rV {C : String} {idx : Nat} (hM : v_M G l y' cc' nL' rt' Z' (.ref h :: av) M Qc') (hw : v_cV y.cls idx C y' cc' nL' rt' av.length) (hr : v_rc G M h C) (hz : v_fit Z Z' nL') (hc : cells + Z'.cells ≤ Z.cells ∧ slots + Z'.slots ≤ Z.slots) (hd : decode cc pc = .ok (.invokevirtual idx, 3)) (hcat : (rest.map fun v => v.category).sum ≤ 8) (hst : st = av.reverse ++ .ref h :: rest) : v_Rn G l y cc nL rt Z cells slots pc st rest Z' Qc' M := by
  subst hst
  intro p e s m args below meth c H locs ls C P hls
  obtain ⟨w1, w2, w3, w4, w5, w6, w7⟩ := hw
  refine ⟨_, va_runV (C := _) (b := v_ad G h) (As := av.map (v_tv G)) (n := av.length) (Ts := wsG) ⟨C.1, C.2.1, C.2.2.1, C.2.2.2.1, C.2.2.2.2.1⟩ hM (cwV av.length C.2.2.2.2.1 (v_goodMore (fun w hw => ?_) (v_goodIn w5)) rfl rfl rfl ⟨w6, w7.1, w7.2.1, w7.2.2⟩ hz) ⟨v_blind _ _ _, hr s H locs C.2.2.2.2.2.2.2.2.1 C.2.2.2.2.2.2.2.2.2.1 P, fun U hU hW => ⟨rfl, v_pre C.2.2.2.2.2.2.2.2.1 C.2.2.2.2.2.2.2.2.2.1 P U hU hW⟩⟩ rfl (by simp) hls (v_mapapp _ _) (lv_room (by rw [v_catsum]; exact hcat)) hd hc⟩
  simp only [List.mem_cons, List.not_mem_nil, or_false] at hw
  rcases hw with rfl | rfl | rfl | rfl <;> assumption
theorem v_rU {C owner : String} {x : MethodName} {idx : Nat} (hM : v_M G l y' cc' nL' rt' Z' (.ref h :: av) M Qc') (hw : v_cU y.cls idx C owner x y' cc' nL' rt' av.length) (hr : v_rc G M h C) (hz : v_fit Z Z' nL') (hc : cells + Z'.cells ≤ Z.cells ∧ slots + Z'.slots ≤ Z.slots) (hd : decode cc pc = .ok (.invokevirtual idx, 3)) (hcat : (rest.map fun v => v.category).sum ≤ 8) (hst : st = av.reverse ++ .ref h :: rest) : v_Rn G l y cc nL rt Z cells slots pc st rest Z' Qc' M := by
  subst hst
  intro p e s m args below meth c H locs ls C P hls
  obtain ⟨w1, w2, w3, w4, w5, w6, w7, w8⟩ := hw
  have T := C.2.2.2.2.1
  have hdecl : va_Decl s ⟨owner, x.name, x.desc⟩ := by
    rcases w7 with w7 | ⟨b, k, r, g1, g2⟩
    · exact va_Decl.abs (C.2.2.2.2.2.2.2.2.2.1.1 _ w7)
    · exact va_Decl.of (T _ g1) (T _ g2)
  refine ⟨_, va_runU (owner := owner) (x := x) (b := v_ad G h) (As := av.map (v_tv G)) (n := av.length) (Ts := wsG) ⟨C.1, C.2.1, C.2.2.1, C.2.2.2.1, C.2.2.2.2.1⟩ hM ⟨⟨rfl, rfl, hz.1, hz.2, pay_in T (v_goodIn w6), List.mem_cons_self⟩, T _ w6, T _ w5, ⟨w8.1, w8.2.1⟩, fun sig hs => ?_, T _ w1, T _ w2, hdecl, T _ w3, T _ w4⟩ ⟨v_blind _ _ _, hr s H locs C.2.2.2.2.2.2.2.2.1 C.2.2.2.2.2.2.2.2.2.1 P, fun U hU hW => ⟨rfl, v_pre C.2.2.2.2.2.2.2.2.1 C.2.2.2.2.2.2.2.2.2.1 P U hU hW⟩⟩ rfl (by simp) hls (v_mapapp _ _) (lv_room (by rw [v_catsum]; exact hcat)) hd hc⟩
  have h2 := w8.2.2
  rw [hs] at h2
  exact (Option.some.inj h2).symm
theorem v_rS {idx : Nat} (hM : v_M G l y' cc' nL' rt' Z' av M Qc') (hw : v_cS y.cls idx y' cc' nL' rt' av.length) (hz : v_fit Z Z' nL') (hc : cells + Z'.cells ≤ Z.cells ∧ slots + Z'.slots ≤ Z.slots) (hd : decode cc pc = .ok (.invokestatic idx, 3)) (hcat : (rest.map fun v => v.category).sum ≤ 8) (hst : st = av.reverse ++ rest) : v_Rn G l y cc nL rt Z cells slots pc st rest Z' Qc' M := by
  subst hst
  intro p e s m args below meth c H locs ls C P hls
  obtain ⟨w1, w2, w3, w4, w5⟩ := hw
  refine ⟨_, va_runS (As := av.map (v_tv G)) (n := av.length) (Ts := wsG) ⟨C.1, C.2.1, C.2.2.1, C.2.2.2.1, C.2.2.2.2.1⟩ hM (va_cwS av.length C.2.2.2.2.1 (v_goodMore (fun w hw => ?_) (v_goodIn w4)) rfl rfl rfl w5 hz) ⟨v_blind _ _ _, fun U hU hW => ⟨rfl, v_pre C.2.2.2.2.2.2.2.2.1 C.2.2.2.2.2.2.2.2.2.1 P U hU hW⟩⟩ rfl (by simp) hls (v_mapapp _ _) (lv_room (by rw [v_catsum]; exact hcat)) hd hc⟩
  simp only [List.mem_cons, List.not_mem_nil, or_false] at hw
  rcases hw with rfl | rfl | rfl <;> assumption
theorem v_rI {idx : Nat} (hM : v_M G l y' cc' nL' none Z' (.ref h :: av) M Qc') (hw : v_cI y.cls idx y' cc' nL' av.length) (hz : v_fit Z Z' nL') (hc : cells + Z'.cells ≤ Z.cells ∧ slots + Z'.slots ≤ Z.slots) (hd : decode cc pc = .ok (.invokespecial idx, 3)) (hcat : (rest.map fun v => v.category).sum ≤ 8) (hst : st = av.reverse ++ .ref h :: rest) : v_Rn G l y cc nL rt Z cells slots pc st rest Z' Qc' M := by
  subst hst
  intro p e s m args below meth c H locs ls C P hls
  obtain ⟨w1, w2, w3, w4, w5, w6⟩ := hw
  have T := C.2.2.2.2.1
  exact ⟨_, va_runI (b := v_ad G h) (As := av.map (v_tv G)) (n := av.length) (Ts := wsG) ⟨C.1, C.2.1, C.2.2.1, C.2.2.2.1, C.2.2.2.2.1⟩ hM ⟨callB_of av.length T (v_goodIn w4) rfl rfl rfl (T _ w3) (T _ w1) w6 hz, w5, T _ w2⟩ ⟨v_blind _ _ _, fun U hU hW => ⟨rfl, v_pre C.2.2.2.2.2.2.2.2.1 C.2.2.2.2.2.2.2.2.2.1 P U hU hW⟩⟩ rfl (by simp) hls (v_mapapp _ _) (lv_room (by rw [v_catsum]; exact hcat)) hd hc⟩
theorem v_rVN {C host : String} {idx : Nat} (hM : v_M G l y' cc' nL' rt' Z' (.ref h :: av) M Qc') (hw : v_cVN y.cls idx C host y' cc' nL' rt' av.length) (hr : v_rc G M h C) (hz : v_fit Z Z' nL') (hc : cells + Z'.cells ≤ Z.cells ∧ slots + Z'.slots ≤ Z.slots) (hd : decode cc pc = .ok (.invokevirtual idx, 3)) (hcat : (rest.map fun v => v.category).sum ≤ 8) (hst : st = av.reverse ++ .ref h :: rest) : v_Rn G l y cc nL rt Z cells slots pc st rest Z' Qc' M := by
  subst hst
  intro p e s m args below meth c H locs ls C P hls
  obtain ⟨w1, w2, w3, w4, w5, w6⟩ := hw
  have T := C.2.2.2.2.1
  exact ⟨_, va_runVN (b := v_ad G h) (As := av.map (v_tv G)) (n := av.length) (Ts := wsG) ⟨C.1, C.2.1, C.2.2.1, C.2.2.2.1, C.2.2.2.2.1⟩ hM ⟨va_cnB av.length T (v_goodIn w5) rfl rfl rfl (C.2.2.2.2.2.2.2.2.2.1.1 _ w1) (T _ w4) w6 hz, T _ w2, T _ w3⟩ ⟨v_blind _ _ _, hr s H locs C.2.2.2.2.2.2.2.2.1 C.2.2.2.2.2.2.2.2.2.1 P, fun U hU hW => ⟨rfl, v_pre C.2.2.2.2.2.2.2.2.1 C.2.2.2.2.2.2.2.2.2.1 P U hU hW⟩⟩ rfl (by simp) hls (v_mapapp _ _) (lv_room (by rw [v_catsum]; exact hcat)) hd hc⟩
theorem v_rSN {host : String} {idx : Nat} (hM : v_M G l y' cc' nL' rt' Z' av M Qc') (hw : v_cSN y.cls idx host y' cc' nL' rt' av.length) (hz : v_fit Z Z' nL') (hc : cells + Z'.cells ≤ Z.cells ∧ slots + Z'.slots ≤ Z.slots) (hd : decode cc pc = .ok (.invokestatic idx, 3)) (hcat : (rest.map fun v => v.category).sum ≤ 8) (hst : st = av.reverse ++ rest) : v_Rn G l y cc nL rt Z cells slots pc st rest Z' Qc' M := by
  subst hst
  intro p e s m args below meth c H locs ls C P hls
  obtain ⟨w1, w2, w3, w4, w5⟩ := hw
  have T := C.2.2.2.2.1
  exact ⟨_, va_runSN (As := av.map (v_tv G)) (n := av.length) (Ts := wsG) ⟨C.1, C.2.1, C.2.2.1, C.2.2.2.1, C.2.2.2.2.1⟩ hM ⟨va_cnB av.length T (v_goodIn w4) rfl rfl rfl (C.2.2.2.2.2.2.2.2.2.1.1 _ w1) (T _ w3) w5 hz, T _ w2, trivial⟩ ⟨v_blind _ _ _, fun U hU hW => ⟨rfl, v_pre C.2.2.2.2.2.2.2.2.1 C.2.2.2.2.2.2.2.2.2.1 P U hU hW⟩⟩ rfl (by simp) hls (v_mapapp _ _) (lv_room (by rw [v_catsum]; exact hcat)) hd hc⟩
theorem v_rIN {host : String} {idx : Nat} (hM : v_M G l y' cc' nL' none Z' (.ref h :: av) M Qc') (hw : v_cIN y.cls idx host y' cc' nL' av.length) (hz : v_fit Z Z' nL') (hc : cells + Z'.cells ≤ Z.cells ∧ slots + Z'.slots ≤ Z.slots) (hd : decode cc pc = .ok (.invokespecial idx, 3)) (hcat : (rest.map fun v => v.category).sum ≤ 8) (hst : st = av.reverse ++ .ref h :: rest) : v_Rn G l y cc nL rt Z cells slots pc st rest Z' Qc' M := by
  subst hst
  intro p e s m args below meth c H locs ls C P hls
  obtain ⟨w1, w2, w3, w4, w5, w6⟩ := hw
  have T := C.2.2.2.2.1
  exact ⟨_, va_runIN (b := v_ad G h) (As := av.map (v_tv G)) (n := av.length) (Ts := wsG) ⟨C.1, C.2.1, C.2.2.1, C.2.2.2.1, C.2.2.2.2.1⟩ hM ⟨va_cnB av.length T (v_goodIn w4) rfl rfl rfl (C.2.2.2.2.2.2.2.2.2.1.1 _ w1) (T _ w3) w6 hz, w5, T _ w2⟩ ⟨v_blind _ _ _, fun U hU hW => ⟨rfl, v_pre C.2.2.2.2.2.2.2.2.1 C.2.2.2.2.2.2.2.2.2.1 P U hU hW⟩⟩ rfl (by simp) hls (v_mapapp _ _) (lv_room (by rw [v_catsum]; exact hcat)) hd hc⟩
/-- super.method(..) -/
theorem v_rP {ci : Nat} {q : vw_C} {idx : Nat} (hM : v_M G l y' cc' nL' rt' Z' (.ref h :: av) (K, I, J, R) Qc') (hw : v_cP y.cls idx y' cc' nL' rt' av.length) (hi : v_is K h ci n) (hq : vwCl[ci]? = some q) (hk : ci < 13) (hz : v_fit Z Z' nL') (hc : cells + Z'.cells ≤ Z.cells ∧ slots + Z'.slots ≤ Z.slots) (hd : decode cc pc = .ok (.invokespecial idx, 3)) (hcat : (rest.map fun v => v.category).sum ≤ 8) (hst : st = av.reverse ++ .ref h :: rest) : v_Rn G l y cc nL rt Z cells slots pc st rest Z' Qc' (K, I, J, R) := by
  subst hst
  intro p e s m args below meth c H locs ls C P hls
  obtain ⟨w1, w2, w3, w4, w5, w6, w7, w8⟩ := hw
  have T := C.2.2.2.2.1
  exact ⟨_, va_runSU (C := q.1) (C.2.2.2.2.2.2.2.2.1.1 ci q hq).2 (b := v_ad G h) (As := av.map (v_tv G)) (n := av.length) (Ts := wsG) ⟨C.1, C.2.1, C.2.2.1, C.2.2.2.1, C.2.2.2.2.1⟩ hM (va_cwSU av.length T (v_goodMore (fun w hw => by
    simp only [List.mem_cons, List.not_mem_nil, or_false] at hw
    rcases hw with rfl | rfl | rfl | rfl | rfl <;> assumption) (v_goodIn w6)) rfl rfl rfl ⟨w7, w8⟩ hz) ⟨v_blind _ _ _, v_rcO hi hq hk s H locs C.2.2.2.2.2.2.2.2.1 C.2.2.2.2.2.2.2.2.2.1 P, fun U hU hW => ⟨rfl, v_pre C.2.2.2.2.2.2.2.2.1 C.2.2.2.2.2.2.2.2.2.1 P U hU hW⟩⟩ rfl (by simp) hls (v_mapapp _ _) (lv_room (by rw [v_catsum]; exact hcat)) hd hc⟩
/-- behind the call -/
theorem v_ci {Post : Int32 → v_MM → Prop} (hr : v_Rn G l y cc nL rt Z cells slots pc st rest Z' (v_Qi G Post) M) (kk : ∀ (x : Int32) (M' : v_MM), Post x M' → v_V G l y cc nL rt Z Qc (cells + Z'.cells) (slots + Z'.slots) (pc + 3) lv (.int x :: rest) M') : v_V G l y cc nL rt Z Qc cells slots pc lv st M := by
  intro p e s m args below meth c H locs ls C P L
  obtain ⟨a', hr'⟩ := hr p e s m args below meth c H locs ls C P L.1.1
  exact va_calli hr' P.2.2.2 (fun q _ h => h) (fun q h => h) (fun x M' t H1 locs1 ht hvm hw hB hz hk hS => kk x M' hw p e s m args below meth c H1 locs1 ls C ⟨by rw [← ht]; exact hB.1, by rw [← ht]; exact hB.2.1, hB.2.2, hS⟩ L)
theorem v_cl {Post : Int64 → v_MM → Prop} (hr : v_Rn G l y cc nL rt Z cells slots pc st rest Z' (v_Ql G Post) M) (kk : ∀ (x : Int64) (M' : v_MM), Post x M' → v_V G l y cc nL rt Z Qc (cells + Z'.cells) (slots + Z'.slots) (pc + 3) lv (.long x :: rest) M') : v_V G l y cc nL rt Z Qc cells slots pc lv st M := by
  intro p e s m args below meth c H locs ls C P L
  obtain ⟨a', hr'⟩ := hr p e s m args below meth c H locs ls C P L.1.1
  exact va_calll hr' P.2.2.2 (fun q _ h => h) (fun q h => h) (fun x M' t H1 locs1 ht hvm hw hB hz hk hS => kk x M' hw p e s m args below meth c H1 locs1 ls C ⟨by rw [← ht]; exact hB.1, by rw [← ht]; exact hB.2.1, hB.2.2, hS⟩ L)
theorem v_cv {Post : v_MM → Prop} (hr : v_Rn G l y cc nL rt Z cells slots pc st rest Z' (v_Qv G Post) M) (kk : ∀ (M' : v_MM), Post M' → v_V G l y cc nL rt Z Qc (cells + Z'.cells) (slots + Z'.slots) (pc + 3) lv rest M') : v_V G l y cc nL rt Z Qc cells slots pc lv st M := by
  intro p e s m args below meth c H locs ls C P L
  obtain ⟨a', hr'⟩ := hr p e s m args below meth c H locs ls C P L.1.1
  exact va_callv hr' P.2.2.2 (fun q _ h => h) (fun q h => h) (fun M' t H1 locs1 ht hvm hw hB hz hk hS => kk M' hw p e s m args below meth c H1 locs1 ls C ⟨by rw [← ht]; exact hB.1, by rw [← ht]; exact hB.2.1, hB.2.2, hS⟩ L)
theorem v_cr {Post : Option Nat → v_MM → Prop} (hr : v_Rn G l y cc nL rt Z cells slots pc st rest Z' (v_Qr G Post) M) (kk : ∀ (r : Option Nat) (M' : v_MM), Post r M' → v_V G l y cc nL rt Z Qc (cells + Z'.cells) (slots + Z'.slots) (pc + 3) lv (va_rf r :: rest) M') : v_V G l y cc nL rt Z Qc cells slots pc lv st M := by
  intro p e s m args below meth c H locs ls C P L
  obtain ⟨a', hr'⟩ := hr p e s m args below meth c H locs ls C P L.1.1
  refine va_callq hr' P.2.2.2 (fun q _ h => h) (fun q h => h) (fun x u t H1 locs1 ht hvm hw hB hz hk hS => ?_)
  have k2 := kk u.1 u.2 hw.2 p e s m args below meth c H1 locs1 ls C ⟨by rw [← ht]; exact hB.1, by rw [← ht]; exact hB.2.1, hB.2.2, hS⟩ L
  rw [List.map_cons, v_tv_rf, ← hw.1] at k2
  exact k2
end VROWS3
end
section
/-! NEW CELLS, STATICS, TEXTS, KINDS, COPIES -/
def v_z {α : Type} (f : Nat → Nat → α) (h : Nat) (x : α) : Nat → Nat → α := fun a b => if a = h then x else f a b
theorem v_z_same {α : Type} {f : Nat → Nat → α} {h b : Nat} {x : α} : v_z f h x h b = x := by simp [v_z]
theorem v_z_h {α : Type} {f : Nat → Nat → α} {h a b : Nat} {x : α} (n : a ≠ h) : v_z f h x a b = f a b := by simp [v_z, n]
/-- one more handle, of a kind and a length -/
def v_k (K : Nat × v_TY) (k len : Nat) : Nat × v_TY := (K.1 + 1, va_up K.2 K.1 (k, len))
theorem v_is_old {K : Nat × v_TY} {h k n k' n' : Nat} (hi : v_is K h k n) : v_is (v_k K k' n') h k n := ⟨Nat.lt_succ_of_lt hi.1, by rw [← hi.2]; simp [v_k, va_up, Nat.ne_of_lt hi.1]⟩
theorem v_is_new {K : Nat × v_TY} {k n : Nat} : v_is (v_k K k n) K.1 k n := ⟨Nat.lt_succ_self _, by simp [v_k, va_up]⟩
section VROWS4
variable {G : v_G} {l : Launch} {y : MethodName} {cc : ByteArray} {nL : Nat} {rt : Option FieldType} {Z : Room} {Qc : Array Value → State → Outcome → State → Prop} {cells slots pc : Nat} {lv : List (Option Value)} {st : List Value} {M : v_MM}
variable {K : Nat × v_TY} {I : Nat → Nat → Int32} {J : Nat → Nat → Int64} {R : Nat → Nat → Option Nat} {h n : Nat}
theorem v_push {s : State} {H H1 : Heap} {locs : List Loc} {k len : Nat} {e : va_E} (P : v_Rp G (K, I, J, R) s H locs) (hn : K.1 + 1 ≤ 1000000) (he : v_cell G (v_k K k len) (v_z I K.1 0) (v_z J K.1 0) (v_z R K.1 none) K.1 = e) (hat : va_at G.1 vwCl (H.size, e) H1) (z : H1.size = H.size + 1) (oq : ∀ q : Nat, q < H.size → H1[q]? = H[q]?) : v_Rp G (v_k K k len, v_z I K.1 0, v_z J K.1 0, v_z R K.1 none) s H1 locs ∧ H.size = v_ad G K.1 := by
  obtain ⟨hP, hsz, hn0, hS⟩ := P
  have had : H.size = v_ad G K.1 := by rw [v_ad_lt (by omega)]; exact hsz
  have hk : ∀ (i : Nat) (x : Nat × va_E), (v_ws G (K, I, J, R))[i]? = some x → H1[x.1]? = H[x.1]? := fun i x hx => oq x.1 ((hP i x hx).lt)
  have hcell : ∀ i : Nat, i < K.1 → v_cell G (v_k K k len) (v_z I K.1 0) (v_z J K.1 0) (v_z R K.1 none) i = v_cell G K I J R i := by
    intro i hi
    have hne : i ≠ K.1 := Nat.ne_of_lt hi
    have e1 : v_z I K.1 0 i = I i := by funext b; simp [v_z, hne]
    have e2 : v_z J K.1 0 i = J i := by funext b; simp [v_z, hne]
    have e3 : v_z R K.1 none i = R i := by funext b; simp [v_z, hne]
    have e4 : (v_k K k len).2 i = K.2 i := by simp [v_k, va_up, hne]
    have e5 : ∀ ci, v_fs G (v_z I K.1 0) (v_z R K.1 none) i ci = v_fs G I R i ci := fun ci => by simp [v_fs, e1, e3]
    simp [v_cell, e1, e2, e3, e4, e5]
  have hws : v_ws G (v_k K k len, v_z I K.1 0, v_z J K.1 0, v_z R K.1 none) = v_ws G (K, I, J, R) ++ [(H.size, e)] := by
    unfold v_ws
    show (List.range (K.1 + 1)).map _ = _
    rw [List.range_succ, List.map_append, List.map_cons, List.map_nil, he, ← had]
    congr 1
    exact List.map_congr_left (fun i hi => by rw [hcell i (List.mem_range.mp hi)])
  refine ⟨⟨?_, by rw [z, hsz]; simp [v_k]; omega, hn, ⟨Nat.le_trans hS.1 (by omega), fun x h1 h2 => (oq x (Nat.lt_of_lt_of_le h1 hS.1)).trans (hS.2.1 x h1 h2), hS.2.2⟩⟩, had⟩
  rw [hws]
  refine (hP.kept hk).app (fun i x hx => ?_)
  have hz : i < 1 := (List.getElem?_eq_some_iff.mp hx).1
  rw [show i = 0 by omega] at hx
  cases hx
  exact hat
/-- a new object -/
def v_nw (own : String) (idx ci N : Nat) : Prop :=
  ∃ (C : String) (T : u_T) (ty0 : Nat → FieldType), vwCl[ci]? = some (C, T, N) ∧ (∀ w ∈ u_ws C T N, w ∈ wsG) ∧ (∀ j, j < N → parseFieldDescriptor (T j).2.2.1 = some (ty0 j)) ∧ Cond.classLink own idx C ∈ wsG ∧ Cond.instantiable C N ∈ wsG ∧ Cond.initialized C ∈ wsG ∧ (∀ j, j < N → defaultValue (ty0 j) = if (v_fl ci).getD j false = true then Value.null else Value.int 0) ∧ (v_fl ci).length = N ∧ ci < 13
theorem v_new {idx ci N : Nat} (hg : v_nw y.cls idx ci N) (hd : decode cc pc = .ok (.new idx, 3)) (hn : K.1 + 1 ≤ 1000000) (hcells : cells + 1 ≤ Z.cells) (hslots : slots + N ≤ Z.slots) (kk : v_V G l y cc nL rt Z Qc (cells + 1) (slots + N) (pc + 3) lv (.ref K.1 :: st) (v_k K ci 0, v_z I K.1 0, v_z J K.1 0, v_z R K.1 none)) : v_V G l y cc nL rt Z Qc cells slots pc lv st (K, I, J, R) := by
  intro p e s m args below meth c H locs ls C P L
  obtain ⟨C0, T, ty0, g1, g2, g3, g4, g5, g6, g7, g8, g9⟩ := hg
  have W0 := C.2.2.2.2.1
  have hKn := C.2.2.2.2.2.2.2.2.1.1 ci _ g1
  refine W.newcK C.1 C.2.1 C.2.2.2.1 (W0 _ g4) (W0 _ g5) (W0 _ g6) rfl hd hcells hslots hKn.2.1 rfl fun H1 kC hkC e1 z1 o1 => ?_
  have hfs : ∀ j, j < N → defaultValue (ty0 j) = vp_V (v_fs G (v_z I K.1 0) (v_z R K.1 none) K.1 ci) j := by
    intro j hj
    rw [g7 j hj]
    have hl : j < (v_fl ci).length := by omega
    have hb : (v_fl ci)[j]? = some (v_fl ci)[j] := List.getElem?_eq_getElem hl
    unfold vp_V
    rw [List.getD_eq_getElem?_getD, hb, List.getD_eq_getElem?_getD, v_fs_at hb]
    cases (v_fl ci)[j] <;> simp [v_z, va_rf]
  obtain ⟨P1, had⟩ := v_push (k := ci) (len := 0) P hn (v_cell_obj v_is_new g9) ⟨_, g1, (u_born ty0 W0 g2 hKn hkC e1 g3).to hfs⟩ z1 o1
  have k2 := kk p e s m args below meth c H1 locs ls C P1 L
  rw [List.map_cons, v_tv_ref, ← had] at k2
  exact k2
theorem v_newa_byte {x : Int32} {N : Nat} (hw : Cond.arrayClass .byte ∈ wsG) (hd : decode cc pc = .ok (.newarray .byte, 2)) (hx : ¬ x < 0) (hN : x.toNatClampNeg = N) (hb : N * componentBytes .byte ≤ 536870912) (hn : K.1 + 1 ≤ 1000000) (hcells : cells + 1 ≤ Z.cells) (hslots : slots + N ≤ Z.slots)
    (kk : v_V G l y cc nL rt Z Qc (cells + 1) (slots + N) (pc + 2) lv (.ref K.1 :: st) (v_k K 13 N, v_z I K.1 0, v_z J K.1 0, v_z R K.1 none)) : v_V G l y cc nL rt Z Qc cells slots pc lv (.int x :: st) (K, I, J, R) := by
  intro p e s m args below meth c H locs ls C P L
  refine va_newaK C.1 C.2.1 (atype := .byte) (C.2.2.2.2.1 _ hw) rfl hd rfl hx hN hb hcells hslots rfl fun H1 cA e1 z1 o1 hA hf => ?_
  have hcA : cA = G.2.1 13 := Option.some.inj (hf.symm.trans (C.2.2.2.2.2.2.2.2.1.2 0 _ rfl).2)
  obtain ⟨P1, had⟩ := v_push (k := 13) (len := N) P hn (v_cell_int v_is_new (by omega)) (by
    show H1[H.size]? = some (vp_cell _ _)
    rw [vp_cell_i, e1, hcA]
    congr 2
    funext j
    simp [v_z]
    try rfl) z1 o1
  have k2 := kk p e s m args below meth c H1 locs ls C P1 L
  rw [List.map_cons, v_tv_ref, ← had] at k2
  exact k2
theorem v_newa_int {x : Int32} {N : Nat} (hw : Cond.arrayClass .int ∈ wsG) (hd : decode cc pc = .ok (.newarray .int, 2)) (hx : ¬ x < 0) (hN : x.toNatClampNeg = N) (hb : N * componentBytes .int ≤ 536870912) (hn : K.1 + 1 ≤ 1000000) (hcells : cells + 1 ≤ Z.cells) (hslots : slots + N ≤ Z.slots)
    (kk : v_V G l y cc nL rt Z Qc (cells + 1) (slots + N) (pc + 2) lv (.ref K.1 :: st) (v_k K 14 N, v_z I K.1 0, v_z J K.1 0, v_z R K.1 none)) : v_V G l y cc nL rt Z Qc cells slots pc lv (.int x :: st) (K, I, J, R) := by
  intro p e s m args below meth c H locs ls C P L
  refine va_newaK C.1 C.2.1 (atype := .int) (C.2.2.2.2.1 _ hw) rfl hd rfl hx hN hb hcells hslots rfl fun H1 cA e1 z1 o1 hA hf => ?_
  have hcA : cA = G.2.1 14 := Option.some.inj (hf.symm.trans (C.2.2.2.2.2.2.2.2.1.2 1 _ rfl).2)
  obtain ⟨P1, had⟩ := v_push (k := 14) (len := N) P hn (v_cell_int v_is_new (by omega)) (by
    show H1[H.size]? = some (vp_cell _ _)
    rw [vp_cell_i, e1, hcA]
    congr 2
    funext j
    simp [v_z]
    try rfl) z1 o1
  have k2 := kk p e s m args below meth c H1 locs ls C P1 L
  rw [List.map_cons, v_tv_ref, ← had] at k2
  exact k2
theorem v_newa_long {x : Int32} {N : Nat} (hw : Cond.arrayClass .long ∈ wsG) (hd : decode cc pc = .ok (.newarray .long, 2)) (hx : ¬ x < 0) (hN : x.toNatClampNeg = N) (hb : N * componentBytes .long ≤ 536870912) (hn : K.1 + 1 ≤ 1000000) (hcells : cells + 1 ≤ Z.cells) (hslots : slots + N ≤ Z.slots)
    (kk : v_V G l y cc nL rt Z Qc (cells + 1) (slots + N) (pc + 2) lv (.ref K.1 :: st) (v_k K 15 N, v_z I K.1 0, v_z J K.1 0, v_z R K.1 none)) : v_V G l y cc nL rt Z Qc cells slots pc lv (.int x :: st) (K, I, J, R) := by
  intro p e s m args below meth c H locs ls C P L
  refine va_newaK C.1 C.2.1 (atype := .long) (C.2.2.2.2.1 _ hw) rfl hd rfl hx hN hb hcells hslots rfl fun H1 cA e1 z1 o1 hA hf => ?_
  have hcA : cA = G.2.1 15 := Option.some.inj (hf.symm.trans (C.2.2.2.2.2.2.2.2.1.2 2 _ rfl).2)
  obtain ⟨P1, had⟩ := v_push (k := 15) (len := N) P hn (v_cell_long v_is_new) (by
    show H1[H.size]? = some (vp_cell _ _)
    rw [vp_cell_l, e1, hcA]
    congr 2
    funext j
    simp [v_z]
    try rfl) z1 o1
  have k2 := kk p e s m args below meth c H1 locs ls C P1 L
  rw [List.map_cons, v_tv_ref, ← had] at k2
  exact k2
theorem v_newa_boolean {x : Int32} {N : Nat} (hw : Cond.arrayClass .boolean ∈ wsG) (hd : decode cc pc = .ok (.newarray .boolean, 2)) (hx : ¬ x < 0) (hN : x.toNatClampNeg = N) (hb : N * componentBytes .boolean ≤ 536870912) (hn : K.1 + 1 ≤ 1000000) (hcells : cells + 1 ≤ Z.cells) (hslots : slots + N ≤ Z.slots)
    (kk : v_V G l y cc nL rt Z Qc (cells + 1) (slots + N) (pc + 2) lv (.ref K.1 :: st) (v_k K 16 N, v_z I K.1 0, v_z J K.1 0, v_z R K.1 none)) : v_V G l y cc nL rt Z Qc cells slots pc lv (.int x :: st) (K, I, J, R) := by
  intro p e s m args below meth c H locs ls C P L
  refine va_newaK C.1 C.2.1 (atype := .boolean) (C.2.2.2.2.1 _ hw) rfl hd rfl hx hN hb hcells hslots rfl fun H1 cA e1 z1 o1 hA hf => ?_
  have hcA : cA = G.2.1 16 := Option.some.inj (hf.symm.trans (C.2.2.2.2.2.2.2.2.1.2 3 _ rfl).2)
  obtain ⟨P1, had⟩ := v_push (k := 16) (len := N) P hn (v_cell_int v_is_new (by omega)) (by
    show H1[H.size]? = some (vp_cell _ _)
    rw [vp_cell_i, e1, hcA]
    congr 2
    funext j
    simp [v_z]
    try rfl) z1 o1
  have k2 := kk p e s m args below meth c H1 locs ls C P1 L
  rw [List.map_cons, v_tv_ref, ← had] at k2
  exact k2
theorem v_newq {idx k : Nat} {E : String} {x : Int32} {N : Nat} (hk : k = 17 ∧ E = "OneFriend$Person" ∨ k = 18 ∧ E = "OneFriend$Tape") (hw : Cond.classLink y.cls idx E ∈ wsG) (hw2 : Cond.arrayOver (.object E) ∈ wsN) (hd : decode cc pc = .ok (.anewarray idx, 3)) (hx : ¬ x < 0) (hN : x.toNatClampNeg = N) (hb : N * 4 ≤ 536870912) (hn : K.1 + 1 ≤ 1000000) (hcells : cells + 1 ≤ Z.cells) (hslots : slots + N ≤ Z.slots)
    (kk : v_V G l y cc nL rt Z Qc (cells + 1) (slots + N) (pc + 3) lv (.ref K.1 :: st) (v_k K k N, v_z I K.1 0, v_z J K.1 0, v_z R K.1 none)) : v_V G l y cc nL rt Z Qc cells slots pc lv (.int x :: st) (K, I, J, R) := by
  intro p e s m args below meth c H locs ls C P L
  subst hN
  refine W.anew C.1 C.2.1 C.2.2.2.1 (C.2.2.2.2.1 _ hw) (va_AO.use (A := args) (C.2.2.2.2.2.2.2.2.2.1.1 _ hw2)) rfl hd rfl hx hb hcells hslots fun cA kA comp f1 f2 f3 f4 => ?_
  generalize hH1 : H.push ({ cls := cA, slots := Array.replicate x.toNatClampNeg .null, vm := .none } : Cell) = H1
  have z1 : H1.size = H.size + 1 := by rw [← hH1, Array.size_push]
  have e1 : H1[H.size]? = some (arrV cA x.toNatClampNeg (fun _ => .null)) := by rw [← hH1, Array.getElem?_push_size, ← arrV_new]
  have o1 : ∀ q : Nat, q < H.size → H1[q]? = H[q]? := fun q hq => by rw [← hH1, Array.getElem?_push, if_neg (Nat.ne_of_lt hq)]
  have hk2 : k = 17 ∨ k = 18 := by rcases hk with ⟨h, -⟩ | ⟨h, -⟩ <;> simp [h]
  have hA : cA = G.2.1 k := by
    rcases hk with ⟨rfl, rfl⟩ | ⟨rfl, rfl⟩
    · obtain ⟨_, _, -, -, -, q4⟩ := (C.2.2.2.2.2.2.2.2.1.2 4 _ rfl).2
      exact Option.some.inj (f1.symm.trans q4)
    · obtain ⟨_, _, -, -, -, q4⟩ := (C.2.2.2.2.2.2.2.2.1.2 5 _ rfl).2
      exact Option.some.inj (f1.symm.trans q4)
  obtain ⟨P1, had⟩ := v_push (k := k) (len := x.toNatClampNeg) P hn (v_cell_ref v_is_new hk2) (by
    show H1[H.size]? = some (vp_cell _ _)
    rw [vp_cell_q, e1, hA]
    congr 2
    funext j
    simp [v_z, va_rf]) z1 o1
  have k2 := kk p e s m args below meth c H1 locs ls C P1 L
  rw [List.map_cons, v_tv_ref, ← had] at k2
  exact k2
/-- a handle (of a class under the array's) into an array of handles -/
theorem v_aastore {i : Int32} {k t0 ci nv v : Nat} {q : vw_C} {E : String} (hd : decode cc pc = .ok (.aastore, 1)) (hi : v_is K h k n) (hk : k = 17 ∨ k = 18) (ht : (v_ty G)[t0]? = some (G.2.1 k, .object E)) (hin : vp_in i n) (hv : v_is K v ci nv) (hci : ci < 13) (hq : vwCl[ci]? = some q) (hca : q.1 = E ∨ Cond.castable q.1 E ∈ wsN)
    (kk : v_V G l y cc nL rt Z Qc cells slots (pc + 1) lv st (K, I, J, v_u R h i.toNatClampNeg (some v))) : v_V G l y cc nL rt Z Qc cells slots pc lv (.ref v :: .int i :: .ref h :: st) (K, I, J, R) := by
  intro p e s m args below meth c H locs ls C P L
  have hK := C.2.2.2.2.2.2.2.2.1
  have hlt : i.toNatClampNeg < n := Nat.not_le.mp fun q => hin (Or.inr q)
  have h0 : ¬ i < 0 := fun q => hin (Or.inl q)
  obtain ⟨r', hr', cellV, g1, g2, g3, -⟩ := P.1 v _ (v_at_obj hv hci)
  have hcls := (hK.1 ci q hq).2
  obtain ⟨kA, comp, k1, k2, k3, -⟩ := (hK.2 t0 _ ht).2
  obtain ⟨kE, hkE, -⟩ := Vm.findClass_spec k3
  obtain ⟨kC, hkC, -⟩ := hcls.2
  have hasg : s.vm.assignable (G.1.1 ci) comp = true := by
    rcases hca with hca | hca
    · have e1 : G.1.1 ci = comp := by
        have := hcls.1
        rw [hca] at this
        exact Option.some.inj (this.symm.trans k3)
      rw [e1]; exact va_asg _ _
    · obtain ⟨c0, t1, f1, f2, f3⟩ := Cond.castable_spec (va_Nw.use (A := args) rfl (C.2.2.2.2.2.2.2.2.2.1.1 _ hca))
      cases hcls.1.symm.trans f1
      cases k3.symm.trans f2
      exact f3
  refine W.aast C.1 C.2.1 (P.1 h _ (v_at_ref hi hk)) (fun q h => by cases h) (fun h => by cases h) k1 k2 rfl hkE ⟨h0, by show _ < (arrV _ _ _).slots.size; rw [arrV_size]; exact hlt⟩ g1 (fun q h => by rw [g3] at h; cases h) (by rw [g2]; exact hkC) (by rw [g2]; exact hasg) rfl rfl hd fun H1 e1 z oq => ?_
  refine kk p e s m args below meth c H1 _ ls C (v_wr P hi.1 ?_ v_cell_neR z oq (fun q hq => by rw [List.mem_singleton.mp hq])) L
  rw [v_cell_ref hi hk]
  show H1[v_ad G h]? = some (vp_cell _ _)
  rw [e1, vp_cell_q, vp_cell_q, arrV_store]
  congr 2
  funext j
  by_cases hj : j = i.toNatClampNeg
  · subst hj; simp [updV, v_u, va_rf]
  · simp [updV, v_u, hj]
/-- constants -/
theorem v_ldc {idx : Nat} {v : Int32} (hw : Cond.constant y.cls idx v ∈ wsG) (hd : decode cc pc = .ok (.ldc idx, 2)) (kk : v_V G l y cc nL rt Z Qc cells slots (pc + 2) lv (.int v :: st) M) : v_V G l y cc nL rt Z Qc cells slots pc lv st M :=
  fun p e s m args below meth c H locs ls C P L => W.ldc C.1 C.2.1 C.2.2.2.1 (C.2.2.2.2.1 _ hw) rfl hd (kk p e s m args below meth c H locs ls C P L)
theorem v_ldcw {idx : Nat} {v : Int32} (hw : Cond.constant y.cls idx v ∈ wsG) (hd : decode cc pc = .ok (.ldc_w idx, 3)) (kk : v_V G l y cc nL rt Z Qc cells slots (pc + 3) lv (.int v :: st) M) : v_V G l y cc nL rt Z Qc cells slots pc lv st M :=
  fun p e s m args below meth c H locs ls C P L => lv_ldcw C.1 C.2.1 C.2.2.2.1 (C.2.2.2.2.1 _ hw) hd (kk p e s m args below meth c H locs ls C P L)
theorem v_ldc2 {idx : Nat} {v : Int64} (hw : Cond.constantLong y.cls idx v ∈ wsG) (hd : decode cc pc = .ok (.ldc2_w idx, 3)) (kk : v_V G l y cc nL rt Z Qc cells slots (pc + 3) lv (.long v :: st) M) : v_V G l y cc nL rt Z Qc cells slots pc lv st M :=
  fun p e s m args below meth c H locs ls C P L => W.ldc2 C.1 C.2.1 C.2.2.2.1 (C.2.2.2.2.1 _ hw) rfl hd (kk p e s m args below meth c H locs ls C P L)
theorem v_ad_x {i : Nat} : v_ad G (1000000 + i) = G.2.2.2 i := by
  unfold v_ad
  rw [if_neg (by omega), show 1000000 + i - 1000000 = i by omega]
theorem v_ldcS {idx i : Nat} {tx : String} (hw : (y.cls, idx, tx, i) ∈ v_trf) (hd : decode cc pc = .ok (.ldc idx, 2)) (kk : v_V G l y cc nL rt Z Qc cells slots (pc + 2) lv (.ref (1000000 + (10 + i)) :: st) M) : v_V G l y cc nL rt Z Qc cells slots pc lv st M := by
  intro p e s m args below meth c H locs ls C P L
  refine va_ldcS C.1 C.2.1 C.2.2.2.1 (C.2.2.2.2.2.2.2.2.2.1.2.2.2.2.2.2 _ hw) hd ?_
  have k2 := kk p e s m args below meth c H locs ls C P L
  rw [List.map_cons, v_tv_ref, v_ad_x] at k2
  exact k2
theorem v_aconst_null (hd : decode cc pc = .ok (.aconst_null, 1)) (kk : v_V G l y cc nL rt Z Qc cells slots (pc + 1) lv (.null :: st) M) : v_V G l y cc nL rt Z Qc cells slots pc lv st M :=
  fun p e s m args below meth c H locs ls C P L => lv_null C.1 C.2.1 hd (kk p e s m args below meth c H locs ls C P L)
theorem v_ifnull0 {off : Int} {tgt : Nat} (hd : decode cc pc = .ok (.ifnull off, 3)) (ht : (pc : Int) + off = (tgt : Int)) (kk : v_V G l y cc nL rt Z Qc cells slots tgt lv st M) : v_V G l y cc nL rt Z Qc cells slots pc lv (.null :: st) M :=
  fun p e s m args below meth c H locs ls C P L => lv_ifnullN C.1 C.2.1 hd ht (kk p e s m args below meth c H locs ls C P L)
theorem v_ifnonnull0 {off : Int} (hd : decode cc pc = .ok (.ifnonnull off, 3)) (kk : v_V G l y cc nL rt Z Qc cells slots (pc + 3) lv st M) : v_V G l y cc nL rt Z Qc cells slots pc lv (.null :: st) M :=
  fun p e s m args below meth c H locs ls C P L => lv_ifnonnullN C.1 C.2.1 hd (kk p e s m args below meth c H locs ls C P L)
theorem v_aload_nN {n : Fin 4} {i : Nat} (hd : decode cc pc = .ok (.aload_n n, 1)) (hi : (n : Nat) = i) (hl : lv[i]? = some (some .null)) (k : v_V G l y cc nL rt Z Qc cells slots (pc + 1) lv (.null :: st) M) : v_V G l y cc nL rt Z Qc cells slots pc lv st M :=
  fun p e s m args below meth c H locs ls C P L => lv_aload_nN C.1 C.2.1 hd hi (v_L_at L hl) (k p e s m args below meth c H locs ls C P L)
theorem v_aloadN {i : Nat} (hd : decode cc pc = .ok (.aload i, 2)) (hl : lv[i]? = some (some .null)) (k : v_V G l y cc nL rt Z Qc cells slots (pc + 2) lv (.null :: st) M) : v_V G l y cc nL rt Z Qc cells slots pc lv st M :=
  fun p e s m args below meth c H locs ls C P L => lv_aloadN C.1 C.2.1 hd (v_L_at L hl) (k p e s m args below meth c H locs ls C P L)
theorem v_astore_nN {n : Fin 4} {i : Nat} (hd : decode cc pc = .ok (.astore_n n, 1)) (hi : (n : Nat) = i) (hn : i < nL) (hc : v_c1 lv i = true) (k : v_V G l y cc nL rt Z Qc cells slots (pc + 1) (lv.set i (some .null)) st M) : v_V G l y cc nL rt Z Qc cells slots pc lv (.null :: st) M :=
  fun p e s m args below meth c H locs ls C P L => lv_astore_nN C.1 C.2.1 hd hi L.1 hn rfl (fun ls2 h2 => k p e s m args below meth c H locs ls2 C P (v_L_set1 (v := .null) L hc h2))
theorem v_astoreN {i : Nat} (hd : decode cc pc = .ok (.astore i, 2)) (hn : i < nL) (hc : v_c1 lv i = true) (k : v_V G l y cc nL rt Z Qc cells slots (pc + 2) (lv.set i (some .null)) st M) : v_V G l y cc nL rt Z Qc cells slots pc lv (.null :: st) M :=
  fun p e s m args below meth c H locs ls C P L => lv_astoreN C.1 C.2.1 hd L.1 hn rfl (fun ls2 h2 => k p e s m args below meth c H locs ls2 C P (v_L_set1 (v := .null) L hc h2))
end VROWS4
end
section
/-! STATICS, TEXTS, KINDS, COPIES -/
section VROWS5
variable {G : v_G} {l : Launch} {y : MethodName} {cc : ByteArray} {nL : Nat} {rt : Option FieldType} {Z : Room} {Qc : Array Value → State → Outcome → State → Prop} {cells slots pc : Nat} {lv : List (Option Value)} {st : List Value} {M : v_MM}
variable {K : Nat × v_TY} {I : Nat → Nat → Int32} {J : Nat → Nat → Int64} {R : Nat → Nat → Option Nat} {h n : Nat}
/-- LESSER and GREATER: their array, by the class itself or by one inside it -/
theorem v_gets {idx i : Nat} {nm : String} (hi : i = 0 ∧ nm = "LESSER" ∨ i = 1 ∧ nm = "GREATER") (hw : Cond.fieldLink y.cls idx "OneFriend" nm "[I" ∈ wsG ∨ Cond.fieldLinkNest y.cls idx "OneFriend" nm "[I" "OneFriend" ∈ wsN) (hd : decode cc pc = .ok (.getstatic idx, 3)) (kk : v_V G l y cc nL rt Z Qc cells slots (pc + 3) lv (.ref (1000000 + i) :: st) M) : v_V G l y cc nL rt Z Qc cells slots pc lv st M := by
  intro p e s m args below meth c H locs ls C P L
  have k2 := kk p e s m args below meth c H locs ls C P L
  rw [List.map_cons, v_tv_ref, v_ad_x] at k2
  have hX := C.2.2.2.2.2.2.2.2.2.1
  rcases hi with ⟨rfl, rfl⟩ | ⟨rfl, rfl⟩ <;> rcases hw with hw | hw
  · exact va_gets C.1 C.2.1 hX.2.2.1.1 P.2.2.2 C.2.2.2.1 (C.2.2.2.2.1 _ hw) (fun _ h => h) hd k2
  · exact va_getsN C.1 C.2.1 hX.2.2.1.1 P.2.2.2 C.2.2.2.1 (va_Nw.use (A := args) rfl (hX.1 _ hw)) (fun _ h => h) hd k2
  · exact va_gets C.1 C.2.1 hX.2.2.2.1.1 P.2.2.2 C.2.2.2.1 (C.2.2.2.2.1 _ hw) (fun _ h => h) hd k2
  · exact va_getsN C.1 C.2.1 hX.2.2.2.1.1 P.2.2.2 C.2.2.2.1 (va_Nw.use (A := args) rfl (hX.1 _ hw)) (fun _ h => h) hd k2
theorem v_stld0 {i x : Int32} (hin : vp_in i 15) (hx : v_les i.toNatClampNeg = .int x) (hd : decode cc pc = .ok (.iaload, 1)) (kk : v_V G l y cc nL rt Z Qc cells slots (pc + 1) lv (.int x :: st) M) : v_V G l y cc nL rt Z Qc cells slots pc lv (.int i :: .ref (1000000 + 0) :: st) M := by
  intro p e s m args below meth c H locs ls C P L
  rw [List.map_cons, List.map_cons, v_tv_ref, v_ad_x]
  exact va_ti C.1 C.2.1 C.2.2.2.2.2.2.2.2.2.1.2.2.1.2 P.2.2.2 hin hx hd (kk p e s m args below meth c H locs ls C P L)
theorem v_stld1 {i x : Int32} (hin : vp_in i 15) (hx : v_gre i.toNatClampNeg = .int x) (hd : decode cc pc = .ok (.iaload, 1)) (kk : v_V G l y cc nL rt Z Qc cells slots (pc + 1) lv (.int x :: st) M) : v_V G l y cc nL rt Z Qc cells slots pc lv (.int i :: .ref (1000000 + 1) :: st) M := by
  intro p e s m args below meth c H locs ls C P L
  rw [List.map_cons, List.map_cons, v_tv_ref, v_ad_x]
  exact va_ti C.1 C.2.1 C.2.2.2.2.2.2.2.2.2.1.2.2.2.1.2 P.2.2.2 hin hx hd (kk p e s m args below meth c H locs ls C P L)
theorem v_getsC {idx : Nat} (hw : Cond.fieldLink y.cls idx "java/lang/String" "COMPACT_STRINGS" "Z" ∈ wsG) (hd : decode cc pc = .ok (.getstatic idx, 3)) (kk : v_V G l y cc nL rt Z Qc cells slots (pc + 3) lv (.int 1 :: st) M) : v_V G l y cc nL rt Z Qc cells slots pc lv st M :=
  fun p e s m args below meth c H locs ls C P L => va_gets C.1 C.2.1 C.2.2.2.2.2.2.2.2.2.1.2.2.2.2.1.1 P.2.2.2 C.2.2.2.1 (C.2.2.2.2.1 _ hw) (fun _ h => h) hd (kk p e s m args below meth c H locs ls C P L)
theorem v_getsQ {idx : Nat} (hw : Cond.fieldLink y.cls idx "jdk/internal/util/Preconditions" "SIOOBE_FORMATTER" "Ljava/util/function/BiFunction;" ∈ wsG) (hd : decode cc pc = .ok (.getstatic idx, 3)) (kk : ∀ r : Option Nat, v_V G l y cc nL rt Z Qc cells slots (pc + 3) lv (va_rf r :: st) M) : v_V G l y cc nL rt Z Qc cells slots pc lv st M := by
  intro p e s m args below meth c H locs ls C P L
  rcases C.2.2.2.2.2.2.2.2.2.1.2.2.2.2.1.2 with hz | hz
  · exact va_gets C.1 C.2.1 hz P.2.2.2 C.2.2.2.1 (C.2.2.2.2.1 _ hw) (fun _ h => h) hd (kk none p e s m args below meth c H locs ls C P L)
  · have k2 := kk (some (1000000 + 2)) p e s m args below meth c H locs ls C P L
    rw [List.map_cons, show va_rf (some (1000000 + 2)) = .ref (1000000 + 2) from rfl, v_tv_ref, v_ad_x] at k2
    exact va_gets C.1 C.2.1 hz P.2.2.2 C.2.2.2.1 (C.2.2.2.2.1 _ hw) (fun _ h => h) hd k2
/-- a text's own fields, its bytes -/
theorem v_txV {idx i : Nat} (hi : i < 7) (hw : Cond.fieldLink y.cls idx "java/lang/String" "value" "[B" ∈ wsG) (hd : decode cc pc = .ok (.getfield idx, 3)) (kk : v_V G l y cc nL rt Z Qc cells slots (pc + 3) lv (.ref (1000000 + (20 + i)) :: st) M) : v_V G l y cc nL rt Z Qc cells slots pc lv (.ref (1000000 + (10 + i)) :: st) M := by
  intro p e s m args below meth c H locs ls C P L
  have k2 := kk p e s m args below meth c H locs ls C P L
  rw [List.map_cons, v_tv_ref, v_ad_x] at k2 ⊢
  exact vk_getf C.1 C.2.1 ((C.2.2.2.2.2.2.2.2.2.1.2.2.2.2.2.1).1 i hi).2.2.1 P.2.2.2 C.2.2.2.1 (C.2.2.2.2.1 _ hw) (fun _ h => h) hd k2
theorem v_txC {idx i : Nat} (hi : i < 7) (hw : Cond.fieldLink y.cls idx "java/lang/String" "coder" "B" ∈ wsG) (hd : decode cc pc = .ok (.getfield idx, 3)) (kk : v_V G l y cc nL rt Z Qc cells slots (pc + 3) lv (.int 0 :: st) M) : v_V G l y cc nL rt Z Qc cells slots pc lv (.ref (1000000 + (10 + i)) :: st) M := by
  intro p e s m args below meth c H locs ls C P L
  have k2 := kk p e s m args below meth c H locs ls C P L
  rw [List.map_cons, v_tv_ref, v_ad_x]
  exact vk_getf C.1 C.2.1 ((C.2.2.2.2.2.2.2.2.2.1.2.2.2.2.2.1).1 i hi).2.1 P.2.2.2 C.2.2.2.1 (C.2.2.2.2.1 _ hw) (fun _ h => h) hd k2
theorem v_txL {i : Nat} (hi : i < 7) (hd : decode cc pc = .ok (.arraylength, 1)) (kk : v_V G l y cc nL rt Z Qc cells slots (pc + 1) lv (.int (Int32.ofNat (v_tln.getD i 0)) :: st) M) : v_V G l y cc nL rt Z Qc cells slots pc lv (.ref (1000000 + (20 + i)) :: st) M := by
  intro p e s m args below meth c H locs ls C P L
  have k2 := kk p e s m args below meth c H locs ls C P L
  rw [List.map_cons, v_tv_ref, v_ad_x]
  exact va_tlen C.1 C.2.1 ((C.2.2.2.2.2.2.2.2.2.1.2.2.2.2.2.1).1 i hi).2.2.2 P.2.2.2 rfl hd k2
theorem v_txB {i : Nat} {j : Int32} (hi : i < 7) (hin : vp_in j (v_tln.getD i 0)) (hd : decode cc pc = .ok (.baload, 1)) (kk : v_V G l y cc nL rt Z Qc cells slots (pc + 1) lv (.int ((v_tby.getD i []).getD j.toNatClampNeg 0) :: st) M) : v_V G l y cc nL rt Z Qc cells slots pc lv (.int j :: .ref (1000000 + (20 + i)) :: st) M := by
  intro p e s m args below meth c H locs ls C P L
  have k2 := kk p e s m args below meth c H locs ls C P L
  rw [List.map_cons, List.map_cons, v_tv_ref, v_ad_x]
  exact va_tb C.1 C.2.1 ((C.2.2.2.2.2.2.2.2.2.1.2.2.2.2.2.1).1 i hi).2.2.2 P.2.2.2 hin rfl hd k2
/-- instanceof, of a handle -/
theorem v_instY {idx ci : Nat} {q : vw_C} {nm : String} (hi : v_is K h ci n) (hk : ci < 13) (hq : vwCl[ci]? = some q) (hw : Cond.classLink y.cls idx nm ∈ wsG) (hc : q.1 = nm ∨ Cond.castable q.1 nm ∈ wsN) (hd : decode cc pc = .ok (.instanceof idx, 3)) (kk : v_V G l y cc nL rt Z Qc cells slots (pc + 3) lv (.int 1 :: st) (K, I, J, R)) : v_V G l y cc nL rt Z Qc cells slots pc lv (.ref h :: st) (K, I, J, R) := by
  intro p e s m args below meth c H locs ls C P L
  have hr := v_rcO hi hq hk s H locs C.2.2.2.2.2.2.2.2.1 C.2.2.2.2.2.2.2.2.2.1 P
  rcases hc with hc | hc
  · subst hc
    exact va_instS C.1 C.2.1 C.2.2.2.1 (C.2.2.2.2.1 _ hw) (C.2.2.2.2.2.2.2.2.1.1 ci q hq).2 hr hd (kk p e s m args below meth c H locs ls C P L)
  · exact va_instY C.1 C.2.1 C.2.2.2.1 (C.2.2.2.2.1 _ hw) (C.2.2.2.2.2.2.2.2.2.1.1 _ hc) hr hd (kk p e s m args below meth c H locs ls C P L)
theorem v_instN {idx ci : Nat} {q : vw_C} {nm : String} (hi : v_is K h ci n) (hk : ci < 13) (hq : vwCl[ci]? = some q) (hw : Cond.classLink y.cls idx nm ∈ wsG) (hc : (q.1, nm) ∈ v_nc) (hd : decode cc pc = .ok (.instanceof idx, 3)) (kk : v_V G l y cc nL rt Z Qc cells slots (pc + 3) lv (.int 0 :: st) (K, I, J, R)) : v_V G l y cc nL rt Z Qc cells slots pc lv (.ref h :: st) (K, I, J, R) := by
  intro p e s m args below meth c H locs ls C P L
  exact va_instNo C.1 C.2.1 C.2.2.2.1 (C.2.2.2.2.1 _ hw) (C.2.2.2.2.2.2.2.2.2.1.2.1 _ hc) (v_rcO hi hq hk s H locs C.2.2.2.2.2.2.2.2.1 C.2.2.2.2.2.2.2.2.2.1 P) hd (kk p e s m args below meth c H locs ls C P L)
/-- Object's own constructor -/
theorem v_objInit {idx : Nat} (hw : Cond.methodLink y.cls idx Lib.objectInit ∈ wsG) (hw2 : Cond.instanceMethod Lib.objectInit ∈ wsG) (hw3 : Cond.code Lib.objectInit ⟨#[0xb1]⟩ 1 none ∈ wsG) (hd : decode cc pc = .ok (.invokespecial idx, 3)) (hf : 1 ≤ Z.frames) (hz : (st.map fun v => v.category).sum + 12 ≤ Z.locals) (kk : v_V G l y cc nL rt Z Qc cells slots (pc + 3) lv st M) : v_V G l y cc nL rt Z Qc cells slots pc lv (.ref h :: st) M := by
  intro p e s m args below meth c H locs ls C P L
  have T := C.2.2.2.2.1
  exact W.objInit C.1 C.2.1 C.2.2.2.1 (T _ hw) (T _ hw2) (T _ hw3) rfl (by rw [C.2.2.1]; exact L.1.1) rfl hd hf (by rw [v_catsum]; show 2 * 0 + _ + 12 ≤ _; omega) (kk p e s m args below meth c H locs ls C P L)
end VROWS5
end
section
/-! SYSTEM.ARRAYCOPY -/
def v_cp {α : Type} (f : Nat → Nat → α) (h0 h1 sp dp n : Nat) : Nat → Nat → α := fun a b => if a = h1 then va_cpy (f h0) (f h1) sp dp n b else f a b
theorem v_nn {z : Int32} (hz : ¬ z < 0) : z.toInt = (z.toNatClampNeg : Int) := by
  have hz0 : (0 : Int) ≤ z.toInt := by
    have := Int32.not_lt.mp hz
    simpa using Int32.le_iff_toInt_le.mp this
  show z.toInt = ((z.toInt.toNat : Nat) : Int)
  omega
section VROWS6
variable {G : v_G} {l : Launch} {y : MethodName} {cc : ByteArray} {nL : Nat} {rt : Option FieldType} {Z : Room} {Qc : Array Value → State → Outcome → State → Prop} {cells slots pc : Nat} {lv : List (Option Value)} {st : List Value} {M : v_MM}
variable {K : Nat × v_TY} {I : Nat → Nat → Int32} {J : Nat → Nat → Int64} {R : Nat → Nat → Option Nat} {h n : Nat}
/-- what a call of arraycopy asks of the tables -/
def v_cA (own : String) (idx : Nat) : Prop := Cond.methodLink own idx arraycopyName ∈ wsG ∧ Cond.native arraycopyName ∈ wsG ∧ Cond.static arraycopyName ∈ wsG ∧ Cond.initialized "java/lang/System" ∈ wsG
/-- the copy's cells, over the machine -/
theorem v_copyW {p : Program} {e : Env} {s : State} {m : MethodId} {args : Array Value} {below : List Frame} {meth : Method} {c : Code} {H : Heap} {locs : List Loc} {ls : Array Slot} {Q : State → Prop} {rest : List Value} {α : Type} (mk : α → Value) {idx h0 h1 : Nat} {cA : ClassId} {ty : FieldType} {n0 n1 : Nat} {f g : Nat → α} {sp dp k : Int32}
    (C : v_C G l y cc nL rt p s m args meth c) (hls : ls.size = nL) (hw : v_cA y.cls idx) (hd : decode cc pc = .ok (.invokestatic idx, 3)) (c0 : H[v_ad G h0]? = some (arrV cA n0 (fun j => mk (f j)))) (c1 : H[v_ad G h1]? = some (arrV cA n1 (fun j => mk (g j)))) (hA : ArrOfT s cA ty)
    (a1 : ¬ sp < 0) (a2 : ¬ dp < 0) (a3 : ¬ k < 0) (a4 : sp.toNatClampNeg + k.toNatClampNeg ≤ n0) (a5 : dp.toNatClampNeg + k.toNatClampNeg ≤ n1) (hf : 1 ≤ Z.frames) (hz : (rest.map fun v => v.category).sum + (nativeFrameWords "java/lang/System" "arraycopy" 5 + 11) ≤ Z.locals)
    (hel : ∀ i : Nat, i < k.toNatClampNeg → (fits ty (mk (f (sp.toNatClampNeg + i))) = true ∧ ∀ q, mk (f (sp.toNatClampNeg + i)) ≠ .ref q) ∨ ∃ (q : Nat) (E : String), mk (f (sp.toNatClampNeg + i)) = .ref q ∧ ty = .object E ∧ va_Any E s H q ∧ va_RA s cA (.object E))
    (kk : ∀ (H1 : Heap) (L : List Loc), H1[v_ad G h1]? = some (arrV cA n1 (fun j => mk (va_cpy f g sp.toNatClampNeg dp.toNatClampNeg k.toNatClampNeg j))) → H1.size = H.size → (∀ q : Nat, q ≠ v_ad G h1 → H1[q]? = H[q]?) → (∀ q ∈ L, q.base = v_ad G h1) → W p l e Z s m args below meth c H1 (locs ++ L) cells slots Q (F0 m (pc + 3) ls rest)) :
    W p l e Z s m args below meth c H locs cells slots Q (F0 m pc ls (.int k :: .int dp :: .ref (v_ad G h1) :: .int sp :: .ref (v_ad G h0) :: rest)) := by
  intro T hT X
  have W0 := C.2.2.2.2.1
  obtain ⟨-, k1, hk1, cm1, hkk1⟩ := hA n1 (fun j => mk (g j))
  obtain ⟨vm', X', step⟩ := X.arraycopy C.1 C.2.2.2.1 (W0 _ hw.1) (W0 _ hw.2.1) (W0 _ hw.2.2.1) (W0 _ hw.2.2.2) (src := v_ad G h0) (dst := v_ad G h1) (cs := arrV cA n0 (fun j => mk (f j))) (cd := arrV cA n1 (fun j => mk (g j))) (srcPos := sp) (destPos := dp) (n := k) (by rw [hT]; exact c0) (by rw [hT]; exact c1)
    (fun _ h => by cases h) (fun _ h => by cases h) (fun h => by cases h) (fun h => by cases h) hk1 hk1 hkk1 hkk1 (by cases ty <;> simp [refKind]) a1 a2 a3
    (by rw [v_nn a1, v_nn a3, arrV_size]; omega)
    (by rw [v_nn a2, v_nn a3, arrV_size]; omega)
    (fun vm₁ hal i hi => by
      have e1 : (arrV cA n0 (fun j => mk (f j))).slots.getD (sp.toNatClampNeg + i) .null = mk (f (sp.toNatClampNeg + i)) := by
        rw [Array.getD_eq_getD_getElem?, arrV_read _ _ (by omega)]
        rfl
      rw [e1]
      rcases hel i hi with ⟨q1, q2⟩ | ⟨q, E, q1, q2, q3, q4⟩
      · refine ⟨q1, ?_⟩
        cases hv : mk (f (sp.toNatClampNeg + i)) with
        | ref q => exact absurd hv (q2 q)
        | _ => exact trivial
      · subst q2
        rw [q1]
        obtain ⟨cellV, g1, g2, ⟨kC, hkC⟩, hasg⟩ := q3
        obtain ⟨kA, comp, r1, r2, r3, -⟩ := q4
        cases hk1.symm.trans r1
        cases hkk1.symm.trans r2
        obtain ⟨kE, hkE, -⟩ := Vm.findClass_spec r3
        obtain ⟨kC', hkC', -⟩ := hal.2.2 _ _ hkC
        obtain ⟨kE', hkE', -⟩ := hal.2.2 _ _ hkE
        refine ⟨rfl, cellV, (show T.heap[q]? = some cellV by rw [hT]; exact g1), (fun q h => by rw [h] at g2; cases g2), ⟨kC', hkC'⟩, ⟨kE', hkE'⟩, ?_⟩
        show vm₁.assignable _ _ = true
        rw [hal.assignable]
        exact hasg _ r3)
    (g := F0 m pc ls (.int k :: .int dp :: .ref (v_ad G h1) :: .int sp :: .ref (v_ad G h0) :: rest)) rfl (by rw [C.2.2.1, ← hls]) (rest := rest) rfl (by rw [C.2.1]; exact hd) hf (by show 2 * 0 + _ + _ ≤ _; omega)
  have e1 : copied (arrV cA n0 (fun j => mk (f j))) (arrV cA n1 (fun j => mk (g j))) sp dp k = arrV cA n1 (fun j => mk (va_cpy f g sp.toNatClampNeg dp.toNatClampNeg k.toNatClampNeg j)) := va_copied mk cA cA f g a4
  rw [e1] at X' step
  have hl : v_ad G h1 < H.size := (Array.getElem?_eq_some_iff.mp c1).1
  generalize hD : arrV cA n1 (fun j => mk (va_cpy f g sp.toNatClampNeg dp.toNatClampNeg k.toNatClampNeg j)) = D at X' step kk
  have hheap : ((T.setVm vm').setCell (v_ad G h1) D).heap = H.setIfInBounds (v_ad G h1) D := by rw [← hT]; rfl
  obtain ⟨t, b1, b2⟩ := kk _ _ (show (H.setIfInBounds (v_ad G h1) D)[v_ad G h1]? = some D by simp [Array.getElem?_setIfInBounds, hl]) (by simp) (fun q hq => by simp [Array.getElem?_setIfInBounds, Ne.symm hq]) (fun q hq => by
    obtain ⟨z, -, hz⟩ := List.mem_map.mp hq
    rw [← hz]) _ hheap X'
  exact ⟨t, step t b1, b2⟩
/-- ints (kind 14) or bytes (kind 13) -/
theorem v_copyI {idx h0 h1 kd n0 n1 : Nat} {ty : FieldType} {sp dp k : Int32} (hw : v_cA y.cls idx) (hkd : kd = 13 ∧ ty = .byte ∨ kd = 14 ∧ ty = .int) (i0 : v_is K h0 kd n0) (i1 : v_is K h1 kd n1) (a1 : ¬ sp < 0) (a2 : ¬ dp < 0) (a3 : ¬ k < 0) (a4 : sp.toNatClampNeg + k.toNatClampNeg ≤ n0) (a5 : dp.toNatClampNeg + k.toNatClampNeg ≤ n1)
    (hfit : ∀ i : Nat, i < k.toNatClampNeg → fits ty (.int (I h0 (sp.toNatClampNeg + i))) = true) (hf : 1 ≤ Z.frames) (hz : (st.map fun v => v.category).sum + (nativeFrameWords "java/lang/System" "arraycopy" 5 + 11) ≤ Z.locals) (hd : decode cc pc = .ok (.invokestatic idx, 3))
    (kk : v_V G l y cc nL rt Z Qc cells slots (pc + 3) lv st (K, v_cp I h0 h1 sp.toNatClampNeg dp.toNatClampNeg k.toNatClampNeg, J, R)) : v_V G l y cc nL rt Z Qc cells slots pc lv (.int k :: .int dp :: .ref h1 :: .int sp :: .ref h0 :: st) (K, I, J, R) := by
  intro p e s m args below meth c H locs ls C P L
  have hk3 : kd = 13 ∨ kd = 14 ∨ kd = 16 := by rcases hkd with ⟨h, -⟩ | ⟨h, -⟩ <;> simp [h]
  have hA : ArrOfT s (G.2.1 kd) ty := by
    rcases hkd with ⟨rfl, rfl⟩ | ⟨rfl, rfl⟩
    · exact (C.2.2.2.2.2.2.2.2.1.2 0 _ rfl).1
    · exact (C.2.2.2.2.2.2.2.2.1.2 1 _ rfl).1
  refine v_copyW (fun x => .int x) C L.1.1 hw hd (P.1 h0 _ (v_at_int i0 hk3)) (P.1 h1 _ (v_at_int i1 hk3)) hA a1 a2 a3 a4 a5 hf (by rw [v_catsum]; exact hz) (fun i hi => Or.inl ⟨hfit i hi, fun q h => by cases h⟩) (fun H1 L1 e1 z oq hL => ?_)
  have e0 : v_cp I h0 h1 sp.toNatClampNeg dp.toNatClampNeg k.toNatClampNeg h1 = va_cpy (I h0) (I h1) sp.toNatClampNeg dp.toNatClampNeg k.toNatClampNeg := by funext b; simp [v_cp]
  have e2 : ∀ a, a ≠ h1 → v_cell G K (v_cp I h0 h1 sp.toNatClampNeg dp.toNatClampNeg k.toNatClampNeg) J R a = v_cell G K I J R a := by
    intro a ha
    have e : v_cp I h0 h1 sp.toNatClampNeg dp.toNatClampNeg k.toNatClampNeg a = I a := by funext b; simp [v_cp, ha]
    have e5 : ∀ ci, v_fs G (v_cp I h0 h1 sp.toNatClampNeg dp.toNatClampNeg k.toNatClampNeg) R a ci = v_fs G I R a ci := fun ci => by simp [v_fs, e]
    simp [v_cell, e, e5]
  refine kk p e s m args below meth c H1 _ ls C (v_wr P i1.1 ?_ e2 z oq hL) L
  rw [v_cell_int i1 hk3, e0]
  exact e1
theorem v_copyL {idx h0 h1 n0 n1 : Nat} {sp dp k : Int32} (hw : v_cA y.cls idx) (i0 : v_is K h0 15 n0) (i1 : v_is K h1 15 n1) (a1 : ¬ sp < 0) (a2 : ¬ dp < 0) (a3 : ¬ k < 0) (a4 : sp.toNatClampNeg + k.toNatClampNeg ≤ n0) (a5 : dp.toNatClampNeg + k.toNatClampNeg ≤ n1)
    (hf : 1 ≤ Z.frames) (hz : (st.map fun v => v.category).sum + (nativeFrameWords "java/lang/System" "arraycopy" 5 + 11) ≤ Z.locals) (hd : decode cc pc = .ok (.invokestatic idx, 3))
    (kk : v_V G l y cc nL rt Z Qc cells slots (pc + 3) lv st (K, I, v_cp J h0 h1 sp.toNatClampNeg dp.toNatClampNeg k.toNatClampNeg, R)) : v_V G l y cc nL rt Z Qc cells slots pc lv (.int k :: .int dp :: .ref h1 :: .int sp :: .ref h0 :: st) (K, I, J, R) := by
  intro p e s m args below meth c H locs ls C P L
  refine v_copyW (fun x => .long x) C L.1.1 hw hd (P.1 h0 _ (v_at_long i0)) (P.1 h1 _ (v_at_long i1)) (C.2.2.2.2.2.2.2.2.1.2 2 _ rfl).1 a1 a2 a3 a4 a5 hf (by rw [v_catsum]; exact hz) (fun i hi => Or.inl ⟨rfl, fun q h => by cases h⟩) (fun H1 L1 e1 z oq hL => ?_)
  have e0 : v_cp J h0 h1 sp.toNatClampNeg dp.toNatClampNeg k.toNatClampNeg h1 = va_cpy (J h0) (J h1) sp.toNatClampNeg dp.toNatClampNeg k.toNatClampNeg := by funext b; simp [v_cp]
  have e2 : ∀ a, a ≠ h1 → v_cell G K I (v_cp J h0 h1 sp.toNatClampNeg dp.toNatClampNeg k.toNatClampNeg) R a = v_cell G K I J R a := by
    intro a ha
    have e : v_cp J h0 h1 sp.toNatClampNeg dp.toNatClampNeg k.toNatClampNeg a = J a := by funext b; simp [v_cp, ha]
    simp [v_cell, e]
  refine kk p e s m args below meth c H1 _ ls C (v_wr P i1.1 ?_ e2 z oq hL) L
  rw [v_cell_long i1, e0]
  exact e1
/-- a class's castability, or itself -/
def v_cst (ci : Nat) (E : String) : Prop := ∃ q : vw_C, vwCl[ci]? = some q ∧ ci < 13 ∧ (q.1 = E ∨ Cond.castable q.1 E ∈ wsN)
theorem v_any {s : State} {H : Heap} {locs : List Loc} {ci : Nat} {E : String} {v nv : Nat} (hK : va_K G.1 vwCl (v_ty G) s) (hX : v_X G s) (P : v_Rp G (K, I, J, R) s H locs) (hv : v_is K v ci nv) (hc : v_cst ci E) : va_Any E s H (v_ad G v) := by
  obtain ⟨q, h1, h2, h3⟩ := hc
  refine va_rAny hK P.1 (v_at_obj hv h2) h1 (fun comp c0 f1 f2 => ?_)
  rcases h3 with h3 | h3
  · rw [h3] at f2
    cases f1.symm.trans f2
    exact va_asg _ _
  · obtain ⟨c1, t1, g1, g2, g3⟩ := Cond.castable_spec (va_Nw.use (A := #[]) rfl (hX.1 _ h3))
    cases f1.symm.trans g2
    cases f2.symm.trans g1
    exact g3
theorem v_copyR {idx h0 h1 kd n0 n1 : Nat} {E : String} {sp dp k : Int32} (hw : v_cA y.cls idx) (hkd : kd = 17 ∧ E = "OneFriend$Person" ∨ kd = 18 ∧ E = "OneFriend$Tape") (i0 : v_is K h0 kd n0) (i1 : v_is K h1 kd n1) (a1 : ¬ sp < 0) (a2 : ¬ dp < 0) (a3 : ¬ k < 0) (a4 : sp.toNatClampNeg + k.toNatClampNeg ≤ n0) (a5 : dp.toNatClampNeg + k.toNatClampNeg ≤ n1)
    (hel : ∀ i v : Nat, i < k.toNatClampNeg → R h0 (sp.toNatClampNeg + i) = some v → ∃ ci nv, v_is K v ci nv ∧ v_cst ci E) (hf : 1 ≤ Z.frames) (hz : (st.map fun v => v.category).sum + (nativeFrameWords "java/lang/System" "arraycopy" 5 + 11) ≤ Z.locals) (hd : decode cc pc = .ok (.invokestatic idx, 3))
    (kk : v_V G l y cc nL rt Z Qc cells slots (pc + 3) lv st (K, I, J, v_cp R h0 h1 sp.toNatClampNeg dp.toNatClampNeg k.toNatClampNeg)) : v_V G l y cc nL rt Z Qc cells slots pc lv (.int k :: .int dp :: .ref h1 :: .int sp :: .ref h0 :: st) (K, I, J, R) := by
  intro p e s m args below meth c H locs ls C P L
  have hk2 : kd = 17 ∨ kd = 18 := by rcases hkd with ⟨h, -⟩ | ⟨h, -⟩ <;> simp [h]
  have hA : ArrOfT s (G.2.1 kd) (.object E) ∧ va_RA s (G.2.1 kd) (.object E) := by
    rcases hkd with ⟨rfl, rfl⟩ | ⟨rfl, rfl⟩
    · exact C.2.2.2.2.2.2.2.2.1.2 4 _ rfl
    · exact C.2.2.2.2.2.2.2.2.1.2 5 _ rfl
  refine v_copyW (fun x : Option Nat => va_rf (x.map (v_ad G))) (cA := G.2.1 kd) (n0 := n0) (n1 := n1) (f := R h0) (g := R h1) C L.1.1 hw hd (P.1 h0 _ (v_at_ref i0 hk2)) (P.1 h1 _ (v_at_ref i1 hk2)) hA.1 a1 a2 a3 a4 a5 hf (by rw [v_catsum]; exact hz) (fun i hi => ?_) (fun H1 L1 e1 z oq hL => ?_)
  · cases hv : R h0 (sp.toNatClampNeg + i) with
    | none => exact Or.inl ⟨rfl, fun q h => by cases h⟩
    | some v =>
      obtain ⟨ci, nv, g1, g2⟩ := hel i v hi hv
      exact Or.inr ⟨v_ad G v, E, rfl, rfl, v_any C.2.2.2.2.2.2.2.2.1 C.2.2.2.2.2.2.2.2.2.1 P g1 g2, hA.2⟩
  have e0 : v_cp R h0 h1 sp.toNatClampNeg dp.toNatClampNeg k.toNatClampNeg h1 = va_cpy (R h0) (R h1) sp.toNatClampNeg dp.toNatClampNeg k.toNatClampNeg := by funext b; simp [v_cp]
  have e2 : ∀ a, a ≠ h1 → v_cell G K I J (v_cp R h0 h1 sp.toNatClampNeg dp.toNatClampNeg k.toNatClampNeg) a = v_cell G K I J R a := by
    intro a ha
    have e : v_cp R h0 h1 sp.toNatClampNeg dp.toNatClampNeg k.toNatClampNeg a = R a := by funext b; simp [v_cp, ha]
    have e5 : ∀ ci, v_fs G I (v_cp R h0 h1 sp.toNatClampNeg dp.toNatClampNeg k.toNatClampNeg) a ci = v_fs G I R a ci := fun ci => by simp [v_fs, e]
    simp [v_cell, e, e5]
  refine kk p e s m args below meth c H1 _ ls C (v_wr P i1.1 ?_ e2 z oq hL) L
  rw [v_cell_ref i1 hk2, e0]
  exact e1
end VROWS6
end
