section
-- ===== PART A: goes FIRST, ahead of the names: the tables' words, and 'selects' of the private methods out of them =====
/-- a private method of a class that the tables say can be made, by its rows of tables_1 -/
def lw_okq (q : MethodName × Nat) : Prop := (q.1.cls ≠ "java/lang/invoke/MethodHandle" ∧ q.1.cls ≠ "java/lang/invoke/VarHandle") ∧ Cond.instantiable q.1.cls q.2 ∈ tables_1 ∧ Cond.privateMethod q.1 ∈ tables_1 ∧ Cond.instanceMethod q.1 ∈ tables_1
theorem lw_p0 : lw_okq (⟨"OneFriend$Village", "amissBy", "(I)I"⟩, 15) := ⟨⟨by decide +kernel, by decide +kernel⟩, List.mem_of_getElem? (i := 32) (by decide +kernel), List.mem_of_getElem? (i := 341) (by decide +kernel), List.mem_of_getElem? (i := 342) (by decide +kernel)⟩
theorem lw_p1 : lw_okq (⟨"OneFriend$Village", "asTownSays", "(II)I"⟩, 15) := ⟨⟨by decide +kernel, by decide +kernel⟩, List.mem_of_getElem? (i := 32) (by decide +kernel), List.mem_of_getElem? (i := 407) (by decide +kernel), List.mem_of_getElem? (i := 408) (by decide +kernel)⟩
theorem lw_p2 : lw_okq (⟨"OneFriend$Town", "holds", "(I[I)Z"⟩, 9) := ⟨⟨by decide +kernel, by decide +kernel⟩, List.mem_of_getElem? (i := 112) (by decide +kernel), List.mem_of_getElem? (i := 419) (by decide +kernel), List.mem_of_getElem? (i := 420) (by decide +kernel)⟩
theorem lw_p3 : lw_okq (⟨"OneFriend", "refusalOfTwo", "(II)I"⟩, 12) := ⟨⟨by decide +kernel, by decide +kernel⟩, List.mem_of_getElem? (i := 24) (by decide +kernel), List.mem_of_getElem? (i := 441) (by decide +kernel), List.mem_of_getElem? (i := 442) (by decide +kernel)⟩
theorem lw_p4 : lw_okq (⟨"OneFriend$Town", "takes", "(C)Z"⟩, 9) := ⟨⟨by decide +kernel, by decide +kernel⟩, List.mem_of_getElem? (i := 112) (by decide +kernel), List.mem_of_getElem? (i := 499) (by decide +kernel), List.mem_of_getElem? (i := 500) (by decide +kernel)⟩
theorem lw_p5 : lw_okq (⟨"OneFriend$Town", "takesClause", "(I)Z"⟩, 9) := ⟨⟨by decide +kernel, by decide +kernel⟩, List.mem_of_getElem? (i := 112) (by decide +kernel), List.mem_of_getElem? (i := 503) (by decide +kernel), List.mem_of_getElem? (i := 504) (by decide +kernel)⟩
theorem lw_p6 : lw_okq (⟨"OneFriend$Town", "takenWord", "()I"⟩, 9) := ⟨⟨by decide +kernel, by decide +kernel⟩, List.mem_of_getElem? (i := 112) (by decide +kernel), List.mem_of_getElem? (i := 507) (by decide +kernel), List.mem_of_getElem? (i := 508) (by decide +kernel)⟩
theorem lw_p7 : lw_okq (⟨"OneFriend$Town", "takenOneOf", "(Ljava/lang/String;)I"⟩, 9) := ⟨⟨by decide +kernel, by decide +kernel⟩, List.mem_of_getElem? (i := 112) (by decide +kernel), List.mem_of_getElem? (i := 512) (by decide +kernel), List.mem_of_getElem? (i := 513) (by decide +kernel)⟩
theorem lw_p8 : lw_okq (⟨"OneFriend$Town", "takesAll", "(Ljava/lang/String;)Z"⟩, 9) := ⟨⟨by decide +kernel, by decide +kernel⟩, List.mem_of_getElem? (i := 112) (by decide +kernel), List.mem_of_getElem? (i := 590) (by decide +kernel), List.mem_of_getElem? (i := 591) (by decide +kernel)⟩
theorem lw_p9 : lw_okq (⟨"OneFriend$Town", "takenNumber", "()I"⟩, 9) := ⟨⟨by decide +kernel, by decide +kernel⟩, List.mem_of_getElem? (i := 112) (by decide +kernel), List.mem_of_getElem? (i := 617) (by decide +kernel), List.mem_of_getElem? (i := 618) (by decide +kernel)⟩
theorem lw_p10 : lw_okq (⟨"OneFriend$Town", "takesEither", "(I)Z"⟩, 9) := ⟨⟨by decide +kernel, by decide +kernel⟩, List.mem_of_getElem? (i := 112) (by decide +kernel), List.mem_of_getElem? (i := 622) (by decide +kernel), List.mem_of_getElem? (i := 623) (by decide +kernel)⟩
theorem lw_p11 : lw_okq (⟨"OneFriend$Town", "takesBoth", "(I)Z"⟩, 9) := ⟨⟨by decide +kernel, by decide +kernel⟩, List.mem_of_getElem? (i := 112) (by decide +kernel), List.mem_of_getElem? (i := 626) (by decide +kernel), List.mem_of_getElem? (i := 627) (by decide +kernel)⟩
theorem lw_p12 : lw_okq (⟨"OneFriend$Town", "takesFactor", "(I)Z"⟩, 9) := ⟨⟨by decide +kernel, by decide +kernel⟩, List.mem_of_getElem? (i := 112) (by decide +kernel), List.mem_of_getElem? (i := 630) (by decide +kernel), List.mem_of_getElem? (i := 631) (by decide +kernel)⟩
theorem lw_p13 : lw_okq (⟨"OneFriend$Town", "keep", "(I)V"⟩, 9) := ⟨⟨by decide +kernel, by decide +kernel⟩, List.mem_of_getElem? (i := 112) (by decide +kernel), List.mem_of_getElem? (i := 634) (by decide +kernel), List.mem_of_getElem? (i := 635) (by decide +kernel)⟩
theorem lw_p14 : lw_okq (⟨"OneFriend", "offer", "(IIII)V"⟩, 12) := ⟨⟨by decide +kernel, by decide +kernel⟩, List.mem_of_getElem? (i := 24) (by decide +kernel), List.mem_of_getElem? (i := 692) (by decide +kernel), List.mem_of_getElem? (i := 693) (by decide +kernel)⟩
theorem lw_p15 : lw_okq (⟨"OneFriendModel", "in", "(III)Z"⟩, 61) := ⟨⟨by decide +kernel, by decide +kernel⟩, List.mem_of_getElem? (i := 931) (by decide +kernel), List.mem_of_getElem? (i := 1126) (by decide +kernel), List.mem_of_getElem? (i := 1127) (by decide +kernel)⟩
def lw_privs_1 : List (MethodName × Nat) := [(⟨"OneFriend$Village", "amissBy", "(I)I"⟩, 15), (⟨"OneFriend$Village", "asTownSays", "(II)I"⟩, 15), (⟨"OneFriend$Town", "holds", "(I[I)Z"⟩, 9), (⟨"OneFriend", "refusalOfTwo", "(II)I"⟩, 12), (⟨"OneFriend$Town", "takes", "(C)Z"⟩, 9), (⟨"OneFriend$Town", "takesClause", "(I)Z"⟩, 9), (⟨"OneFriend$Town", "takenWord", "()I"⟩, 9), (⟨"OneFriend$Town", "takenOneOf", "(Ljava/lang/String;)I"⟩, 9), (⟨"OneFriend$Town", "takesAll", "(Ljava/lang/String;)Z"⟩, 9), (⟨"OneFriend$Town", "takenNumber", "()I"⟩, 9), (⟨"OneFriend$Town", "takesEither", "(I)Z"⟩, 9), (⟨"OneFriend$Town", "takesBoth", "(I)Z"⟩, 9), (⟨"OneFriend$Town", "takesFactor", "(I)Z"⟩, 9), (⟨"OneFriend$Town", "keep", "(I)V"⟩, 9), (⟨"OneFriend", "offer", "(IIII)V"⟩, 12), (⟨"OneFriendModel", "in", "(III)Z"⟩, 61)]
theorem lw_r1 : ∀ q ∈ lw_privs_1, lw_okq q := List.forall_mem_cons.mpr ⟨lw_p0, List.forall_mem_cons.mpr ⟨lw_p1, List.forall_mem_cons.mpr ⟨lw_p2, List.forall_mem_cons.mpr ⟨lw_p3, List.forall_mem_cons.mpr ⟨lw_p4, List.forall_mem_cons.mpr ⟨lw_p5, List.forall_mem_cons.mpr ⟨lw_p6, List.forall_mem_cons.mpr ⟨lw_p7, List.forall_mem_cons.mpr ⟨lw_p8, List.forall_mem_cons.mpr ⟨lw_p9, List.forall_mem_cons.mpr ⟨lw_p10, List.forall_mem_cons.mpr ⟨lw_p11, List.forall_mem_cons.mpr ⟨lw_p12, List.forall_mem_cons.mpr ⟨lw_p13, List.forall_mem_cons.mpr ⟨lw_p14, List.forall_mem_cons.mpr ⟨lw_p15, fun _ h => absurd h List.not_mem_nil⟩⟩⟩⟩⟩⟩⟩⟩⟩⟩⟩⟩⟩⟩⟩⟩
theorem lw_p16 : lw_okq (⟨"OneFriendModel", "lay", "(III)V"⟩, 61) := ⟨⟨by decide +kernel, by decide +kernel⟩, List.mem_of_getElem? (i := 931) (by decide +kernel), List.mem_of_getElem? (i := 1130) (by decide +kernel), List.mem_of_getElem? (i := 1131) (by decide +kernel)⟩
theorem lw_p17 : lw_okq (⟨"OneFriendModel", "isPerson", "(I)Z"⟩, 61) := ⟨⟨by decide +kernel, by decide +kernel⟩, List.mem_of_getElem? (i := 931) (by decide +kernel), List.mem_of_getElem? (i := 1138) (by decide +kernel), List.mem_of_getElem? (i := 1139) (by decide +kernel)⟩
theorem lw_p18 : lw_okq (⟨"OneFriendModel", "has", "(II)Z"⟩, 61) := ⟨⟨by decide +kernel, by decide +kernel⟩, List.mem_of_getElem? (i := 931) (by decide +kernel), List.mem_of_getElem? (i := 1142) (by decide +kernel), List.mem_of_getElem? (i := 1143) (by decide +kernel)⟩
theorem lw_p19 : lw_okq (⟨"OneFriendModel", "turns", "(II)V"⟩, 61) := ⟨⟨by decide +kernel, by decide +kernel⟩, List.mem_of_getElem? (i := 931) (by decide +kernel), List.mem_of_getElem? (i := 1146) (by decide +kernel), List.mem_of_getElem? (i := 1147) (by decide +kernel)⟩
theorem lw_p20 : lw_okq (⟨"OneFriendModel", "pairOf", "(II)I"⟩, 61) := ⟨⟨by decide +kernel, by decide +kernel⟩, List.mem_of_getElem? (i := 931) (by decide +kernel), List.mem_of_getElem? (i := 1154) (by decide +kernel), List.mem_of_getElem? (i := 1155) (by decide +kernel)⟩
theorem lw_p21 : lw_okq (⟨"OneFriendModel", "goesText", "(I)Z"⟩, 61) := ⟨⟨by decide +kernel, by decide +kernel⟩, List.mem_of_getElem? (i := 931) (by decide +kernel), List.mem_of_getElem? (i := 1170) (by decide +kernel), List.mem_of_getElem? (i := 1171) (by decide +kernel)⟩
theorem lw_p22 : lw_okq (⟨"OneFriendModel", "takesClause", "(I)Z"⟩, 61) := ⟨⟨by decide +kernel, by decide +kernel⟩, List.mem_of_getElem? (i := 931) (by decide +kernel), List.mem_of_getElem? (i := 1174) (by decide +kernel), List.mem_of_getElem? (i := 1175) (by decide +kernel)⟩
theorem lw_p23 : lw_okq (⟨"OneFriendModel", "takesHead", "(I)Z"⟩, 61) := ⟨⟨by decide +kernel, by decide +kernel⟩, List.mem_of_getElem? (i := 931) (by decide +kernel), List.mem_of_getElem? (i := 1178) (by decide +kernel), List.mem_of_getElem? (i := 1179) (by decide +kernel)⟩
theorem lw_p24 : lw_okq (⟨"OneFriendModel", "peek", "()I"⟩, 61) := ⟨⟨by decide +kernel, by decide +kernel⟩, List.mem_of_getElem? (i := 931) (by decide +kernel), List.mem_of_getElem? (i := 1182) (by decide +kernel), List.mem_of_getElem? (i := 1183) (by decide +kernel)⟩
theorem lw_p25 : lw_okq (⟨"OneFriendModel", "takesWord", "(II)Z"⟩, 61) := ⟨⟨by decide +kernel, by decide +kernel⟩, List.mem_of_getElem? (i := 931) (by decide +kernel), List.mem_of_getElem? (i := 1186) (by decide +kernel), List.mem_of_getElem? (i := 1187) (by decide +kernel)⟩
theorem lw_p26 : lw_okq (⟨"OneFriendModel", "takes", "(I)Z"⟩, 61) := ⟨⟨by decide +kernel, by decide +kernel⟩, List.mem_of_getElem? (i := 931) (by decide +kernel), List.mem_of_getElem? (i := 1190) (by decide +kernel), List.mem_of_getElem? (i := 1191) (by decide +kernel)⟩
theorem lw_p27 : lw_okq (⟨"OneFriendModel", "takesNumber", "()Z"⟩, 61) := ⟨⟨by decide +kernel, by decide +kernel⟩, List.mem_of_getElem? (i := 931) (by decide +kernel), List.mem_of_getElem? (i := 1194) (by decide +kernel), List.mem_of_getElem? (i := 1195) (by decide +kernel)⟩
theorem lw_p28 : lw_okq (⟨"OneFriendModel", "isDigit", "()Z"⟩, 61) := ⟨⟨by decide +kernel, by decide +kernel⟩, List.mem_of_getElem? (i := 931) (by decide +kernel), List.mem_of_getElem? (i := 1198) (by decide +kernel), List.mem_of_getElem? (i := 1199) (by decide +kernel)⟩
theorem lw_p29 : lw_okq (⟨"OneFriendModel", "takesE", "(I)Z"⟩, 61) := ⟨⟨by decide +kernel, by decide +kernel⟩, List.mem_of_getElem? (i := 931) (by decide +kernel), List.mem_of_getElem? (i := 1202) (by decide +kernel), List.mem_of_getElem? (i := 1203) (by decide +kernel)⟩
theorem lw_p30 : lw_okq (⟨"OneFriendModel", "takesTest", "()Z"⟩, 61) := ⟨⟨by decide +kernel, by decide +kernel⟩, List.mem_of_getElem? (i := 931) (by decide +kernel), List.mem_of_getElem? (i := 1206) (by decide +kernel), List.mem_of_getElem? (i := 1207) (by decide +kernel)⟩
theorem lw_p31 : lw_okq (⟨"OneFriendModel", "place", "(I)I"⟩, 61) := ⟨⟨by decide +kernel, by decide +kernel⟩, List.mem_of_getElem? (i := 931) (by decide +kernel), List.mem_of_getElem? (i := 1210) (by decide +kernel), List.mem_of_getElem? (i := 1211) (by decide +kernel)⟩
def lw_privs_2 : List (MethodName × Nat) := [(⟨"OneFriendModel", "lay", "(III)V"⟩, 61), (⟨"OneFriendModel", "isPerson", "(I)Z"⟩, 61), (⟨"OneFriendModel", "has", "(II)Z"⟩, 61), (⟨"OneFriendModel", "turns", "(II)V"⟩, 61), (⟨"OneFriendModel", "pairOf", "(II)I"⟩, 61), (⟨"OneFriendModel", "goesText", "(I)Z"⟩, 61), (⟨"OneFriendModel", "takesClause", "(I)Z"⟩, 61), (⟨"OneFriendModel", "takesHead", "(I)Z"⟩, 61), (⟨"OneFriendModel", "peek", "()I"⟩, 61), (⟨"OneFriendModel", "takesWord", "(II)Z"⟩, 61), (⟨"OneFriendModel", "takes", "(I)Z"⟩, 61), (⟨"OneFriendModel", "takesNumber", "()Z"⟩, 61), (⟨"OneFriendModel", "isDigit", "()Z"⟩, 61), (⟨"OneFriendModel", "takesE", "(I)Z"⟩, 61), (⟨"OneFriendModel", "takesTest", "()Z"⟩, 61), (⟨"OneFriendModel", "place", "(I)I"⟩, 61)]
theorem lw_r2 : ∀ q ∈ lw_privs_2, lw_okq q := List.forall_mem_cons.mpr ⟨lw_p16, List.forall_mem_cons.mpr ⟨lw_p17, List.forall_mem_cons.mpr ⟨lw_p18, List.forall_mem_cons.mpr ⟨lw_p19, List.forall_mem_cons.mpr ⟨lw_p20, List.forall_mem_cons.mpr ⟨lw_p21, List.forall_mem_cons.mpr ⟨lw_p22, List.forall_mem_cons.mpr ⟨lw_p23, List.forall_mem_cons.mpr ⟨lw_p24, List.forall_mem_cons.mpr ⟨lw_p25, List.forall_mem_cons.mpr ⟨lw_p26, List.forall_mem_cons.mpr ⟨lw_p27, List.forall_mem_cons.mpr ⟨lw_p28, List.forall_mem_cons.mpr ⟨lw_p29, List.forall_mem_cons.mpr ⟨lw_p30, List.forall_mem_cons.mpr ⟨lw_p31, fun _ h => absurd h List.not_mem_nil⟩⟩⟩⟩⟩⟩⟩⟩⟩⟩⟩⟩⟩⟩⟩⟩
theorem lw_p32 : lw_okq (⟨"OneFriendModel", "emits", "(I)V"⟩, 61) := ⟨⟨by decide +kernel, by decide +kernel⟩, List.mem_of_getElem? (i := 931) (by decide +kernel), List.mem_of_getElem? (i := 1214) (by decide +kernel), List.mem_of_getElem? (i := 1215) (by decide +kernel)⟩
theorem lw_p33 : lw_okq (⟨"OneFriendModel", "whole", "()V"⟩, 61) := ⟨⟨by decide +kernel, by decide +kernel⟩, List.mem_of_getElem? (i := 931) (by decide +kernel), List.mem_of_getElem? (i := 1218) (by decide +kernel), List.mem_of_getElem? (i := 1219) (by decide +kernel)⟩
theorem lw_p34 : lw_okq (⟨"OneFriendModel", "settle", "(I)V"⟩, 61) := ⟨⟨by decide +kernel, by decide +kernel⟩, List.mem_of_getElem? (i := 931) (by decide +kernel), List.mem_of_getElem? (i := 1222) (by decide +kernel), List.mem_of_getElem? (i := 1223) (by decide +kernel)⟩
theorem lw_p35 : lw_okq (⟨"OneFriendModel", "layAmiss", "()I"⟩, 61) := ⟨⟨by decide +kernel, by decide +kernel⟩, List.mem_of_getElem? (i := 931) (by decide +kernel), List.mem_of_getElem? (i := 1230) (by decide +kernel), List.mem_of_getElem? (i := 1231) (by decide +kernel)⟩
theorem lw_p36 : lw_okq (⟨"OneFriendModel", "offOf", "(II)I"⟩, 61) := ⟨⟨by decide +kernel, by decide +kernel⟩, List.mem_of_getElem? (i := 931) (by decide +kernel), List.mem_of_getElem? (i := 1234) (by decide +kernel), List.mem_of_getElem? (i := 1235) (by decide +kernel)⟩
theorem lw_p37 : lw_okq (⟨"OneFriendModel", "commonOf", "(II)I"⟩, 61) := ⟨⟨by decide +kernel, by decide +kernel⟩, List.mem_of_getElem? (i := 931) (by decide +kernel), List.mem_of_getElem? (i := 1238) (by decide +kernel), List.mem_of_getElem? (i := 1239) (by decide +kernel)⟩
theorem lw_p38 : lw_okq (⟨"OneFriendModel", "counts", "(III)I"⟩, 61) := ⟨⟨by decide +kernel, by decide +kernel⟩, List.mem_of_getElem? (i := 931) (by decide +kernel), List.mem_of_getElem? (i := 1242) (by decide +kernel), List.mem_of_getElem? (i := 1243) (by decide +kernel)⟩
theorem lw_p39 : lw_okq (⟨"OneFriendModel", "isAlls", "(I)Z"⟩, 61) := ⟨⟨by decide +kernel, by decide +kernel⟩, List.mem_of_getElem? (i := 931) (by decide +kernel), List.mem_of_getElem? (i := 1246) (by decide +kernel), List.mem_of_getElem? (i := 1247) (by decide +kernel)⟩
theorem lw_p40 : lw_okq (⟨"OneFriendModel", "manyOf", "(I)I"⟩, 61) := ⟨⟨by decide +kernel, by decide +kernel⟩, List.mem_of_getElem? (i := 931) (by decide +kernel), List.mem_of_getElem? (i := 1250) (by decide +kernel), List.mem_of_getElem? (i := 1251) (by decide +kernel)⟩
theorem lw_p41 : lw_okq (⟨"OneFriendModel", "ones", "(I)I"⟩, 61) := ⟨⟨by decide +kernel, by decide +kernel⟩, List.mem_of_getElem? (i := 931) (by decide +kernel), List.mem_of_getElem? (i := 1254) (by decide +kernel), List.mem_of_getElem? (i := 1255) (by decide +kernel)⟩
theorem lw_p42 : lw_okq (⟨"OneFriendModel", "sumOf", "(III)I"⟩, 61) := ⟨⟨by decide +kernel, by decide +kernel⟩, List.mem_of_getElem? (i := 931) (by decide +kernel), List.mem_of_getElem? (i := 1258) (by decide +kernel), List.mem_of_getElem? (i := 1259) (by decide +kernel)⟩
theorem lw_p43 : lw_okq (⟨"OneFriendModel", "begin", "()I"⟩, 61) := ⟨⟨by decide +kernel, by decide +kernel⟩, List.mem_of_getElem? (i := 931) (by decide +kernel), List.mem_of_getElem? (i := 1262) (by decide +kernel), List.mem_of_getElem? (i := 1263) (by decide +kernel)⟩
theorem lw_p44 : lw_okq (⟨"OneFriendModel", "behind", "()I"⟩, 61) := ⟨⟨by decide +kernel, by decide +kernel⟩, List.mem_of_getElem? (i := 931) (by decide +kernel), List.mem_of_getElem? (i := 1266) (by decide +kernel), List.mem_of_getElem? (i := 1267) (by decide +kernel)⟩
theorem lw_p45 : lw_okq (⟨"OneFriendModel", "holds", "(III)Z"⟩, 61) := ⟨⟨by decide +kernel, by decide +kernel⟩, List.mem_of_getElem? (i := 931) (by decide +kernel), List.mem_of_getElem? (i := 1270) (by decide +kernel), List.mem_of_getElem? (i := 1271) (by decide +kernel)⟩
theorem lw_p46 : lw_okq (⟨"OneFriendModel", "factOf", "(III)I"⟩, 61) := ⟨⟨by decide +kernel, by decide +kernel⟩, List.mem_of_getElem? (i := 931) (by decide +kernel), List.mem_of_getElem? (i := 1274) (by decide +kernel), List.mem_of_getElem? (i := 1275) (by decide +kernel)⟩
theorem lw_p47 : lw_okq (⟨"OneFriendModel", "isPair", "(I)Z"⟩, 61) := ⟨⟨by decide +kernel, by decide +kernel⟩, List.mem_of_getElem? (i := 931) (by decide +kernel), List.mem_of_getElem? (i := 1282) (by decide +kernel), List.mem_of_getElem? (i := 1283) (by decide +kernel)⟩
def lw_privs_3 : List (MethodName × Nat) := [(⟨"OneFriendModel", "emits", "(I)V"⟩, 61), (⟨"OneFriendModel", "whole", "()V"⟩, 61), (⟨"OneFriendModel", "settle", "(I)V"⟩, 61), (⟨"OneFriendModel", "layAmiss", "()I"⟩, 61), (⟨"OneFriendModel", "offOf", "(II)I"⟩, 61), (⟨"OneFriendModel", "commonOf", "(II)I"⟩, 61), (⟨"OneFriendModel", "counts", "(III)I"⟩, 61), (⟨"OneFriendModel", "isAlls", "(I)Z"⟩, 61), (⟨"OneFriendModel", "manyOf", "(I)I"⟩, 61), (⟨"OneFriendModel", "ones", "(I)I"⟩, 61), (⟨"OneFriendModel", "sumOf", "(III)I"⟩, 61), (⟨"OneFriendModel", "begin", "()I"⟩, 61), (⟨"OneFriendModel", "behind", "()I"⟩, 61), (⟨"OneFriendModel", "holds", "(III)Z"⟩, 61), (⟨"OneFriendModel", "factOf", "(III)I"⟩, 61), (⟨"OneFriendModel", "isPair", "(I)Z"⟩, 61)]
theorem lw_r3 : ∀ q ∈ lw_privs_3, lw_okq q := List.forall_mem_cons.mpr ⟨lw_p32, List.forall_mem_cons.mpr ⟨lw_p33, List.forall_mem_cons.mpr ⟨lw_p34, List.forall_mem_cons.mpr ⟨lw_p35, List.forall_mem_cons.mpr ⟨lw_p36, List.forall_mem_cons.mpr ⟨lw_p37, List.forall_mem_cons.mpr ⟨lw_p38, List.forall_mem_cons.mpr ⟨lw_p39, List.forall_mem_cons.mpr ⟨lw_p40, List.forall_mem_cons.mpr ⟨lw_p41, List.forall_mem_cons.mpr ⟨lw_p42, List.forall_mem_cons.mpr ⟨lw_p43, List.forall_mem_cons.mpr ⟨lw_p44, List.forall_mem_cons.mpr ⟨lw_p45, List.forall_mem_cons.mpr ⟨lw_p46, List.forall_mem_cons.mpr ⟨lw_p47, fun _ h => absurd h List.not_mem_nil⟩⟩⟩⟩⟩⟩⟩⟩⟩⟩⟩⟩⟩⟩⟩⟩
theorem lw_p48 : lw_okq (⟨"OneFriendModel", "pairs", "()I"⟩, 61) := ⟨⟨by decide +kernel, by decide +kernel⟩, List.mem_of_getElem? (i := 931) (by decide +kernel), List.mem_of_getElem? (i := 1286) (by decide +kernel), List.mem_of_getElem? (i := 1287) (by decide +kernel)⟩
theorem lw_p49 : lw_okq (⟨"OneFriendModel", "lesserOf", "(I)I"⟩, 61) := ⟨⟨by decide +kernel, by decide +kernel⟩, List.mem_of_getElem? (i := 931) (by decide +kernel), List.mem_of_getElem? (i := 1290) (by decide +kernel), List.mem_of_getElem? (i := 1291) (by decide +kernel)⟩
theorem lw_p50 : lw_okq (⟨"OneFriendModel", "greaterOf", "(I)I"⟩, 61) := ⟨⟨by decide +kernel, by decide +kernel⟩, List.mem_of_getElem? (i := 931) (by decide +kernel), List.mem_of_getElem? (i := 1294) (by decide +kernel), List.mem_of_getElem? (i := 1295) (by decide +kernel)⟩
theorem lw_p51 : lw_okq (⟨"OneFriendModel", "priceOf", "(II)I"⟩, 61) := ⟨⟨by decide +kernel, by decide +kernel⟩, List.mem_of_getElem? (i := 931) (by decide +kernel), List.mem_of_getElem? (i := 1298) (by decide +kernel), List.mem_of_getElem? (i := 1299) (by decide +kernel)⟩
theorem lw_p52 : lw_okq (⟨"OneFriendModel", "friendships", "()I"⟩, 61) := ⟨⟨by decide +kernel, by decide +kernel⟩, List.mem_of_getElem? (i := 931) (by decide +kernel), List.mem_of_getElem? (i := 1310) (by decide +kernel), List.mem_of_getElem? (i := 1311) (by decide +kernel)⟩
theorem lw_p53 : lw_okq (⟨"OneFriendModel", "amissBy", "(I)I"⟩, 61) := ⟨⟨by decide +kernel, by decide +kernel⟩, List.mem_of_getElem? (i := 931) (by decide +kernel), List.mem_of_getElem? (i := 1326) (by decide +kernel), List.mem_of_getElem? (i := 1327) (by decide +kernel)⟩
theorem lw_p54 : lw_okq (⟨"OneFriendModel", "turn", "(I)V"⟩, 61) := ⟨⟨by decide +kernel, by decide +kernel⟩, List.mem_of_getElem? (i := 931) (by decide +kernel), List.mem_of_getElem? (i := 1330) (by decide +kernel), List.mem_of_getElem? (i := 1331) (by decide +kernel)⟩
theorem lw_p55 : lw_okq (⟨"OneFriendModel", "layCheapest", "()V"⟩, 61) := ⟨⟨by decide +kernel, by decide +kernel⟩, List.mem_of_getElem? (i := 931) (by decide +kernel), List.mem_of_getElem? (i := 1338) (by decide +kernel), List.mem_of_getElem? (i := 1339) (by decide +kernel)⟩
theorem lw_p56 : lw_okq (⟨"OneFriendModel", "take", "(IIII)V"⟩, 61) := ⟨⟨by decide +kernel, by decide +kernel⟩, List.mem_of_getElem? (i := 931) (by decide +kernel), List.mem_of_getElem? (i := 1342) (by decide +kernel), List.mem_of_getElem? (i := 1343) (by decide +kernel)⟩
theorem lw_p57 : lw_okq (⟨"OneFriendModel", "pricePair", "(I)I"⟩, 61) := ⟨⟨by decide +kernel, by decide +kernel⟩, List.mem_of_getElem? (i := 931) (by decide +kernel), List.mem_of_getElem? (i := 1346) (by decide +kernel), List.mem_of_getElem? (i := 1347) (by decide +kernel)⟩
theorem lw_p58 : lw_okq (⟨"OneFriendModel", "isTold", "()Z"⟩, 61) := ⟨⟨by decide +kernel, by decide +kernel⟩, List.mem_of_getElem? (i := 931) (by decide +kernel), List.mem_of_getElem? (i := 1366) (by decide +kernel), List.mem_of_getElem? (i := 1367) (by decide +kernel)⟩
theorem lw_p59 : lw_okq (⟨"OneFriendModel", "isLawful", "(II)Z"⟩, 61) := ⟨⟨by decide +kernel, by decide +kernel⟩, List.mem_of_getElem? (i := 931) (by decide +kernel), List.mem_of_getElem? (i := 1378) (by decide +kernel), List.mem_of_getElem? (i := 1379) (by decide +kernel)⟩
theorem lw_p60 : lw_okq (⟨"OneFriendModel", "lowest", "(III)J"⟩, 61) := ⟨⟨by decide +kernel, by decide +kernel⟩, List.mem_of_getElem? (i := 931) (by decide +kernel), List.mem_of_getElem? (i := 1391) (by decide +kernel), List.mem_of_getElem? (i := 1392) (by decide +kernel)⟩
theorem lw_p61 : lw_okq (⟨"OneFriendModel", "divisor", "(II)I"⟩, 61) := ⟨⟨by decide +kernel, by decide +kernel⟩, List.mem_of_getElem? (i := 931) (by decide +kernel), List.mem_of_getElem? (i := 1395) (by decide +kernel), List.mem_of_getElem? (i := 1396) (by decide +kernel)⟩
theorem lw_p62 : lw_okq (⟨"OneFriendModel", "isTape", "(I)Z"⟩, 61) := ⟨⟨by decide +kernel, by decide +kernel⟩, List.mem_of_getElem? (i := 931) (by decide +kernel), List.mem_of_getElem? (i := 1423) (by decide +kernel), List.mem_of_getElem? (i := 1424) (by decide +kernel)⟩
theorem lw_p63 : lw_okq (⟨"OneFriendModel", "meetsAct", "(II)I"⟩, 61) := ⟨⟨by decide +kernel, by decide +kernel⟩, List.mem_of_getElem? (i := 931) (by decide +kernel), List.mem_of_getElem? (i := 1439) (by decide +kernel), List.mem_of_getElem? (i := 1440) (by decide +kernel)⟩
def lw_privs_4 : List (MethodName × Nat) := [(⟨"OneFriendModel", "pairs", "()I"⟩, 61), (⟨"OneFriendModel", "lesserOf", "(I)I"⟩, 61), (⟨"OneFriendModel", "greaterOf", "(I)I"⟩, 61), (⟨"OneFriendModel", "priceOf", "(II)I"⟩, 61), (⟨"OneFriendModel", "friendships", "()I"⟩, 61), (⟨"OneFriendModel", "amissBy", "(I)I"⟩, 61), (⟨"OneFriendModel", "turn", "(I)V"⟩, 61), (⟨"OneFriendModel", "layCheapest", "()V"⟩, 61), (⟨"OneFriendModel", "take", "(IIII)V"⟩, 61), (⟨"OneFriendModel", "pricePair", "(I)I"⟩, 61), (⟨"OneFriendModel", "isTold", "()Z"⟩, 61), (⟨"OneFriendModel", "isLawful", "(II)Z"⟩, 61), (⟨"OneFriendModel", "lowest", "(III)J"⟩, 61), (⟨"OneFriendModel", "divisor", "(II)I"⟩, 61), (⟨"OneFriendModel", "isTape", "(I)Z"⟩, 61), (⟨"OneFriendModel", "meetsAct", "(II)I"⟩, 61)]
theorem lw_r4 : ∀ q ∈ lw_privs_4, lw_okq q := List.forall_mem_cons.mpr ⟨lw_p48, List.forall_mem_cons.mpr ⟨lw_p49, List.forall_mem_cons.mpr ⟨lw_p50, List.forall_mem_cons.mpr ⟨lw_p51, List.forall_mem_cons.mpr ⟨lw_p52, List.forall_mem_cons.mpr ⟨lw_p53, List.forall_mem_cons.mpr ⟨lw_p54, List.forall_mem_cons.mpr ⟨lw_p55, List.forall_mem_cons.mpr ⟨lw_p56, List.forall_mem_cons.mpr ⟨lw_p57, List.forall_mem_cons.mpr ⟨lw_p58, List.forall_mem_cons.mpr ⟨lw_p59, List.forall_mem_cons.mpr ⟨lw_p60, List.forall_mem_cons.mpr ⟨lw_p61, List.forall_mem_cons.mpr ⟨lw_p62, List.forall_mem_cons.mpr ⟨lw_p63, fun _ h => absurd h List.not_mem_nil⟩⟩⟩⟩⟩⟩⟩⟩⟩⟩⟩⟩⟩⟩⟩⟩
theorem lw_p64 : lw_okq (⟨"OneFriendModel", "body", "(I)V"⟩, 61) := ⟨⟨by decide +kernel, by decide +kernel⟩, List.mem_of_getElem? (i := 931) (by decide +kernel), List.mem_of_getElem? (i := 1443) (by decide +kernel), List.mem_of_getElem? (i := 1444) (by decide +kernel)⟩
theorem lw_p65 : lw_okq (⟨"OneFriendModel", "personMeets", "(II)I"⟩, 61) := ⟨⟨by decide +kernel, by decide +kernel⟩, List.mem_of_getElem? (i := 931) (by decide +kernel), List.mem_of_getElem? (i := 1447) (by decide +kernel), List.mem_of_getElem? (i := 1448) (by decide +kernel)⟩
theorem lw_p66 : lw_okq (⟨"OneFriendModel", "countsAct", "(II)I"⟩, 61) := ⟨⟨by decide +kernel, by decide +kernel⟩, List.mem_of_getElem? (i := 931) (by decide +kernel), List.mem_of_getElem? (i := 1451) (by decide +kernel), List.mem_of_getElem? (i := 1452) (by decide +kernel)⟩
theorem lw_p67 : lw_okq (⟨"OneFriendModel", "weightyCounts", "(II)I"⟩, 61) := ⟨⟨by decide +kernel, by decide +kernel⟩, List.mem_of_getElem? (i := 931) (by decide +kernel), List.mem_of_getElem? (i := 1455) (by decide +kernel), List.mem_of_getElem? (i := 1456) (by decide +kernel)⟩
theorem lw_p68 : lw_okq (⟨"OneFriendModel", "personCounts", "(II)I"⟩, 61) := ⟨⟨by decide +kernel, by decide +kernel⟩, List.mem_of_getElem? (i := 931) (by decide +kernel), List.mem_of_getElem? (i := 1459) (by decide +kernel), List.mem_of_getElem? (i := 1460) (by decide +kernel)⟩
theorem lw_p69 : lw_okq (⟨"OneFriendModel", "tellsAct", "(II)I"⟩, 61) := ⟨⟨by decide +kernel, by decide +kernel⟩, List.mem_of_getElem? (i := 931) (by decide +kernel), List.mem_of_getElem? (i := 1463) (by decide +kernel), List.mem_of_getElem? (i := 1464) (by decide +kernel)⟩
theorem lw_p70 : lw_okq (⟨"OneFriendModel", "personTells", "(II)I"⟩, 61) := ⟨⟨by decide +kernel, by decide +kernel⟩, List.mem_of_getElem? (i := 931) (by decide +kernel), List.mem_of_getElem? (i := 1467) (by decide +kernel), List.mem_of_getElem? (i := 1468) (by decide +kernel)⟩
theorem lw_p71 : lw_okq (⟨"OneFriendModel", "narrow", "(IJ)J"⟩, 61) := ⟨⟨by decide +kernel, by decide +kernel⟩, List.mem_of_getElem? (i := 931) (by decide +kernel), List.mem_of_getElem? (i := 1491) (by decide +kernel), List.mem_of_getElem? (i := 1492) (by decide +kernel)⟩
def lw_privs_5 : List (MethodName × Nat) := [(⟨"OneFriendModel", "body", "(I)V"⟩, 61), (⟨"OneFriendModel", "personMeets", "(II)I"⟩, 61), (⟨"OneFriendModel", "countsAct", "(II)I"⟩, 61), (⟨"OneFriendModel", "weightyCounts", "(II)I"⟩, 61), (⟨"OneFriendModel", "personCounts", "(II)I"⟩, 61), (⟨"OneFriendModel", "tellsAct", "(II)I"⟩, 61), (⟨"OneFriendModel", "personTells", "(II)I"⟩, 61), (⟨"OneFriendModel", "narrow", "(IJ)J"⟩, 61)]
theorem lw_r5 : ∀ q ∈ lw_privs_5, lw_okq q := List.forall_mem_cons.mpr ⟨lw_p64, List.forall_mem_cons.mpr ⟨lw_p65, List.forall_mem_cons.mpr ⟨lw_p66, List.forall_mem_cons.mpr ⟨lw_p67, List.forall_mem_cons.mpr ⟨lw_p68, List.forall_mem_cons.mpr ⟨lw_p69, List.forall_mem_cons.mpr ⟨lw_p70, List.forall_mem_cons.mpr ⟨lw_p71, fun _ h => absurd h List.not_mem_nil⟩⟩⟩⟩⟩⟩⟩⟩
def lw_privs : List (MethodName × Nat) := lw_privs_1 ++ (lw_privs_2 ++ (lw_privs_3 ++ (lw_privs_4 ++ (lw_privs_5))))
def lw_tbl : List Cond := k2_sels lw_privs ++ tables_1
theorem lw_privs_ok : ∀ q ∈ lw_privs, lw_okq q := by
  show ∀ q ∈ lw_privs_1 ++ (lw_privs_2 ++ (lw_privs_3 ++ (lw_privs_4 ++ (lw_privs_5)))), lw_okq q
  exact List.forall_mem_append.mpr ⟨lw_r1, List.forall_mem_append.mpr ⟨lw_r2, List.forall_mem_append.mpr ⟨lw_r3, List.forall_mem_append.mpr ⟨lw_r4, lw_r5⟩⟩⟩⟩
-- ===== end of PART A; then your names; then what follows =====
end
section

def RX0 : String := "OneFriend$Mayor"
def TX0 : u_T := fun k => match k with
  | 0 => ("OneFriend$Person", "kind", "I", true)
  | 1 => ("OneFriend$Person", "number", "I", true)
  | _ => ("OneFriend$Person", "v", "I", true)
def tyX0 : Nat → FieldType := fun k => match k with
  | 0 => .int
  | 1 => .int
  | _ => .int
abbrev wsX00 : List Cond := u_ws RX0 TX0 3
theorem nmX0 : ∀ a, a < 3 → ∀ b, b < 3 → a ≠ b → (TX0 a).2.1 ≠ (TX0 b).2.1 := by decide +kernel
theorem tyX0_ok : ∀ k, k < 3 → parseFieldDescriptor (TX0 k).2.2.1 = some (tyX0 k) := by decide +kernel
abbrev cX0_init : ByteArray := prog_2_method_1_code
def yX0_init : MethodName := ⟨RX0, "<init>", "(III)V"⟩
abbrev cX0_worth : ByteArray := prog_2_method_2_code
def yX0_worth : MethodName := ⟨RX0, "worth", "(LOneFriend$Village;Z)I"⟩
abbrev cX0_meets : ByteArray := prog_2_method_3_code
def yX0_meets : MethodName := ⟨RX0, "meets", "(ILOneFriend$Trace;)I"⟩
abbrev cX0_counts : ByteArray := prog_2_method_4_code
def yX0_counts : MethodName := ⟨RX0, "counts", "(ILOneFriend$Trace;)I"⟩
def RX1 : String := "OneFriend$Moody"
def TX1 : u_T := fun k => match k with
  | 0 => ("OneFriend$Person", "kind", "I", true)
  | 1 => ("OneFriend$Person", "number", "I", true)
  | _ => ("OneFriend$Person", "v", "I", true)
def tyX1 : Nat → FieldType := fun k => match k with
  | 0 => .int
  | 1 => .int
  | _ => .int
abbrev wsX10 : List Cond := u_ws RX1 TX1 3
theorem nmX1 : ∀ a, a < 3 → ∀ b, b < 3 → a ≠ b → (TX1 a).2.1 ≠ (TX1 b).2.1 := by decide +kernel
theorem tyX1_ok : ∀ k, k < 3 → parseFieldDescriptor (TX1 k).2.2.1 = some (tyX1 k) := by decide +kernel
abbrev cX1_init : ByteArray := prog_3_method_1_code
def yX1_init : MethodName := ⟨RX1, "<init>", "(III)V"⟩
abbrev cX1_worth : ByteArray := prog_3_method_2_code
def yX1_worth : MethodName := ⟨RX1, "worth", "(LOneFriend$Village;Z)I"⟩
abbrev cX1_tells : ByteArray := prog_3_method_3_code
def yX1_tells : MethodName := ⟨RX1, "tells", "(ILOneFriend$Trace;)I"⟩
def RX2 : String := "OneFriend$Person"
def TX2 : u_T := fun k => match k with
  | 0 => ("OneFriend$Person", "kind", "I", true)
  | 1 => ("OneFriend$Person", "number", "I", true)
  | _ => ("OneFriend$Person", "v", "I", true)
def tyX2 : Nat → FieldType := fun k => match k with
  | 0 => .int
  | 1 => .int
  | _ => .int
abbrev wsX20 : List Cond := u_ws RX2 TX2 3
theorem nmX2 : ∀ a, a < 3 → ∀ b, b < 3 → a ≠ b → (TX2 a).2.1 ≠ (TX2 b).2.1 := by decide +kernel
theorem tyX2_ok : ∀ k, k < 3 → parseFieldDescriptor (TX2 k).2.2.1 = some (tyX2 k) := by decide +kernel
abbrev cX2_init : ByteArray := prog_4_method_1_code
def yX2_init : MethodName := ⟨RX2, "<init>", "(III)V"⟩
abbrev cX2_worth : ByteArray := prog_4_method_2_code
def yX2_worth : MethodName := ⟨RX2, "worth", "(LOneFriend$Village;Z)I"⟩
abbrev cX2_meets : ByteArray := prog_4_method_3_code
def yX2_meets : MethodName := ⟨RX2, "meets", "(ILOneFriend$Trace;)I"⟩
abbrev cX2_counts : ByteArray := prog_4_method_4_code
def yX2_counts : MethodName := ⟨RX2, "counts", "(ILOneFriend$Trace;)I"⟩
abbrev cX2_tells : ByteArray := prog_4_method_5_code
def yX2_tells : MethodName := ⟨RX2, "tells", "(ILOneFriend$Trace;)I"⟩
def RX3 : String := "OneFriend$Secret"
def TX3 : u_T := fun k => match k with
  | 0 => ("OneFriend$Person", "kind", "I", true)
  | 1 => ("OneFriend$Person", "number", "I", true)
  | _ => ("OneFriend$Person", "v", "I", true)
def tyX3 : Nat → FieldType := fun k => match k with
  | 0 => .int
  | 1 => .int
  | _ => .int
abbrev wsX30 : List Cond := u_ws RX3 TX3 3
theorem nmX3 : ∀ a, a < 3 → ∀ b, b < 3 → a ≠ b → (TX3 a).2.1 ≠ (TX3 b).2.1 := by decide +kernel
theorem tyX3_ok : ∀ k, k < 3 → parseFieldDescriptor (TX3 k).2.2.1 = some (tyX3 k) := by decide +kernel
abbrev cX3_init : ByteArray := prog_5_method_1_code
def yX3_init : MethodName := ⟨RX3, "<init>", "(III)V"⟩
abbrev cX3_worth : ByteArray := prog_5_method_2_code
def yX3_worth : MethodName := ⟨RX3, "worth", "(LOneFriend$Village;Z)I"⟩
abbrev cX3_meets : ByteArray := prog_5_method_3_code
def yX3_meets : MethodName := ⟨RX3, "meets", "(ILOneFriend$Trace;)I"⟩
def RX4 : String := "OneFriend$Shy"
def TX4 : u_T := fun k => match k with
  | 0 => ("OneFriend$Person", "kind", "I", true)
  | 1 => ("OneFriend$Person", "number", "I", true)
  | _ => ("OneFriend$Person", "v", "I", true)
def tyX4 : Nat → FieldType := fun k => match k with
  | 0 => .int
  | 1 => .int
  | _ => .int
abbrev wsX40 : List Cond := u_ws RX4 TX4 3
theorem nmX4 : ∀ a, a < 3 → ∀ b, b < 3 → a ≠ b → (TX4 a).2.1 ≠ (TX4 b).2.1 := by decide +kernel
theorem tyX4_ok : ∀ k, k < 3 → parseFieldDescriptor (TX4 k).2.2.1 = some (tyX4 k) := by decide +kernel
abbrev cX4_init : ByteArray := prog_6_method_1_code
def yX4_init : MethodName := ⟨RX4, "<init>", "(III)V"⟩
abbrev cX4_worth : ByteArray := prog_6_method_2_code
def yX4_worth : MethodName := ⟨RX4, "worth", "(LOneFriend$Village;Z)I"⟩
abbrev cX4_tells : ByteArray := prog_6_method_3_code
def yX4_tells : MethodName := ⟨RX4, "tells", "(ILOneFriend$Trace;)I"⟩
def RX5 : String := "OneFriend$Tape"
def TX5 : u_T := fun k => match k with
  | 0 => ("OneFriend$Tape", "sort", "I", false)
  | 1 => ("OneFriend$Tape", "length", "I", false)
  | _ => ("OneFriend$Tape", "items", "[J", true)
def tyX5 : Nat → FieldType := fun k => match k with
  | 0 => .int
  | 1 => .int
  | _ => .array .long
abbrev wsX50 : List Cond := u_ws RX5 TX5 3
theorem nmX5 : ∀ a, a < 3 → ∀ b, b < 3 → a ≠ b → (TX5 a).2.1 ≠ (TX5 b).2.1 := by decide +kernel
theorem tyX5_ok : ∀ k, k < 3 → parseFieldDescriptor (TX5 k).2.2.1 = some (tyX5 k) := by decide +kernel
abbrev cX5_init : ByteArray := prog_7_method_1_code
def yX5_init : MethodName := ⟨RX5, "<init>", "()V"⟩
abbrev cX5_hold : ByteArray := prog_7_method_2_code
def yX5_hold : MethodName := ⟨RX5, "hold", "(II)V"⟩
abbrev cX5_isThere : ByteArray := prog_7_method_3_code
def yX5_isThere : MethodName := ⟨RX5, "isThere", "()Z"⟩
abbrev cX5_hasPlace : ByteArray := prog_7_method_4_code
def yX5_hasPlace : MethodName := ⟨RX5, "hasPlace", "(I)Z"⟩
abbrev cX5_hasStretch : ByteArray := prog_7_method_5_code
def yX5_hasStretch : MethodName := ⟨RX5, "hasStretch", "(II)Z"⟩
abbrev cX5_asItem : ByteArray := prog_7_method_6_code
def yX5_asItem : MethodName := ⟨RX5, "asItem", "(J)J"⟩
def RX6 : String := "OneFriend$Told"
def TX6 : u_T := fun k => match k with
  | 0 => ("OneFriend$Person", "kind", "I", true)
  | 1 => ("OneFriend$Person", "number", "I", true)
  | _ => ("OneFriend$Person", "v", "I", true)
def tyX6 : Nat → FieldType := fun k => match k with
  | 0 => .int
  | 1 => .int
  | _ => .int
abbrev wsX60 : List Cond := u_ws RX6 TX6 3
theorem nmX6 : ∀ a, a < 3 → ∀ b, b < 3 → a ≠ b → (TX6 a).2.1 ≠ (TX6 b).2.1 := by decide +kernel
theorem tyX6_ok : ∀ k, k < 3 → parseFieldDescriptor (TX6 k).2.2.1 = some (tyX6 k) := by decide +kernel
abbrev cX6_init : ByteArray := prog_8_method_1_code
def yX6_init : MethodName := ⟨RX6, "<init>", "(III)V"⟩
abbrev cX6_worth : ByteArray := prog_8_method_2_code
def yX6_worth : MethodName := ⟨RX6, "worth", "(LOneFriend$Village;Z)I"⟩
abbrev cX6_counts : ByteArray := prog_8_method_3_code
def yX6_counts : MethodName := ⟨RX6, "counts", "(ILOneFriend$Trace;)I"⟩
abbrev cX6_meets : ByteArray := prog_8_method_4_code
def yX6_meets : MethodName := ⟨RX6, "meets", "(ILOneFriend$Trace;)I"⟩
def RX7 : String := "OneFriend$Town"
def TX7 : u_T := fun k => match k with
  | 0 => ("OneFriend$Town", "place", "I", false)
  | 1 => ("OneFriend$Town", "text", "[B", true)
  | 2 => ("OneFriend$Town", "length", "I", false)
  | 3 => ("OneFriend$Town", "clauses", "I", false)
  | 4 => ("OneFriend$Town", "words", "[I", true)
  | 5 => ("OneFriend$Town", "numbers", "[I", true)
  | 6 => ("OneFriend$Town", "ends", "[I", true)
  | 7 => ("OneFriend$Town", "steps", "[I", true)
  | _ => ("OneFriend$Town", "stepCount", "I", false)
def tyX7 : Nat → FieldType := fun k => match k with
  | 0 => .int
  | 1 => .array .byte
  | 2 => .int
  | 3 => .int
  | 4 => .array .int
  | 5 => .array .int
  | 6 => .array .int
  | 7 => .array .int
  | _ => .int
abbrev wsX70 : List Cond := u_ws RX7 TX7 9
theorem nmX7 : ∀ a, a < 9 → ∀ b, b < 9 → a ≠ b → (TX7 a).2.1 ≠ (TX7 b).2.1 := by decide +kernel
theorem tyX7_ok : ∀ k, k < 9 → parseFieldDescriptor (TX7 k).2.2.1 = some (tyX7 k) := by decide +kernel
abbrev cX7_init : ByteArray := prog_9_method_1_code
def yX7_init : MethodName := ⟨RX7, "<init>", "()V"⟩
abbrev cX7_understands : ByteArray := prog_9_method_2_code
def yX7_understands : MethodName := ⟨RX7, "understands", "([BI)Z"⟩
abbrev cX7_takes : ByteArray := prog_9_method_3_code
def yX7_takes : MethodName := ⟨RX7, "takes", "(C)Z"⟩
abbrev cX7_takesClause : ByteArray := prog_9_method_4_code
def yX7_takesClause : MethodName := ⟨RX7, "takesClause", "(I)Z"⟩
abbrev cX7_takenWord : ByteArray := prog_9_method_5_code
def yX7_takenWord : MethodName := ⟨RX7, "takenWord", "()I"⟩
abbrev cX7_takesAll : ByteArray := prog_9_method_6_code
def yX7_takesAll : MethodName := ⟨RX7, "takesAll", "(Ljava/lang/String;)Z"⟩
abbrev cX7_takenNumber : ByteArray := prog_9_method_7_code
def yX7_takenNumber : MethodName := ⟨RX7, "takenNumber", "()I"⟩
abbrev cX7_takesEither : ByteArray := prog_9_method_8_code
def yX7_takesEither : MethodName := ⟨RX7, "takesEither", "(I)Z"⟩
abbrev cX7_takesBoth : ByteArray := prog_9_method_9_code
def yX7_takesBoth : MethodName := ⟨RX7, "takesBoth", "(I)Z"⟩
abbrev cX7_takesFactor : ByteArray := prog_9_method_10_code
def yX7_takesFactor : MethodName := ⟨RX7, "takesFactor", "(I)Z"⟩
abbrev cX7_takenOneOf : ByteArray := prog_9_method_11_code
def yX7_takenOneOf : MethodName := ⟨RX7, "takenOneOf", "(Ljava/lang/String;)I"⟩
abbrev cX7_keep : ByteArray := prog_9_method_12_code
def yX7_keep : MethodName := ⟨RX7, "keep", "(I)V"⟩
abbrev cX7_together : ByteArray := prog_9_method_13_code
def yX7_together : MethodName := ⟨RX7, "together", "(I[I)I"⟩
abbrev cX7_holds : ByteArray := prog_9_method_14_code
def yX7_holds : MethodName := ⟨RX7, "holds", "(I[I)Z"⟩
abbrev cX7_testHolds : ByteArray := prog_9_method_15_code
def yX7_testHolds : MethodName := ⟨RX7, "testHolds", "(I[I)Z"⟩
def RX8 : String := "OneFriend$Trace"
def TX8 : u_T := fun k => match k with
  | 0 => ("OneFriend$Trace", "bodies", "[I", true)
  | _ => ("OneFriend$Trace", "ran", "I", false)
def tyX8 : Nat → FieldType := fun k => match k with
  | 0 => .array .int
  | _ => .int
abbrev wsX80 : List Cond := u_ws RX8 TX8 2
theorem nmX8 : ∀ a, a < 2 → ∀ b, b < 2 → a ≠ b → (TX8 a).2.1 ≠ (TX8 b).2.1 := by decide +kernel
theorem tyX8_ok : ∀ k, k < 2 → parseFieldDescriptor (TX8 k).2.2.1 = some (tyX8 k) := by decide +kernel
abbrev cX8_init : ByteArray := prog_10_method_1_code
def yX8_init : MethodName := ⟨RX8, "<init>", "()V"⟩
abbrev cX8_begin : ByteArray := prog_10_method_2_code
def yX8_begin : MethodName := ⟨RX8, "begin", "(I)V"⟩
def RX9 : String := "OneFriend$Village"
def TX9 : u_T := fun k => match k with
  | 0 => ("OneFriend$Village", "size", "I", false)
  | 1 => ("OneFriend$Village", "here", "I", false)
  | 2 => ("OneFriend$Village", "years", "I", false)
  | 3 => ("OneFriend$Village", "town", "LOneFriend$Town;", false)
  | 4 => ("OneFriend$Village", "people", "[LOneFriend$Person;", true)
  | 5 => ("OneFriend$Village", "ties", "[I", true)
  | 6 => ("OneFriend$Village", "rows", "[I", true)
  | 7 => ("OneFriend$Village", "complaints", "[I", true)
  | 8 => ("OneFriend$Village", "wishes", "I", false)
  | 9 => ("OneFriend$Village", "wishPairs", "[I", true)
  | 10 => ("OneFriend$Village", "wishAre", "[I", true)
  | 11 => ("OneFriend$Village", "bookRows", "I", false)
  | 12 => ("OneFriend$Village", "bookPairs", "[I", true)
  | 13 => ("OneFriend$Village", "bookCommons", "[I", true)
  | _ => ("OneFriend$Village", "facts", "[I", true)
def tyX9 : Nat → FieldType := fun k => match k with
  | 0 => .int
  | 1 => .int
  | 2 => .int
  | 3 => .object "OneFriend$Town"
  | 4 => .array (.object "OneFriend$Person")
  | 5 => .array .int
  | 6 => .array .int
  | 7 => .array .int
  | 8 => .int
  | 9 => .array .int
  | 10 => .array .int
  | 11 => .int
  | 12 => .array .int
  | 13 => .array .int
  | _ => .array .int
abbrev wsX90 : List Cond := u_ws RX9 TX9 15
theorem nmX9 : ∀ a, a < 15 → ∀ b, b < 15 → a ≠ b → (TX9 a).2.1 ≠ (TX9 b).2.1 := by decide +kernel
theorem tyX9_ok : ∀ k, k < 15 → parseFieldDescriptor (TX9 k).2.2.1 = some (tyX9 k) := by decide +kernel
abbrev cX9_init : ByteArray := prog_11_method_1_code
def yX9_init : MethodName := ⟨RX9, "<init>", "()V"⟩
abbrev cX9_become : ByteArray := prog_11_method_2_code
def yX9_become : MethodName := ⟨RX9, "become", "(LOneFriend$Village;)V"⟩
abbrev cX9_hasPerson : ByteArray := prog_11_method_3_code
def yX9_hasPerson : MethodName := ⟨RX9, "hasPerson", "(I)Z"⟩
abbrev cX9_personAt : ByteArray := prog_11_method_4_code
def yX9_personAt : MethodName := ⟨RX9, "personAt", "(I)LOneFriend$Person;"⟩
abbrev cX9_join : ByteArray := prog_11_method_5_code
def yX9_join : MethodName := ⟨RX9, "join", "(LOneFriend$Person;)V"⟩
abbrev cX9_leave : ByteArray := prog_11_method_6_code
def yX9_leave : MethodName := ⟨RX9, "leave", "(I)V"⟩
abbrev cX9_areTied : ByteArray := prog_11_method_7_code
def yX9_areTied : MethodName := ⟨RX9, "areTied", "(II)Z"⟩
abbrev cX9_tie : ByteArray := prog_11_method_8_code
def yX9_tie : MethodName := ⟨RX9, "tie", "(IIZ)V"⟩
abbrev cX9_friendsOf : ByteArray := prog_11_method_9_code
def yX9_friendsOf : MethodName := ⟨RX9, "friendsOf", "(I)I"⟩
abbrev cX9_isEverybodys : ByteArray := prog_11_method_10_code
def yX9_isEverybodys : MethodName := ⟨RX9, "isEverybodys", "(I)Z"⟩
abbrev cX9_toldOf : ByteArray := prog_11_method_11_code
def yX9_toldOf : MethodName := ⟨RX9, "toldOf", "(I)I"⟩
abbrev cX9_withFriends : ByteArray := prog_11_method_12_code
def yX9_withFriends : MethodName := ⟨RX9, "withFriends", "(I)I"⟩
abbrev cX9_pairCount : ByteArray := prog_11_method_13_code
def yX9_pairCount : MethodName := ⟨RX9, "pairCount", "()I"⟩
abbrev cX9_hasPair : ByteArray := prog_11_method_14_code
def yX9_hasPair : MethodName := ⟨RX9, "hasPair", "(I)Z"⟩
abbrev cX9_areFriends : ByteArray := prog_11_method_15_code
def yX9_areFriends : MethodName := ⟨RX9, "areFriends", "(I)Z"⟩
abbrev cX9_change : ByteArray := prog_11_method_16_code
def yX9_change : MethodName := ⟨RX9, "change", "(I)V"⟩
abbrev cX9_friendships : ByteArray := prog_11_method_17_code
def yX9_friendships : MethodName := ⟨RX9, "friendships", "()I"⟩
abbrev cX9_commonOf : ByteArray := prog_11_method_18_code
def yX9_commonOf : MethodName := ⟨RX9, "commonOf", "(I)I"⟩
abbrev cX9_wantedOf : ByteArray := prog_11_method_19_code
def yX9_wantedOf : MethodName := ⟨RX9, "wantedOf", "(I)I"⟩
abbrev cX9_priceOf : ByteArray := prog_11_method_20_code
def yX9_priceOf : MethodName := ⟨RX9, "priceOf", "(I)I"⟩
abbrev cX9_asTownSays : ByteArray := prog_11_method_21_code
def yX9_asTownSays : MethodName := ⟨RX9, "asTownSays", "(II)I"⟩
abbrev cX9_amissBy : ByteArray := prog_11_method_22_code
def yX9_amissBy : MethodName := ⟨RX9, "amissBy", "(I)I"⟩
abbrev cX9_amissBits : ByteArray := prog_11_method_23_code
def yX9_amissBits : MethodName := ⟨RX9, "amissBits", "()I"⟩
abbrev cX9_howManyAmiss : ByteArray := prog_11_method_24_code
def yX9_howManyAmiss : MethodName := ⟨RX9, "howManyAmiss", "()I"⟩
abbrev cX9_amissTogether : ByteArray := prog_11_method_25_code
def yX9_amissTogether : MethodName := ⟨RX9, "amissTogether", "()I"⟩
abbrev cX9_isAllRight : ByteArray := prog_11_method_26_code
def yX9_isAllRight : MethodName := ⟨RX9, "isAllRight", "()Z"⟩
abbrev cX9_isAsComplained : ByteArray := prog_11_method_27_code
def yX9_isAsComplained : MethodName := ⟨RX9, "isAsComplained", "()Z"⟩
abbrev cX9_befriendAs : ByteArray := prog_11_method_28_code
def yX9_befriendAs : MethodName := ⟨RX9, "befriendAs", "(II)V"⟩
abbrev cX9_eachShares : ByteArray := prog_11_method_29_code
def yX9_eachShares : MethodName := ⟨RX9, "eachShares", "(II)Z"⟩
def RX10 : String := "OneFriend$Weighty"
def TX10 : u_T := fun k => match k with
  | 0 => ("OneFriend$Person", "kind", "I", true)
  | 1 => ("OneFriend$Person", "number", "I", true)
  | _ => ("OneFriend$Person", "v", "I", true)
def tyX10 : Nat → FieldType := fun k => match k with
  | 0 => .int
  | 1 => .int
  | _ => .int
abbrev wsX100 : List Cond := u_ws RX10 TX10 3
theorem nmX10 : ∀ a, a < 3 → ∀ b, b < 3 → a ≠ b → (TX10 a).2.1 ≠ (TX10 b).2.1 := by decide +kernel
theorem tyX10_ok : ∀ k, k < 3 → parseFieldDescriptor (TX10 k).2.2.1 = some (tyX10 k) := by decide +kernel
abbrev cX10_init : ByteArray := prog_12_method_1_code
def yX10_init : MethodName := ⟨RX10, "<init>", "(III)V"⟩
abbrev cX10_worth : ByteArray := prog_12_method_2_code
def yX10_worth : MethodName := ⟨RX10, "worth", "(LOneFriend$Village;Z)I"⟩
abbrev cX10_counts : ByteArray := prog_12_method_3_code
def yX10_counts : MethodName := ⟨RX10, "counts", "(ILOneFriend$Trace;)I"⟩
def RX11 : String := "OneFriend"
def TX11 : u_T := fun k => match k with
  | 0 => ("OneFriend", "now", "LOneFriend$Village;", true)
  | 1 => ("OneFriend", "image", "LOneFriend$Village;", true)
  | 2 => ("OneFriend", "trial", "LOneFriend$Village;", true)
  | 3 => ("OneFriend", "imaged", "Z", false)
  | 4 => ("OneFriend", "nextTown", "LOneFriend$Town;", false)
  | 5 => ("OneFriend", "townsMade", "I", false)
  | 6 => ("OneFriend", "text", "[B", true)
  | 7 => ("OneFriend", "textLength", "I", false)
  | 8 => ("OneFriend", "tapes", "[LOneFriend$Tape;", true)
  | 9 => ("OneFriend", "latest", "LOneFriend$Trace;", true)
  | 10 => ("OneFriend", "prices", "[I", true)
  | _ => ("OneFriend", "cheapestSet", "[I", true)
def tyX11 : Nat → FieldType := fun k => match k with
  | 0 => .object "OneFriend$Village"
  | 1 => .object "OneFriend$Village"
  | 2 => .object "OneFriend$Village"
  | 3 => .boolean
  | 4 => .object "OneFriend$Town"
  | 5 => .int
  | 6 => .array .byte
  | 7 => .int
  | 8 => .array (.object "OneFriend$Tape")
  | 9 => .object "OneFriend$Trace"
  | 10 => .array .int
  | _ => .array .int
abbrev wsX110 : List Cond := u_ws RX11 TX11 12
theorem nmX11 : ∀ a, a < 12 → ∀ b, b < 12 → a ≠ b → (TX11 a).2.1 ≠ (TX11 b).2.1 := by decide +kernel
theorem tyX11_ok : ∀ k, k < 12 → parseFieldDescriptor (TX11 k).2.2.1 = some (tyX11 k) := by decide +kernel
abbrev cX11_init : ByteArray := prog_1_method_1_code
def yX11_init : MethodName := ⟨RX11, "<init>", "()V"⟩
abbrev cX11_person : ByteArray := prog_1_method_2_code
def yX11_person : MethodName := ⟨RX11, "person", "(II)I"⟩
abbrev cX11_of : ByteArray := prog_1_method_3_code
def yX11_of : MethodName := ⟨RX11, "of", "(II)I"⟩
abbrev cX11_friends : ByteArray := prog_1_method_4_code
def yX11_friends : MethodName := ⟨RX11, "friends", "(IIZ)I"⟩
abbrev cX11_pair : ByteArray := prog_1_method_5_code
def yX11_pair : MethodName := ⟨RX11, "pair", "(II)I"⟩
abbrev cX11_at : ByteArray := prog_1_method_6_code
def yX11_at : MethodName := ⟨RX11, "at", "(II)I"⟩
abbrev cX11_row : ByteArray := prog_1_method_7_code
def yX11_row : MethodName := ⟨RX11, "row", "(III)I"⟩
abbrev cX11_feed : ByteArray := prog_1_method_8_code
def yX11_feed : MethodName := ⟨RX11, "feed", "(I)I"⟩
abbrev cX11_town : ByteArray := prog_1_method_9_code
def yX11_town : MethodName := ⟨RX11, "town", "()I"⟩
abbrev cX11_year : ByteArray := prog_1_method_10_code
def yX11_year : MethodName := ⟨RX11, "year", "()I"⟩
abbrev cX11_told : ByteArray := prog_1_method_11_code
def yX11_told : MethodName := ⟨RX11, "told", "(I)I"⟩
abbrev cX11_amiss : ByteArray := prog_1_method_12_code
def yX11_amiss : MethodName := ⟨RX11, "amiss", "(I)I"⟩
abbrev cX11_alls : ByteArray := prog_1_method_13_code
def yX11_alls : MethodName := ⟨RX11, "alls", "()I"⟩
abbrev cX11_first : ByteArray := prog_1_method_14_code
def yX11_first : MethodName := ⟨RX11, "first", "(I)I"⟩
abbrev cX11_cheapest : ByteArray := prog_1_method_15_code
def yX11_cheapest : MethodName := ⟨RX11, "cheapest", "(I)I"⟩
abbrev cX11_goes : ByteArray := prog_1_method_16_code
def yX11_goes : MethodName := ⟨RX11, "goes", "(I)I"⟩
abbrev cX11_befriends : ByteArray := prog_1_method_17_code
def yX11_befriends : MethodName := ⟨RX11, "befriends", "(III)I"⟩
abbrev cX11_complain : ByteArray := prog_1_method_18_code
def yX11_complain : MethodName := ⟨RX11, "complain", "(II)I"⟩
abbrev cX11_made : ByteArray := prog_1_method_19_code
def yX11_made : MethodName := ⟨RX11, "made", "()I"⟩
abbrev cX11_far : ByteArray := prog_1_method_20_code
def yX11_far : MethodName := ⟨RX11, "far", "(II)I"⟩
abbrev cX11_towns : ByteArray := prog_1_method_21_code
def yX11_towns : MethodName := ⟨RX11, "towns", "(II)I"⟩
abbrev cX11_next : ByteArray := prog_1_method_22_code
def yX11_next : MethodName := ⟨RX11, "next", "(II)I"⟩
abbrev cX11_odds : ByteArray := prog_1_method_23_code
def yX11_odds : MethodName := ⟨RX11, "odds", "(I)J"⟩
abbrev cX11_mean : ByteArray := prog_1_method_24_code
def yX11_mean : MethodName := ⟨RX11, "mean", "(I)J"⟩
abbrev cX11_wish : ByteArray := prog_1_method_25_code
def yX11_wish : MethodName := ⟨RX11, "wish", "(IZ)I"⟩
abbrev cX11_kept : ByteArray := prog_1_method_26_code
def yX11_kept : MethodName := ⟨RX11, "kept", "(I)I"⟩
abbrev cX11_book : ByteArray := prog_1_method_27_code
def yX11_book : MethodName := ⟨RX11, "book", "(II)I"⟩
abbrev cX11_looked : ByteArray := prog_1_method_28_code
def yX11_looked : MethodName := ⟨RX11, "looked", "()I"⟩
abbrev cX11_judge : ByteArray := prog_1_method_29_code
def yX11_judge : MethodName := ⟨RX11, "judge", "(II)I"⟩
abbrev cX11_image : ByteArray := prog_1_method_30_code
def yX11_image : MethodName := ⟨RX11, "image", "()I"⟩
abbrev cX11_undo : ByteArray := prog_1_method_31_code
def yX11_undo : MethodName := ⟨RX11, "undo", "()I"⟩
abbrev cX11_act : ByteArray := prog_1_method_32_code
def yX11_act : MethodName := ⟨RX11, "act", "(III)I"⟩
abbrev cX11_trace : ByteArray := prog_1_method_33_code
def yX11_trace : MethodName := ⟨RX11, "trace", "(I)I"⟩
abbrev cX11_taken : ByteArray := prog_1_method_34_code
def yX11_taken : MethodName := ⟨RX11, "taken", "(II)I"⟩
abbrev cX11_count : ByteArray := prog_1_method_35_code
def yX11_count : MethodName := ⟨RX11, "count", "(I)I"⟩
abbrev cX11_tape : ByteArray := prog_1_method_36_code
def yX11_tape : MethodName := ⟨RX11, "tape", "(III)I"⟩
abbrev cX11_item : ByteArray := prog_1_method_37_code
def yX11_item : MethodName := ⟨RX11, "item", "(IIJ)I"⟩
abbrev cX11_read : ByteArray := prog_1_method_38_code
def yX11_read : MethodName := ⟨RX11, "read", "(II)J"⟩
abbrev cX11_shift : ByteArray := prog_1_method_39_code
def yX11_shift : MethodName := ⟨RX11, "shift", "(IIIII)I"⟩
abbrev cX11_asNumber : ByteArray := prog_1_method_40_code
def yX11_asNumber : MethodName := ⟨RX11, "asNumber", "(Z)I"⟩
abbrev cX11_hasBit : ByteArray := prog_1_method_41_code
def yX11_hasBit : MethodName := ⟨RX11, "hasBit", "(II)Z"⟩
abbrev cX11_isTape : ByteArray := prog_1_method_42_code
def yX11_isTape : MethodName := ⟨RX11, "isTape", "(I)Z"⟩
abbrev cX11_newPerson : ByteArray := prog_1_method_43_code
def yX11_newPerson : MethodName := ⟨RX11, "newPerson", "(III)LOneFriend$Person;"⟩
abbrev cX11_isOfKind : ByteArray := prog_1_method_44_code
def yX11_isOfKind : MethodName := ⟨RX11, "isOfKind", "(LOneFriend$Person;I)Z"⟩
abbrev cX11_refusalOfTwo : ByteArray := prog_1_method_45_code
def yX11_refusalOfTwo : MethodName := ⟨RX11, "refusalOfTwo", "(II)I"⟩
abbrev cX11_complainsAmong : ByteArray := prog_1_method_46_code
def yX11_complainsAmong : MethodName := ⟨RX11, "complainsAmong", "(II)I"⟩
abbrev cX11_lowest : ByteArray := prog_1_method_47_code
def yX11_lowest : MethodName := ⟨RX11, "lowest", "(III)J"⟩
abbrev cX11_offer : ByteArray := prog_1_method_48_code
def yX11_offer : MethodName := ⟨RX11, "offer", "(IIII)V"⟩
def RX12 : String := "OneFriendModel"
def TX12 : u_T := fun k => match k with
  | 0 => ("OneFriendModel", "people", "I", false)
  | 1 => ("OneFriendModel", "years", "I", false)
  | 2 => ("OneFriendModel", "gone", "I", false)
  | 3 => ("OneFriendModel", "kind", "[I", true)
  | 4 => ("OneFriendModel", "v", "[I", true)
  | 5 => ("OneFriendModel", "known", "[I", true)
  | 6 => ("OneFriendModel", "rows", "[I", true)
  | 7 => ("OneFriendModel", "complaints", "[I", true)
  | 8 => ("OneFriendModel", "towns", "I", false)
  | 9 => ("OneFriendModel", "the", "I", false)
  | 10 => ("OneFriendModel", "fed", "I", false)
  | 11 => ("OneFriendModel", "at", "I", false)
  | 12 => ("OneFriendModel", "digits", "I", false)
  | 13 => ("OneFriendModel", "text", "[I", true)
  | 14 => ("OneFriendModel", "clauses", "[I", true)
  | 15 => ("OneFriendModel", "word", "[I", true)
  | 16 => ("OneFriendModel", "number", "[I", true)
  | 17 => ("OneFriendModel", "from", "[I", true)
  | 18 => ("OneFriendModel", "to", "[I", true)
  | 19 => ("OneFriendModel", "sign", "[I", true)
  | 20 => ("OneFriendModel", "waits", "[I", true)
  | 21 => ("OneFriendModel", "signs", "I", false)
  | 22 => ("OneFriendModel", "waiting", "I", false)
  | 23 => ("OneFriendModel", "open", "I", false)
  | 24 => ("OneFriendModel", "letters", "[I", true)
  | 25 => ("OneFriendModel", "pile", "[Z", true)
  | 26 => ("OneFriendModel", "amissSet", "I", false)
  | 27 => ("OneFriendModel", "amissSum", "I", false)
  | 28 => ("OneFriendModel", "complains", "[I", true)
  | 29 => ("OneFriendModel", "bestPrice", "I", false)
  | 30 => ("OneFriendModel", "bestMany", "I", false)
  | 31 => ("OneFriendModel", "bestOne", "I", false)
  | 32 => ("OneFriendModel", "bestOther", "I", false)
  | 33 => ("OneFriendModel", "plain", "[I", true)
  | 34 => ("OneFriendModel", "wishes", "I", false)
  | 35 => ("OneFriendModel", "books", "I", false)
  | 36 => ("OneFriendModel", "wishPair", "[I", true)
  | 37 => ("OneFriendModel", "bookPair", "[I", true)
  | 38 => ("OneFriendModel", "bookMany", "[I", true)
  | 39 => ("OneFriendModel", "wishAre", "[Z", true)
  | 40 => ("OneFriendModel", "hasImage", "Z", false)
  | 41 => ("OneFriendModel", "imageThe", "I", false)
  | 42 => ("OneFriendModel", "imagePeople", "I", false)
  | 43 => ("OneFriendModel", "imageYears", "I", false)
  | 44 => ("OneFriendModel", "imageWishes", "I", false)
  | 45 => ("OneFriendModel", "imageBooks", "I", false)
  | 46 => ("OneFriendModel", "imageKind", "[I", true)
  | 47 => ("OneFriendModel", "imageV", "[I", true)
  | 48 => ("OneFriendModel", "imageKnown", "[I", true)
  | 49 => ("OneFriendModel", "imageRows", "[I", true)
  | 50 => ("OneFriendModel", "imageComplaints", "[I", true)
  | 51 => ("OneFriendModel", "imageWish", "[I", true)
  | 52 => ("OneFriendModel", "imagePair", "[I", true)
  | 53 => ("OneFriendModel", "imageMany", "[I", true)
  | 54 => ("OneFriendModel", "imageAre", "[Z", true)
  | 55 => ("OneFriendModel", "ran", "I", false)
  | 56 => ("OneFriendModel", "bodies", "[I", true)
  | 57 => ("OneFriendModel", "sort", "[I", true)
  | 58 => ("OneFriendModel", "length", "[I", true)
  | 59 => ("OneFriendModel", "item", "[J", true)
  | _ => ("OneFriendModel", "aside", "[J", true)
def tyX12 : Nat → FieldType := fun k => match k with
  | 0 => .int
  | 1 => .int
  | 2 => .int
  | 3 => .array .int
  | 4 => .array .int
  | 5 => .array .int
  | 6 => .array .int
  | 7 => .array .int
  | 8 => .int
  | 9 => .int
  | 10 => .int
  | 11 => .int
  | 12 => .int
  | 13 => .array .int
  | 14 => .array .int
  | 15 => .array .int
  | 16 => .array .int
  | 17 => .array .int
  | 18 => .array .int
  | 19 => .array .int
  | 20 => .array .int
  | 21 => .int
  | 22 => .int
  | 23 => .int
  | 24 => .array .int
  | 25 => .array .boolean
  | 26 => .int
  | 27 => .int
  | 28 => .array .int
  | 29 => .int
  | 30 => .int
  | 31 => .int
  | 32 => .int
  | 33 => .array .int
  | 34 => .int
  | 35 => .int
  | 36 => .array .int
  | 37 => .array .int
  | 38 => .array .int
  | 39 => .array .boolean
  | 40 => .boolean
  | 41 => .int
  | 42 => .int
  | 43 => .int
  | 44 => .int
  | 45 => .int
  | 46 => .array .int
  | 47 => .array .int
  | 48 => .array .int
  | 49 => .array .int
  | 50 => .array .int
  | 51 => .array .int
  | 52 => .array .int
  | 53 => .array .int
  | 54 => .array .boolean
  | 55 => .int
  | 56 => .array .int
  | 57 => .array .int
  | 58 => .array .int
  | 59 => .array .long
  | _ => .array .long
abbrev wsX120 : List Cond := u_ws RX12 TX12 61
theorem nmX12 : ∀ a, a < 61 → ∀ b, b < 61 → a ≠ b → (TX12 a).2.1 ≠ (TX12 b).2.1 := by decide +kernel
theorem tyX12_ok : ∀ k, k < 61 → parseFieldDescriptor (TX12 k).2.2.1 = some (tyX12 k) := by decide +kernel
abbrev cX12_init : ByteArray := prog_14_method_1_code
def yX12_init : MethodName := ⟨RX12, "<init>", "()V"⟩
abbrev cX12_in : ByteArray := prog_14_method_2_code
def yX12_in : MethodName := ⟨RX12, "in", "(III)Z"⟩
abbrev cX12_has : ByteArray := prog_14_method_3_code
def yX12_has : MethodName := ⟨RX12, "has", "(II)Z"⟩
abbrev cX12_ones : ByteArray := prog_14_method_4_code
def yX12_ones : MethodName := ⟨RX12, "ones", "(I)I"⟩
abbrev cX12_isPerson : ByteArray := prog_14_method_5_code
def yX12_isPerson : MethodName := ⟨RX12, "isPerson", "(I)Z"⟩
abbrev cX12_pairs : ByteArray := prog_14_method_6_code
def yX12_pairs : MethodName := ⟨RX12, "pairs", "()I"⟩
abbrev cX12_isPair : ByteArray := prog_14_method_7_code
def yX12_isPair : MethodName := ⟨RX12, "isPair", "(I)Z"⟩
abbrev cX12_pairOf : ByteArray := prog_14_method_8_code
def yX12_pairOf : MethodName := ⟨RX12, "pairOf", "(II)I"⟩
abbrev cX12_greaterOf : ByteArray := prog_14_method_9_code
def yX12_greaterOf : MethodName := ⟨RX12, "greaterOf", "(I)I"⟩
abbrev cX12_lesserOf : ByteArray := prog_14_method_10_code
def yX12_lesserOf : MethodName := ⟨RX12, "lesserOf", "(I)I"⟩
abbrev cX12_lay : ByteArray := prog_14_method_11_code
def yX12_lay : MethodName := ⟨RX12, "lay", "(III)V"⟩
abbrev cX12_person : ByteArray := prog_14_method_12_code
def yX12_person : MethodName := ⟨RX12, "person", "(II)I"⟩
abbrev cX12_turns : ByteArray := prog_14_method_13_code
def yX12_turns : MethodName := ⟨RX12, "turns", "(II)V"⟩
abbrev cX12_friends : ByteArray := prog_14_method_14_code
def yX12_friends : MethodName := ⟨RX12, "friends", "(IIZ)I"⟩
abbrev cX12_pair : ByteArray := prog_14_method_15_code
def yX12_pair : MethodName := ⟨RX12, "pair", "(II)I"⟩
abbrev cX12_row : ByteArray := prog_14_method_16_code
def yX12_row : MethodName := ⟨RX12, "row", "(III)I"⟩
abbrev cX12_feed : ByteArray := prog_14_method_17_code
def yX12_feed : MethodName := ⟨RX12, "feed", "(I)I"⟩
abbrev cX12_peek : ByteArray := prog_14_method_18_code
def yX12_peek : MethodName := ⟨RX12, "peek", "()I"⟩
abbrev cX12_takes : ByteArray := prog_14_method_19_code
def yX12_takes : MethodName := ⟨RX12, "takes", "(I)Z"⟩
abbrev cX12_takesWord : ByteArray := prog_14_method_20_code
def yX12_takesWord : MethodName := ⟨RX12, "takesWord", "(II)Z"⟩
abbrev cX12_isDigit : ByteArray := prog_14_method_21_code
def yX12_isDigit : MethodName := ⟨RX12, "isDigit", "()Z"⟩
abbrev cX12_takesNumber : ByteArray := prog_14_method_22_code
def yX12_takesNumber : MethodName := ⟨RX12, "takesNumber", "()Z"⟩
abbrev cX12_emits : ByteArray := prog_14_method_23_code
def yX12_emits : MethodName := ⟨RX12, "emits", "(I)V"⟩
abbrev cX12_whole : ByteArray := prog_14_method_24_code
def yX12_whole : MethodName := ⟨RX12, "whole", "()V"⟩
abbrev cX12_settle : ByteArray := prog_14_method_25_code
def yX12_settle : MethodName := ⟨RX12, "settle", "(I)V"⟩
abbrev cX12_place : ByteArray := prog_14_method_26_code
def yX12_place : MethodName := ⟨RX12, "place", "(I)I"⟩
abbrev cX12_takesTest : ByteArray := prog_14_method_27_code
def yX12_takesTest : MethodName := ⟨RX12, "takesTest", "()Z"⟩
abbrev cX12_takesE : ByteArray := prog_14_method_28_code
def yX12_takesE : MethodName := ⟨RX12, "takesE", "(I)Z"⟩
abbrev cX12_takesHead : ByteArray := prog_14_method_29_code
def yX12_takesHead : MethodName := ⟨RX12, "takesHead", "(I)Z"⟩
abbrev cX12_takesClause : ByteArray := prog_14_method_30_code
def yX12_takesClause : MethodName := ⟨RX12, "takesClause", "(I)Z"⟩
abbrev cX12_goesText : ByteArray := prog_14_method_31_code
def yX12_goesText : MethodName := ⟨RX12, "goesText", "(I)Z"⟩
abbrev cX12_town : ByteArray := prog_14_method_32_code
def yX12_town : MethodName := ⟨RX12, "town", "()I"⟩
abbrev cX12_begin : ByteArray := prog_14_method_33_code
def yX12_begin : MethodName := ⟨RX12, "begin", "()I"⟩
abbrev cX12_behind : ByteArray := prog_14_method_34_code
def yX12_behind : MethodName := ⟨RX12, "behind", "()I"⟩
abbrev cX12_manyOf : ByteArray := prog_14_method_35_code
def yX12_manyOf : MethodName := ⟨RX12, "manyOf", "(I)I"⟩
abbrev cX12_factOf : ByteArray := prog_14_method_36_code
def yX12_factOf : MethodName := ⟨RX12, "factOf", "(III)I"⟩
abbrev cX12_holds : ByteArray := prog_14_method_37_code
def yX12_holds : MethodName := ⟨RX12, "holds", "(III)Z"⟩
abbrev cX12_sumOf : ByteArray := prog_14_method_38_code
def yX12_sumOf : MethodName := ⟨RX12, "sumOf", "(III)I"⟩
abbrev cX12_priceOf : ByteArray := prog_14_method_39_code
def yX12_priceOf : MethodName := ⟨RX12, "priceOf", "(II)I"⟩
abbrev cX12_isAlls : ByteArray := prog_14_method_40_code
def yX12_isAlls : MethodName := ⟨RX12, "isAlls", "(I)Z"⟩
abbrev cX12_counts : ByteArray := prog_14_method_41_code
def yX12_counts : MethodName := ⟨RX12, "counts", "(III)I"⟩
abbrev cX12_commonOf : ByteArray := prog_14_method_42_code
def yX12_commonOf : MethodName := ⟨RX12, "commonOf", "(II)I"⟩
abbrev cX12_offOf : ByteArray := prog_14_method_43_code
def yX12_offOf : MethodName := ⟨RX12, "offOf", "(II)I"⟩
abbrev cX12_layAmiss : ByteArray := prog_14_method_44_code
def yX12_layAmiss : MethodName := ⟨RX12, "layAmiss", "()I"⟩
abbrev cX12_of : ByteArray := prog_14_method_45_code
def yX12_of : MethodName := ⟨RX12, "of", "(II)I"⟩
abbrev cX12_at : ByteArray := prog_14_method_46_code
def yX12_at : MethodName := ⟨RX12, "at", "(II)I"⟩
abbrev cX12_friendships : ByteArray := prog_14_method_47_code
def yX12_friendships : MethodName := ⟨RX12, "friendships", "()I"⟩
abbrev cX12_year : ByteArray := prog_14_method_48_code
def yX12_year : MethodName := ⟨RX12, "year", "()I"⟩
abbrev cX12_told : ByteArray := prog_14_method_49_code
def yX12_told : MethodName := ⟨RX12, "told", "(I)I"⟩
abbrev cX12_amiss : ByteArray := prog_14_method_50_code
def yX12_amiss : MethodName := ⟨RX12, "amiss", "(I)I"⟩
abbrev cX12_alls : ByteArray := prog_14_method_51_code
def yX12_alls : MethodName := ⟨RX12, "alls", "()I"⟩
abbrev cX12_turn : ByteArray := prog_14_method_52_code
def yX12_turn : MethodName := ⟨RX12, "turn", "(I)V"⟩
abbrev cX12_amissBy : ByteArray := prog_14_method_53_code
def yX12_amissBy : MethodName := ⟨RX12, "amissBy", "(I)I"⟩
abbrev cX12_first : ByteArray := prog_14_method_54_code
def yX12_first : MethodName := ⟨RX12, "first", "(I)I"⟩
abbrev cX12_pricePair : ByteArray := prog_14_method_55_code
def yX12_pricePair : MethodName := ⟨RX12, "pricePair", "(I)I"⟩
abbrev cX12_take : ByteArray := prog_14_method_56_code
def yX12_take : MethodName := ⟨RX12, "take", "(IIII)V"⟩
abbrev cX12_layCheapest : ByteArray := prog_14_method_57_code
def yX12_layCheapest : MethodName := ⟨RX12, "layCheapest", "()V"⟩
abbrev cX12_cheapest : ByteArray := prog_14_method_58_code
def yX12_cheapest : MethodName := ⟨RX12, "cheapest", "(I)I"⟩
abbrev cX12_goes : ByteArray := prog_14_method_59_code
def yX12_goes : MethodName := ⟨RX12, "goes", "(I)I"⟩
abbrev cX12_befriends : ByteArray := prog_14_method_60_code
def yX12_befriends : MethodName := ⟨RX12, "befriends", "(III)I"⟩
abbrev cX12_complain : ByteArray := prog_14_method_61_code
def yX12_complain : MethodName := ⟨RX12, "complain", "(II)I"⟩
abbrev cX12_isTold : ByteArray := prog_14_method_62_code
def yX12_isTold : MethodName := ⟨RX12, "isTold", "()Z"⟩
abbrev cX12_made : ByteArray := prog_14_method_63_code
def yX12_made : MethodName := ⟨RX12, "made", "()I"⟩
abbrev cX12_far : ByteArray := prog_14_method_64_code
def yX12_far : MethodName := ⟨RX12, "far", "(II)I"⟩
abbrev cX12_isLawful : ByteArray := prog_14_method_65_code
def yX12_isLawful : MethodName := ⟨RX12, "isLawful", "(II)Z"⟩
abbrev cX12_towns : ByteArray := prog_14_method_66_code
def yX12_towns : MethodName := ⟨RX12, "towns", "(II)I"⟩
abbrev cX12_next : ByteArray := prog_14_method_67_code
def yX12_next : MethodName := ⟨RX12, "next", "(II)I"⟩
abbrev cX12_divisor : ByteArray := prog_14_method_68_code
def yX12_divisor : MethodName := ⟨RX12, "divisor", "(II)I"⟩
abbrev cX12_lowest : ByteArray := prog_14_method_69_code
def yX12_lowest : MethodName := ⟨RX12, "lowest", "(III)J"⟩
abbrev cX12_odds : ByteArray := prog_14_method_70_code
def yX12_odds : MethodName := ⟨RX12, "odds", "(I)J"⟩
abbrev cX12_mean : ByteArray := prog_14_method_71_code
def yX12_mean : MethodName := ⟨RX12, "mean", "(I)J"⟩
abbrev cX12_wish : ByteArray := prog_14_method_72_code
def yX12_wish : MethodName := ⟨RX12, "wish", "(IZ)I"⟩
abbrev cX12_kept : ByteArray := prog_14_method_73_code
def yX12_kept : MethodName := ⟨RX12, "kept", "(I)I"⟩
abbrev cX12_book : ByteArray := prog_14_method_74_code
def yX12_book : MethodName := ⟨RX12, "book", "(II)I"⟩
abbrev cX12_looked : ByteArray := prog_14_method_75_code
def yX12_looked : MethodName := ⟨RX12, "looked", "()I"⟩
abbrev cX12_judge : ByteArray := prog_14_method_76_code
def yX12_judge : MethodName := ⟨RX12, "judge", "(II)I"⟩
abbrev cX12_image : ByteArray := prog_14_method_77_code
def yX12_image : MethodName := ⟨RX12, "image", "()I"⟩
abbrev cX12_undo : ByteArray := prog_14_method_78_code
def yX12_undo : MethodName := ⟨RX12, "undo", "()I"⟩
abbrev cX12_body : ByteArray := prog_14_method_79_code
def yX12_body : MethodName := ⟨RX12, "body", "(I)V"⟩
abbrev cX12_personMeets : ByteArray := prog_14_method_80_code
def yX12_personMeets : MethodName := ⟨RX12, "personMeets", "(II)I"⟩
abbrev cX12_meetsAct : ByteArray := prog_14_method_81_code
def yX12_meetsAct : MethodName := ⟨RX12, "meetsAct", "(II)I"⟩
abbrev cX12_personCounts : ByteArray := prog_14_method_82_code
def yX12_personCounts : MethodName := ⟨RX12, "personCounts", "(II)I"⟩
abbrev cX12_weightyCounts : ByteArray := prog_14_method_83_code
def yX12_weightyCounts : MethodName := ⟨RX12, "weightyCounts", "(II)I"⟩
abbrev cX12_countsAct : ByteArray := prog_14_method_84_code
def yX12_countsAct : MethodName := ⟨RX12, "countsAct", "(II)I"⟩
abbrev cX12_personTells : ByteArray := prog_14_method_85_code
def yX12_personTells : MethodName := ⟨RX12, "personTells", "(II)I"⟩
abbrev cX12_tellsAct : ByteArray := prog_14_method_86_code
def yX12_tellsAct : MethodName := ⟨RX12, "tellsAct", "(II)I"⟩
abbrev cX12_act : ByteArray := prog_14_method_87_code
def yX12_act : MethodName := ⟨RX12, "act", "(III)I"⟩
abbrev cX12_trace : ByteArray := prog_14_method_88_code
def yX12_trace : MethodName := ⟨RX12, "trace", "(I)I"⟩
abbrev cX12_taken : ByteArray := prog_14_method_89_code
def yX12_taken : MethodName := ⟨RX12, "taken", "(II)I"⟩
abbrev cX12_count : ByteArray := prog_14_method_90_code
def yX12_count : MethodName := ⟨RX12, "count", "(I)I"⟩
abbrev cX12_isTape : ByteArray := prog_14_method_91_code
def yX12_isTape : MethodName := ⟨RX12, "isTape", "(I)Z"⟩
abbrev cX12_tape : ByteArray := prog_14_method_92_code
def yX12_tape : MethodName := ⟨RX12, "tape", "(III)I"⟩
abbrev cX12_narrow : ByteArray := prog_14_method_93_code
def yX12_narrow : MethodName := ⟨RX12, "narrow", "(IJ)J"⟩
abbrev cX12_item : ByteArray := prog_14_method_94_code
def yX12_item : MethodName := ⟨RX12, "item", "(IIJ)I"⟩
abbrev cX12_read : ByteArray := prog_14_method_95_code
def yX12_read : MethodName := ⟨RX12, "read", "(II)J"⟩
abbrev cX12_shift : ByteArray := prog_14_method_96_code
def yX12_shift : MethodName := ⟨RX12, "shift", "(IIIII)I"⟩
def RJx145de : String := "java/io/Serializable"
def TJx145de : u_T := fun k => match k with
  | _ => ("", "", "", false)
def tyJx145de : Nat → FieldType := fun k => match k with
  | _ => .int
abbrev wsJx145de0 : List Cond := u_ws RJx145de TJx145de 0
theorem nmJx145de : ∀ a, a < 0 → ∀ b, b < 0 → a ≠ b → (TJx145de a).2.1 ≠ (TJx145de b).2.1 := by decide +kernel
theorem tyJx145de_ok : ∀ k, k < 0 → parseFieldDescriptor (TJx145de k).2.2.1 = some (tyJx145de k) := by decide +kernel
def RJx9f9b0 : String := "java/lang/CharSequence"
def TJx9f9b0 : u_T := fun k => match k with
  | _ => ("", "", "", false)
def tyJx9f9b0 : Nat → FieldType := fun k => match k with
  | _ => .int
abbrev wsJx9f9b00 : List Cond := u_ws RJx9f9b0 TJx9f9b0 0
theorem nmJx9f9b0 : ∀ a, a < 0 → ∀ b, b < 0 → a ≠ b → (TJx9f9b0 a).2.1 ≠ (TJx9f9b0 b).2.1 := by decide +kernel
theorem tyJx9f9b0_ok : ∀ k, k < 0 → parseFieldDescriptor (TJx9f9b0 k).2.2.1 = some (tyJx9f9b0 k) := by decide +kernel
def RJ11 : String := "java/lang/Character"
def TJ11 : u_T := fun k => match k with
  | _ => ("", "", "", false)
def tyJ11 : Nat → FieldType := fun k => match k with
  | _ => .int
abbrev wsJ110 : List Cond := u_ws RJ11 TJ11 0
theorem nmJ11 : ∀ a, a < 0 → ∀ b, b < 0 → a ≠ b → (TJ11 a).2.1 ≠ (TJ11 b).2.1 := by decide +kernel
theorem tyJ11_ok : ∀ k, k < 0 → parseFieldDescriptor (TJ11 k).2.2.1 = some (tyJ11 k) := by decide +kernel
abbrev cJ11_isValidCodePoint_9a6ad : ByteArray := prog_15_method_11_code
def yJ11_isValidCodePoint_9a6ad : MethodName := ⟨RJ11, "isValidCodePoint", "(I)Z"⟩
abbrev cJ11_highSurrogate_5068e : ByteArray := prog_15_method_28_code
def yJ11_highSurrogate_5068e : MethodName := ⟨RJ11, "highSurrogate", "(I)C"⟩
abbrev cJ11_lowSurrogate_5068e : ByteArray := prog_15_method_29_code
def yJ11_lowSurrogate_5068e : MethodName := ⟨RJ11, "lowSurrogate", "(I)C"⟩
def RJxb160c : String := "java/lang/Comparable"
def TJxb160c : u_T := fun k => match k with
  | _ => ("", "", "", false)
def tyJxb160c : Nat → FieldType := fun k => match k with
  | _ => .int
abbrev wsJxb160c0 : List Cond := u_ws RJxb160c TJxb160c 0
theorem nmJxb160c : ∀ a, a < 0 → ∀ b, b < 0 → a ≠ b → (TJxb160c a).2.1 ≠ (TJxb160c b).2.1 := by decide +kernel
theorem tyJxb160c_ok : ∀ k, k < 0 → parseFieldDescriptor (TJxb160c k).2.2.1 = some (tyJxb160c k) := by decide +kernel
def RJ6 : String := "java/lang/Integer"
def TJ6 : u_T := fun k => match k with
  | _ => ("", "", "", false)
def tyJ6 : Nat → FieldType := fun k => match k with
  | _ => .int
abbrev wsJ60 : List Cond := u_ws RJ6 TJ6 0
theorem nmJ6 : ∀ a, a < 0 → ∀ b, b < 0 → a ≠ b → (TJ6 a).2.1 ≠ (TJ6 b).2.1 := by decide +kernel
theorem tyJ6_ok : ∀ k, k < 0 → parseFieldDescriptor (TJ6 k).2.2.1 = some (tyJ6 k) := by decide +kernel
abbrev cJ6_bitCount_0f7a4 : ByteArray := prog_16_method_49_code
def yJ6_bitCount_0f7a4 : MethodName := ⟨RJ6, "bitCount", "(I)I"⟩
def RJ9 : String := "java/lang/Math"
def TJ9 : u_T := fun k => match k with
  | _ => ("", "", "", false)
def tyJ9 : Nat → FieldType := fun k => match k with
  | _ => .int
abbrev wsJ90 : List Cond := u_ws RJ9 TJ9 0
theorem nmJ9 : ∀ a, a < 0 → ∀ b, b < 0 → a ≠ b → (TJ9 a).2.1 ≠ (TJ9 b).2.1 := by decide +kernel
theorem tyJ9_ok : ∀ k, k < 0 → parseFieldDescriptor (TJ9 k).2.2.1 = some (tyJ9 k) := by decide +kernel
abbrev cJ9_abs_0f7a4 : ByteArray := prog_17_method_59_code
def yJ9_abs_0f7a4 : MethodName := ⟨RJ9, "abs", "(I)I"⟩
abbrev cJ9_max_7cf53 : ByteArray := prog_17_method_65_code
def yJ9_max_7cf53 : MethodName := ⟨RJ9, "max", "(II)I"⟩
abbrev cJ9_min_7cf53 : ByteArray := prog_17_method_69_code
def yJ9_min_7cf53 : MethodName := ⟨RJ9, "min", "(II)I"⟩
def RJ0 : String := "java/lang/String"
def TJ0 : u_T := fun k => match k with
  | _ => ("", "", "", false)
def tyJ0 : Nat → FieldType := fun k => match k with
  | _ => .int
abbrev wsJ00 : List Cond := u_ws RJ0 TJ0 0
theorem nmJ0 : ∀ a, a < 0 → ∀ b, b < 0 → a ≠ b → (TJ0 a).2.1 ≠ (TJ0 b).2.1 := by decide +kernel
theorem tyJ0_ok : ∀ k, k < 0 → parseFieldDescriptor (TJ0 k).2.2.1 = some (tyJ0 k) := by decide +kernel
abbrev cJ0_length_8abf5 : ByteArray := prog_18_method_54_code
def yJ0_length_8abf5 : MethodName := ⟨RJ0, "length", "()I"⟩
abbrev cJ0_charAt_5068e : ByteArray := prog_18_method_56_code
def yJ0_charAt_5068e : MethodName := ⟨RJ0, "charAt", "(I)C"⟩
abbrev cJ0_indexOf_0f7a4 : ByteArray := prog_18_method_79_code
def yJ0_indexOf_0f7a4 : MethodName := ⟨RJ0, "indexOf", "(I)I"⟩
abbrev cJ0_indexOf_7cf53 : ByteArray := prog_18_method_80_code
def yJ0_indexOf_7cf53 : MethodName := ⟨RJ0, "indexOf", "(II)I"⟩
abbrev cJ0_coder_7d493 : ByteArray := prog_18_method_152_code
def yJ0_coder_7d493 : MethodName := ⟨RJ0, "coder", "()B"⟩
abbrev cJ0_isLatin1_aae02 : ByteArray := prog_18_method_154_code
def yJ0_isLatin1_aae02 : MethodName := ⟨RJ0, "isLatin1", "()Z"⟩
abbrev cJ0_checkIndex_df160 : ByteArray := prog_18_method_155_code
def yJ0_checkIndex_df160 : MethodName := ⟨RJ0, "checkIndex", "(II)V"⟩
abbrev cJ0_checkBoundsBeginEnd_23922 : ByteArray := prog_18_method_158_code
def yJ0_checkBoundsBeginEnd_23922 : MethodName := ⟨RJ0, "checkBoundsBeginEnd", "(III)V"⟩
def RJ1 : String := "java/lang/StringLatin1"
def TJ1 : u_T := fun k => match k with
  | _ => ("", "", "", false)
def tyJ1 : Nat → FieldType := fun k => match k with
  | _ => .int
abbrev wsJ10 : List Cond := u_ws RJ1 TJ1 0
theorem nmJ1 : ∀ a, a < 0 → ∀ b, b < 0 → a ≠ b → (TJ1 a).2.1 ≠ (TJ1 b).2.1 := by decide +kernel
theorem tyJ1_ok : ∀ k, k < 0 → parseFieldDescriptor (TJ1 k).2.2.1 = some (tyJ1 k) := by decide +kernel
abbrev cJ1_charAt_3b067 : ByteArray := prog_19_method_2_code
def yJ1_charAt_3b067 : MethodName := ⟨RJ1, "charAt", "([BI)C"⟩
abbrev cJ1_canEncode_9a6ad : ByteArray := prog_19_method_4_code
def yJ1_canEncode_9a6ad : MethodName := ⟨RJ1, "canEncode", "(I)Z"⟩
abbrev cJ1_indexOf_4cfef : ByteArray := prog_19_method_22_code
def yJ1_indexOf_4cfef : MethodName := ⟨RJ1, "indexOf", "([BIII)I"⟩
abbrev cJ1_indexOfChar_4cfef : ByteArray := prog_19_method_23_code
def yJ1_indexOfChar_4cfef : MethodName := ⟨RJ1, "indexOfChar", "([BIII)I"⟩
def RJ2 : String := "java/lang/StringUTF16"
def TJ2 : u_T := fun k => match k with
  | _ => ("", "", "", false)
def tyJ2 : Nat → FieldType := fun k => match k with
  | _ => .int
abbrev wsJ20 : List Cond := u_ws RJ2 TJ2 0
theorem nmJ2 : ∀ a, a < 0 → ∀ b, b < 0 → a ≠ b → (TJ2 a).2.1 ≠ (TJ2 b).2.1 := by decide +kernel
theorem tyJ2_ok : ∀ k, k < 0 → parseFieldDescriptor (TJ2 k).2.2.1 = some (tyJ2 k) := by decide +kernel
abbrev cJ2_getChar_3b067 : ByteArray := prog_20_method_5_code
def yJ2_getChar_3b067 : MethodName := ⟨RJ2, "getChar", "([BI)C"⟩
abbrev cJ2_length_9d52b : ByteArray := prog_20_method_6_code
def yJ2_length_9d52b : MethodName := ⟨RJ2, "length", "([B)I"⟩
abbrev cJ2_indexOf_4cfef : ByteArray := prog_20_method_40_code
def yJ2_indexOf_4cfef : MethodName := ⟨RJ2, "indexOf", "([BIII)I"⟩
abbrev cJ2_indexOfChar_4cfef : ByteArray := prog_20_method_47_code
def yJ2_indexOfChar_4cfef : MethodName := ⟨RJ2, "indexOfChar", "([BIII)I"⟩
abbrev cJ2_indexOfCharUnsafe_4cfef : ByteArray := prog_20_method_48_code
def yJ2_indexOfCharUnsafe_4cfef : MethodName := ⟨RJ2, "indexOfCharUnsafe", "([BIII)I"⟩
abbrev cJ2_indexOfSupplementary_4cfef : ByteArray := prog_20_method_49_code
def yJ2_indexOfSupplementary_4cfef : MethodName := ⟨RJ2, "indexOfSupplementary", "([BIII)I"⟩
abbrev cJ2_charAt_3b067 : ByteArray := prog_20_method_83_code
def yJ2_charAt_3b067 : MethodName := ⟨RJ2, "charAt", "([BI)C"⟩
abbrev cJ2_checkIndex_2214a : ByteArray := prog_20_method_91_code
def yJ2_checkIndex_2214a : MethodName := ⟨RJ2, "checkIndex", "(I[B)V"⟩
abbrev cJ2_checkBoundsBeginEnd_d044e : ByteArray := prog_20_method_93_code
def yJ2_checkBoundsBeginEnd_d044e : MethodName := ⟨RJ2, "checkBoundsBeginEnd", "(II[B)V"⟩
def RJ10 : String := "java/lang/System"
def TJ10 : u_T := fun k => match k with
  | _ => ("", "", "", false)
def tyJ10 : Nat → FieldType := fun k => match k with
  | _ => .int
abbrev wsJ100 : List Cond := u_ws RJ10 TJ10 0
theorem nmJ10 : ∀ a, a < 0 → ∀ b, b < 0 → a ≠ b → (TJ10 a).2.1 ≠ (TJ10 b).2.1 := by decide +kernel
theorem tyJ10_ok : ∀ k, k < 0 → parseFieldDescriptor (TJ10 k).2.2.1 = some (tyJ10 k) := by decide +kernel
def RJxfd54e : String := "java/lang/constant/Constable"
def TJxfd54e : u_T := fun k => match k with
  | _ => ("", "", "", false)
def tyJxfd54e : Nat → FieldType := fun k => match k with
  | _ => .int
abbrev wsJxfd54e0 : List Cond := u_ws RJxfd54e TJxfd54e 0
theorem nmJxfd54e : ∀ a, a < 0 → ∀ b, b < 0 → a ≠ b → (TJxfd54e a).2.1 ≠ (TJxfd54e b).2.1 := by decide +kernel
theorem tyJxfd54e_ok : ∀ k, k < 0 → parseFieldDescriptor (TJxfd54e k).2.2.1 = some (tyJxfd54e k) := by decide +kernel
def RJx3cf43 : String := "java/lang/constant/ConstantDesc"
def TJx3cf43 : u_T := fun k => match k with
  | _ => ("", "", "", false)
def tyJx3cf43 : Nat → FieldType := fun k => match k with
  | _ => .int
abbrev wsJx3cf430 : List Cond := u_ws RJx3cf43 TJx3cf43 0
theorem nmJx3cf43 : ∀ a, a < 0 → ∀ b, b < 0 → a ≠ b → (TJx3cf43 a).2.1 ≠ (TJx3cf43 b).2.1 := by decide +kernel
theorem tyJx3cf43_ok : ∀ k, k < 0 → parseFieldDescriptor (TJx3cf43 k).2.2.1 = some (tyJx3cf43 k) := by decide +kernel
def RJ7 : String := "java/util/Arrays"
def TJ7 : u_T := fun k => match k with
  | _ => ("", "", "", false)
def tyJ7 : Nat → FieldType := fun k => match k with
  | _ => .int
abbrev wsJ70 : List Cond := u_ws RJ7 TJ7 0
theorem nmJ7 : ∀ a, a < 0 → ∀ b, b < 0 → a ≠ b → (TJ7 a).2.1 ≠ (TJ7 b).2.1 := by decide +kernel
theorem tyJ7_ok : ∀ k, k < 0 → parseFieldDescriptor (TJ7 k).2.2.1 = some (tyJ7 k) := by decide +kernel
abbrev cJ7_fill_d0a16 : ByteArray := prog_22_method_101_code
def yJ7_fill_d0a16 : MethodName := ⟨RJ7, "fill", "([JJ)V"⟩
abbrev cJ7_fill_53178 : ByteArray := prog_22_method_103_code
def yJ7_fill_53178 : MethodName := ⟨RJ7, "fill", "([II)V"⟩
def RJ3 : String := "jdk/internal/util/Preconditions"
def TJ3 : u_T := fun k => match k with
  | _ => ("", "", "", false)
def tyJ3 : Nat → FieldType := fun k => match k with
  | _ => .int
abbrev wsJ30 : List Cond := u_ws RJ3 TJ3 0
theorem nmJ3 : ∀ a, a < 0 → ∀ b, b < 0 → a ≠ b → (TJ3 a).2.1 ≠ (TJ3 b).2.1 := by decide +kernel
theorem tyJ3_ok : ∀ k, k < 0 → parseFieldDescriptor (TJ3 k).2.2.1 = some (tyJ3 k) := by decide +kernel
abbrev cJ3_checkIndex_8e157 : ByteArray := prog_23_method_11_code
def yJ3_checkIndex_8e157 : MethodName := ⟨RJ3, "checkIndex", "(IILjava/util/function/BiFunction;)I"⟩
abbrev cJ3_checkFromToIndex_8c36e : ByteArray := prog_23_method_12_code
def yJ3_checkFromToIndex_8c36e : MethodName := ⟨RJ3, "checkFromToIndex", "(IIILjava/util/function/BiFunction;)I"⟩
def RL : String := "OneFriendLaw"
abbrev cL_law : ByteArray := code
def yL_law : MethodName := ⟨RL, "law", "([I)Z"⟩
abbrev vwCl : List vw_C := [(RX0, TX0, 3), (RX1, TX1, 3), (RX2, TX2, 3), (RX3, TX3, 3), (RX4, TX4, 3), (RX5, TX5, 3), (RX6, TX6, 3), (RX7, TX7, 9), (RX8, TX8, 2), (RX9, TX9, 15), (RX10, TX10, 3), (RX11, TX11, 12), (RX12, TX12, 61)]
theorem inX0 : ∀ w ∈ wsX00, w ∈ lw_tbl := by decide +kernel
theorem inX1 : ∀ w ∈ wsX10, w ∈ lw_tbl := by decide +kernel
theorem inX2 : ∀ w ∈ wsX20, w ∈ lw_tbl := by decide +kernel
theorem inX3 : ∀ w ∈ wsX30, w ∈ lw_tbl := by decide +kernel
theorem inX4 : ∀ w ∈ wsX40, w ∈ lw_tbl := by decide +kernel
theorem inX5 : ∀ w ∈ wsX50, w ∈ lw_tbl := by decide +kernel
theorem inX6 : ∀ w ∈ wsX60, w ∈ lw_tbl := by decide +kernel
theorem inX7 : ∀ w ∈ wsX70, w ∈ lw_tbl := by decide +kernel
theorem inX8 : ∀ w ∈ wsX80, w ∈ lw_tbl := by decide +kernel
theorem inX9 : ∀ w ∈ wsX90, w ∈ lw_tbl := by decide +kernel
theorem inX10 : ∀ w ∈ wsX100, w ∈ lw_tbl := by decide +kernel
theorem inX11 : ∀ w ∈ wsX110, w ∈ lw_tbl := by decide +kernel
theorem inX12 : ∀ w ∈ wsX120, w ∈ lw_tbl := by decide +kernel
end
section
/-! THE PURE MEMORY. A run's objects and arrays have numbers (handles) in the order of their making; what they hold: ints, longs, handles, by handle and place. -/
abbrev v_TY : Type := Nat → Nat × Nat
abbrev v_MM : Type := (Nat × v_TY) × (Nat → Nat → Int32) × (Nat → Nat → Int64) × (Nat → Nat → Option Nat)
/-- what stays the same in a whole run: the classes' numbers and slots; the arrays' classes; the first address; the addresses of what was there before (statics' arrays, texts) -/
abbrev v_G : Type := va_G × (Nat → ClassId) × Nat × (Nat → Nat)
def v_ad (G : v_G) (h : Nat) : Nat := if h < 1000000 then G.2.2.1 + h else G.2.2.2 (h - 1000000)
def v_tv (G : v_G) : Value → Value
  | .ref a => .ref (v_ad G a)
  | v => v
theorem v_tv_int (G : v_G) (x : Int32) : v_tv G (.int x) = .int x := rfl
theorem v_tv_long (G : v_G) (x : Int64) : v_tv G (.long x) = .long x := rfl
theorem v_tv_ref (G : v_G) (a : Nat) : v_tv G (.ref a) = .ref (v_ad G a) := rfl
theorem v_tv_rf (G : v_G) (r : Option Nat) : v_tv G (va_rf r) = va_rf (r.map (v_ad G)) := by cases r <;> rfl
theorem v_tv_cat (G : v_G) (v : Value) : (v_tv G v).category = v.category := by cases v <;> rfl
/-- the fields of a class that are references -/
def v_fl (k : Nat) : List Bool := match k with
  | 0 => [false, false, false]
  | 1 => [false, false, false]
  | 2 => [false, false, false]
  | 3 => [false, false, false]
  | 4 => [false, false, false]
  | 5 => [false, false, true]
  | 6 => [false, false, false]
  | 7 => [false, true, false, false, true, true, true, true, false]
  | 8 => [true, false]
  | 9 => [false, false, false, true, true, true, true, true, false, true, true, false, true, true, true]
  | 10 => [false, false, false]
  | 11 => [true, true, true, false, true, false, true, false, true, true, true, true]
  | 12 => [false, false, false, true, true, true, true, true, false, false, false, false, false, true, true, true, true, true, true, true, true, false, false, false, true, true, false, false, true, false, false, false, false, true, false, false, true, true, true, true, false, false, false, false, false, false, true, true, true, true, true, true, true, true, true, false, true, true, true, true, true]
  | _ => []
def v_fs (G : v_G) (I : Nat → Nat → Int32) (R : Nat → Nat → Option Nat) (h k : Nat) : List Value := (v_fl k).mapIdx (fun j b => if b then va_rf ((R h j).map (v_ad G)) else .int (I h j))
def v_cell (G : v_G) (K : Nat × v_TY) (I : Nat → Nat → Int32) (J : Nat → Nat → Int64) (R : Nat → Nat → Option Nat) (h : Nat) : va_E :=
  if (K.2 h).1 < 13 then .inr ((K.2 h).1, v_fs G I R h (K.2 h).1)
  else if (K.2 h).1 = 15 then .inl (G.2.1 (K.2 h).1, (K.2 h).2, .inr (.inl (J h)))
  else if (K.2 h).1 < 17 then .inl (G.2.1 (K.2 h).1, (K.2 h).2, .inl (I h))
  else .inl (G.2.1 (K.2 h).1, (K.2 h).2, .inr (.inr (.inr (.inr (fun j => (R h j).map (v_ad G))))))
def v_ws (G : v_G) (M : v_MM) : va_W := (List.range M.1.1).map (fun h => (v_ad G h, v_cell G M.1 M.2.1 M.2.2.1 M.2.2.2 h))
def v_A (G : v_G) : Nat → Prop := fun q => G.2.2.1 ≤ q
abbrev v_ty (G : v_G) : List (ClassId × FieldType) := [(G.2.1 13, .byte), (G.2.1 14, .int), (G.2.1 15, .long), (G.2.1 16, .boolean), (G.2.1 17, .object "OneFriend$Person"), (G.2.1 18, .object "OneFriend$Tape")]
def v_u {α : Type} (f : Nat → Nat → α) (h k : Nat) (x : α) : Nat → Nat → α := fun a b => if a = h ∧ b = k then x else f a b
theorem v_u_same {α : Type} {f : Nat → Nat → α} {h k : Nat} {x : α} : v_u f h k x h k = x := by simp [v_u]
theorem v_u_h {α : Type} {f : Nat → Nat → α} {h k a b : Nat} {x : α} (n : a ≠ h) : v_u f h k x a b = f a b := by simp [v_u, n]
theorem v_u_k {α : Type} {f : Nat → Nat → α} {h k a b : Nat} {x : α} (n : b ≠ k) : v_u f h k x a b = f a b := by simp [v_u, n]
theorem v_ws_len (G : v_G) (M : v_MM) : (v_ws G M).length = M.1.1 := by simp [v_ws]
theorem v_ws_at {G : v_G} {M : v_MM} {h : Nat} (hh : h < M.1.1) : (v_ws G M)[h]? = some (v_ad G h, v_cell G M.1 M.2.1 M.2.2.1 M.2.2.2 h) := by
  simp [v_ws, hh]
theorem v_ws_set {G : v_G} {K : Nat × v_TY} {I I' : Nat → Nat → Int32} {J J' : Nat → Nat → Int64} {R R' : Nat → Nat → Option Nat} {h : Nat} {e : va_E} (he : v_cell G K I' J' R' h = e) (hne : ∀ a, a ≠ h → v_cell G K I' J' R' a = v_cell G K I J R a) :
    (v_ws G (K, I, J, R)).set h (v_ad G h, e) = v_ws G (K, I', J', R') := by
  subst he
  apply List.ext_getElem?
  intro i
  by_cases hi : i < K.1
  · by_cases hih : i = h
    · subst hih
      rw [List.getElem?_set_self (by simp [v_ws, hi])]
      simp [v_ws, hi]
    · rw [List.getElem?_set_ne (Ne.symm hih)]
      simp [v_ws, hi, hne i hih]
  · rw [List.getElem?_eq_none (by simp [v_ws]; omega), List.getElem?_eq_none (by simp [v_ws]; omega)]
theorem v_ad_lt {G : v_G} {h : Nat} (hh : h < 1000000) : v_ad G h = G.2.2.1 + h := by simp [v_ad, hh]
theorem v_D {G : v_G} {M : v_MM} (hn : M.1.1 ≤ 1000000) : va_D (v_A G) (v_ws G M) := by
  have key : ∀ (i : Nat) (p : Nat × va_E), (v_ws G M)[i]? = some p → i < M.1.1 ∧ p.1 = G.2.2.1 + i := by
    intro i p hp
    have hi : i < M.1.1 := by
      have := (List.getElem?_eq_some_iff.mp hp).1
      rwa [v_ws_len] at this
    rw [v_ws_at hi] at hp
    cases hp
    exact ⟨hi, v_ad_lt (by omega)⟩
  refine ⟨fun i j p q hp hq e => ?_, fun k q hq => ?_⟩
  · have h1 := key i p hp
    have h2 := key j q hq
    rw [h1.2, h2.2] at e
    omega
  · have h1 := key k q hq
    show G.2.2.1 ≤ q.1
    rw [h1.2]; omega
/-- a handle's kind and length -/
def v_is (K : Nat × v_TY) (h k n : Nat) : Prop := h < K.1 ∧ K.2 h = (k, n)
theorem v_at_obj {G : v_G} {K : Nat × v_TY} {I : Nat → Nat → Int32} {J : Nat → Nat → Int64} {R : Nat → Nat → Option Nat} {h k n : Nat} (hi : v_is K h k n) (hk : k < 13) : (v_ws G (K, I, J, R))[h]? = some (v_ad G h, .inr (k, v_fs G I R h k)) := by
  rw [v_ws_at hi.1]
  simp [v_cell, hi.2, hk]
theorem v_at_int {G : v_G} {K : Nat × v_TY} {I : Nat → Nat → Int32} {J : Nat → Nat → Int64} {R : Nat → Nat → Option Nat} {h k n : Nat} (hi : v_is K h k n) (hk : k = 13 ∨ k = 14 ∨ k = 16) : (v_ws G (K, I, J, R))[h]? = some (v_ad G h, .inl (G.2.1 k, n, .inl (I h))) := by
  rw [v_ws_at hi.1]
  rcases hk with rfl | rfl | rfl <;> simp [v_cell, hi.2]
theorem v_at_long {G : v_G} {K : Nat × v_TY} {I : Nat → Nat → Int32} {J : Nat → Nat → Int64} {R : Nat → Nat → Option Nat} {h n : Nat} (hi : v_is K h 15 n) : (v_ws G (K, I, J, R))[h]? = some (v_ad G h, .inl (G.2.1 15, n, .inr (.inl (J h)))) := by
  rw [v_ws_at hi.1]
  simp [v_cell, hi.2]
theorem v_at_ref {G : v_G} {K : Nat × v_TY} {I : Nat → Nat → Int32} {J : Nat → Nat → Int64} {R : Nat → Nat → Option Nat} {h k n : Nat} (hi : v_is K h k n) (hk : k = 17 ∨ k = 18) : (v_ws G (K, I, J, R))[h]? = some (v_ad G h, .inl (G.2.1 k, n, .inr (.inr (.inr (.inr (fun j => (R h j).map (v_ad G))))))) := by
  rw [v_ws_at hi.1]
  rcases hk with rfl | rfl <;> simp [v_cell, hi.2]
end
section
/-! WHAT THE TABLES SAY: words, and what each kind of entry asks of them -/
def wsG : List Cond := lw_tbl.filter goodWord
def v_kn : Cond → Bool
  | .methodLinkNest .. => true
  | .fieldLinkNest .. => true
  | .castable .. => true
  | .declares .. => true
  | .arrayOver (.object _) => true
  | _ => false
def wsN : List Cond := lw_tbl.filter v_kn
theorem v_in {w : Cond} (i : Nat) (h : (decide (lw_tbl[i]? = some w) && goodWord w) = true) : w ∈ wsG := by
  simp only [Bool.and_eq_true, decide_eq_true_eq] at h
  exact List.mem_filter.mpr ⟨List.mem_of_getElem? h.1, h.2⟩
theorem v_inN {w : Cond} (i : Nat) (h : (decide (lw_tbl[i]? = some w) && v_kn w) = true) : w ∈ wsN := by
  simp only [Bool.and_eq_true, decide_eq_true_eq] at h
  exact List.mem_filter.mpr ⟨List.mem_of_getElem? h.1, h.2⟩
theorem v_good {w : Cond} (h : w ∈ wsG) : (w.onTables && w.keeps) = true ∨ ∃ ty, w = .arrayClass ty := good_of_word (List.mem_filter.mp h).2
theorem v_lay {ws : List Cond} (h : ∀ w ∈ ws, w ∈ lw_tbl) (hg : ws.all goodWord = true) : ∀ w ∈ ws, w ∈ wsG := fun w hw => List.mem_filter.mpr ⟨h w hw, List.all_eq_true.mp hg w hw⟩
theorem v_i1 {w : Cond} (i : Nat) (h : (decide (tables_1_1[i]? = some w) && goodWord w) = true) : w ∈ wsG := by
  simp only [Bool.and_eq_true, decide_eq_true_eq] at h
  exact List.mem_filter.mpr ⟨List.mem_append_right _ (List.mem_append_left _ (List.mem_of_getElem? h.1)), h.2⟩
theorem v_j1 {w : Cond} (i : Nat) (h : (decide (tables_1_1[i]? = some w) && v_kn w) = true) : w ∈ wsN := by
  simp only [Bool.and_eq_true, decide_eq_true_eq] at h
  exact List.mem_filter.mpr ⟨List.mem_append_right _ (List.mem_append_left _ (List.mem_of_getElem? h.1)), h.2⟩
theorem v_i2 {w : Cond} (i : Nat) (h : (decide (tables_1_2[i]? = some w) && goodWord w) = true) : w ∈ wsG := by
  simp only [Bool.and_eq_true, decide_eq_true_eq] at h
  exact List.mem_filter.mpr ⟨List.mem_append_right _ (List.mem_append_right _ (List.mem_append_left _ (List.mem_of_getElem? h.1))), h.2⟩
theorem v_j2 {w : Cond} (i : Nat) (h : (decide (tables_1_2[i]? = some w) && v_kn w) = true) : w ∈ wsN := by
  simp only [Bool.and_eq_true, decide_eq_true_eq] at h
  exact List.mem_filter.mpr ⟨List.mem_append_right _ (List.mem_append_right _ (List.mem_append_left _ (List.mem_of_getElem? h.1))), h.2⟩
theorem v_i3 {w : Cond} (i : Nat) (h : (decide (tables_1_3[i]? = some w) && goodWord w) = true) : w ∈ wsG := by
  simp only [Bool.and_eq_true, decide_eq_true_eq] at h
  exact List.mem_filter.mpr ⟨List.mem_append_right _ (List.mem_append_right _ (List.mem_append_right _ (List.mem_append_left _ (List.mem_of_getElem? h.1)))), h.2⟩
theorem v_j3 {w : Cond} (i : Nat) (h : (decide (tables_1_3[i]? = some w) && v_kn w) = true) : w ∈ wsN := by
  simp only [Bool.and_eq_true, decide_eq_true_eq] at h
  exact List.mem_filter.mpr ⟨List.mem_append_right _ (List.mem_append_right _ (List.mem_append_right _ (List.mem_append_left _ (List.mem_of_getElem? h.1)))), h.2⟩
theorem v_i4 {w : Cond} (i : Nat) (h : (decide (tables_1_4[i]? = some w) && goodWord w) = true) : w ∈ wsG := by
  simp only [Bool.and_eq_true, decide_eq_true_eq] at h
  exact List.mem_filter.mpr ⟨List.mem_append_right _ (List.mem_append_right _ (List.mem_append_right _ (List.mem_append_right _ (List.mem_append_left _ (List.mem_of_getElem? h.1))))), h.2⟩
theorem v_j4 {w : Cond} (i : Nat) (h : (decide (tables_1_4[i]? = some w) && v_kn w) = true) : w ∈ wsN := by
  simp only [Bool.and_eq_true, decide_eq_true_eq] at h
  exact List.mem_filter.mpr ⟨List.mem_append_right _ (List.mem_append_right _ (List.mem_append_right _ (List.mem_append_right _ (List.mem_append_left _ (List.mem_of_getElem? h.1))))), h.2⟩
theorem v_i5 {w : Cond} (i : Nat) (h : (decide (tables_1_5[i]? = some w) && goodWord w) = true) : w ∈ wsG := by
  simp only [Bool.and_eq_true, decide_eq_true_eq] at h
  exact List.mem_filter.mpr ⟨List.mem_append_right _ (List.mem_append_right _ (List.mem_append_right _ (List.mem_append_right _ (List.mem_append_right _ (List.mem_append_left _ (List.mem_of_getElem? h.1)))))), h.2⟩
theorem v_j5 {w : Cond} (i : Nat) (h : (decide (tables_1_5[i]? = some w) && v_kn w) = true) : w ∈ wsN := by
  simp only [Bool.and_eq_true, decide_eq_true_eq] at h
  exact List.mem_filter.mpr ⟨List.mem_append_right _ (List.mem_append_right _ (List.mem_append_right _ (List.mem_append_right _ (List.mem_append_right _ (List.mem_append_left _ (List.mem_of_getElem? h.1)))))), h.2⟩
theorem v_i6 {w : Cond} (i : Nat) (h : (decide (tables_1_6[i]? = some w) && goodWord w) = true) : w ∈ wsG := by
  simp only [Bool.and_eq_true, decide_eq_true_eq] at h
  exact List.mem_filter.mpr ⟨List.mem_append_right _ (List.mem_append_right _ (List.mem_append_right _ (List.mem_append_right _ (List.mem_append_right _ (List.mem_append_right _ (List.mem_append_left _ (List.mem_of_getElem? h.1))))))), h.2⟩
theorem v_j6 {w : Cond} (i : Nat) (h : (decide (tables_1_6[i]? = some w) && v_kn w) = true) : w ∈ wsN := by
  simp only [Bool.and_eq_true, decide_eq_true_eq] at h
  exact List.mem_filter.mpr ⟨List.mem_append_right _ (List.mem_append_right _ (List.mem_append_right _ (List.mem_append_right _ (List.mem_append_right _ (List.mem_append_right _ (List.mem_append_left _ (List.mem_of_getElem? h.1))))))), h.2⟩
theorem v_i7 {w : Cond} (i : Nat) (h : (decide (tables_1_7[i]? = some w) && goodWord w) = true) : w ∈ wsG := by
  simp only [Bool.and_eq_true, decide_eq_true_eq] at h
  exact List.mem_filter.mpr ⟨List.mem_append_right _ (List.mem_append_right _ (List.mem_append_right _ (List.mem_append_right _ (List.mem_append_right _ (List.mem_append_right _ (List.mem_append_right _ (List.mem_of_getElem? h.1))))))), h.2⟩
theorem v_j7 {w : Cond} (i : Nat) (h : (decide (tables_1_7[i]? = some w) && v_kn w) = true) : w ∈ wsN := by
  simp only [Bool.and_eq_true, decide_eq_true_eq] at h
  exact List.mem_filter.mpr ⟨List.mem_append_right _ (List.mem_append_right _ (List.mem_append_right _ (List.mem_append_right _ (List.mem_append_right _ (List.mem_append_right _ (List.mem_append_right _ (List.mem_of_getElem? h.1))))))), h.2⟩
theorem igX0 : ∀ w ∈ wsX00, w ∈ wsG := v_lay inX0 (by decide +kernel)
theorem igX1 : ∀ w ∈ wsX10, w ∈ wsG := v_lay inX1 (by decide +kernel)
theorem igX2 : ∀ w ∈ wsX20, w ∈ wsG := v_lay inX2 (by decide +kernel)
theorem igX3 : ∀ w ∈ wsX30, w ∈ wsG := v_lay inX3 (by decide +kernel)
theorem igX4 : ∀ w ∈ wsX40, w ∈ wsG := v_lay inX4 (by decide +kernel)
theorem igX5 : ∀ w ∈ wsX50, w ∈ wsG := v_lay inX5 (by decide +kernel)
theorem igX6 : ∀ w ∈ wsX60, w ∈ wsG := v_lay inX6 (by decide +kernel)
theorem igX7 : ∀ w ∈ wsX70, w ∈ wsG := v_lay inX7 (by decide +kernel)
theorem igX8 : ∀ w ∈ wsX80, w ∈ wsG := v_lay inX8 (by decide +kernel)
theorem igX9 : ∀ w ∈ wsX90, w ∈ wsG := v_lay inX9 (by decide +kernel)
theorem igX10 : ∀ w ∈ wsX100, w ∈ wsG := v_lay inX10 (by decide +kernel)
theorem igX11 : ∀ w ∈ wsX110, w ∈ wsG := v_lay inX11 (by decide +kernel)
theorem igX12 : ∀ w ∈ wsX120, w ∈ wsG := v_lay inX12 (by decide +kernel)
/-- how the class of number ci, seen from the class own by its entry idx, holds the field k (a reference: b) -/
def v_fg (own : String) (idx ci k : Nat) (b : Bool) : Prop :=
  ∃ (C : String) (T : u_T) (N : Nat) (ref : String), vwCl[ci]? = some (C, T, N) ∧ (∀ w ∈ u_ws C T N, w ∈ wsG) ∧ k < N ∧ Cond.fieldLink own idx ref (T k).2.1 (T k).2.2.1 ∈ wsG ∧ (ref = (T k).1 ∨ Cond.sameField ref (T k).1 (T k).2.1 (T k).2.2.1 ∈ wsG) ∧ (v_fl ci)[k]? = some b ∧ ci < 13
def v_pg (own : String) (idx ci k : Nat) (b : Bool) (ty : FieldType) (fin : Bool) : Prop :=
  ∃ (C : String) (T : u_T) (N : Nat) (ref : String) (ty0 : Nat → FieldType), vwCl[ci]? = some (C, T, N) ∧ (∀ w ∈ u_ws C T N, w ∈ wsG) ∧ k < N ∧ Cond.fieldLink own idx ref (T k).2.1 (T k).2.2.1 ∈ wsG ∧ ref = (T k).1 ∧ (v_fl ci)[k]? = some b ∧ ci < 13 ∧
    (∀ j, j < N → parseFieldDescriptor (T j).2.2.1 = some (ty0 j)) ∧ (∀ a, a < N → ∀ b, b < N → a ≠ b → (T a).2.1 ≠ (T b).2.1) ∧ parseFieldDescriptor (T k).2.2.1 = some ty ∧ (T k).2.2.2 = fin ∧ (fin = true → (T k).1 = own)
def v_np (y : MethodName) (n : Nat) : Prop := y.cls ≠ "java/lang/invoke/MethodHandle" ∧ y.cls ≠ "java/lang/invoke/VarHandle" ∧ (parseMethodDescriptor y.desc).map (fun d => d.parameters.length) = some n
/-- what a call of each kind asks of the tables -/
def v_cV (own : String) (idx : Nat) (C : String) (y : MethodName) (cc : ByteArray) (nL : Nat) (rt : Option FieldType) (n : Nat) : Prop :=
  Cond.methodLink own idx y ∈ wsG ∧ Cond.instanceMethod y ∈ wsG ∧ Cond.selects C y y ∈ wsG ∧ Cond.initialized C ∈ wsG ∧ Cond.code y cc nL rt ∈ wsG ∧ y.cls = C ∧ v_np y n
def v_cU (own : String) (idx : Nat) (C owner : String) (x y : MethodName) (cc : ByteArray) (nL : Nat) (rt : Option FieldType) (n : Nat) : Prop :=
  Cond.methodLink own idx x ∈ wsG ∧ Cond.sameMethod x.cls owner x.name x.desc ∈ wsG ∧ Cond.selects C x y ∈ wsG ∧ Cond.instanceMethod y ∈ wsG ∧ Cond.initialized y.cls ∈ wsG ∧ Cond.code y cc nL rt ∈ wsG ∧
  (Cond.declares ⟨owner, x.name, x.desc⟩ ∈ wsN ∨ ∃ (b : ByteArray) (k : Nat) (r : Option FieldType), Cond.instanceMethod ⟨owner, x.name, x.desc⟩ ∈ wsG ∧ Cond.code ⟨owner, x.name, x.desc⟩ b k r ∈ wsG) ∧ (owner ≠ "java/lang/invoke/MethodHandle" ∧ owner ≠ "java/lang/invoke/VarHandle" ∧ (parseMethodDescriptor x.desc).map (fun d => d.parameters.length) = some n)
def v_cS (own : String) (idx : Nat) (y : MethodName) (cc : ByteArray) (nL : Nat) (rt : Option FieldType) (n : Nat) : Prop :=
  Cond.methodLink own idx y ∈ wsG ∧ Cond.static y ∈ wsG ∧ Cond.initialized y.cls ∈ wsG ∧ Cond.code y cc nL rt ∈ wsG ∧ v_np y n
def v_cI (own : String) (idx : Nat) (y : MethodName) (cc : ByteArray) (nL : Nat) (n : Nat) : Prop :=
  Cond.methodLink own idx y ∈ wsG ∧ Cond.instanceMethod y ∈ wsG ∧ Cond.initialized y.cls ∈ wsG ∧ Cond.code y cc nL none ∈ wsG ∧ y.name = "<init>" ∧ v_np y n
def v_cVN (own : String) (idx : Nat) (C host : String) (y : MethodName) (cc : ByteArray) (nL : Nat) (rt : Option FieldType) (n : Nat) : Prop :=
  Cond.methodLinkNest own idx y host ∈ wsN ∧ Cond.instanceMethod y ∈ wsG ∧ Cond.selects C y y ∈ wsG ∧ Cond.initialized y.cls ∈ wsG ∧ Cond.code y cc nL rt ∈ wsG ∧ v_np y n
def v_cSN (own : String) (idx : Nat) (host : String) (y : MethodName) (cc : ByteArray) (nL : Nat) (rt : Option FieldType) (n : Nat) : Prop :=
  Cond.methodLinkNest own idx y host ∈ wsN ∧ Cond.static y ∈ wsG ∧ Cond.initialized y.cls ∈ wsG ∧ Cond.code y cc nL rt ∈ wsG ∧ v_np y n
def v_cIN (own : String) (idx : Nat) (host : String) (y : MethodName) (cc : ByteArray) (nL : Nat) (n : Nat) : Prop :=
  Cond.methodLinkNest own idx y host ∈ wsN ∧ Cond.instanceMethod y ∈ wsG ∧ Cond.initialized y.cls ∈ wsG ∧ Cond.code y cc nL none ∈ wsG ∧ y.name = "<init>" ∧ v_np y n
def v_cP (own : String) (idx : Nat) (y : MethodName) (cc : ByteArray) (nL : Nat) (rt : Option FieldType) (n : Nat) : Prop :=
  Cond.methodLink own idx y ∈ wsG ∧ Cond.sameMethod y.cls y.cls y.name y.desc ∈ wsG ∧ Cond.superclass own y.cls ∈ wsG ∧ Cond.instanceMethod y ∈ wsG ∧ Cond.initialized y.cls ∈ wsG ∧ Cond.code y cc nL rt ∈ wsG ∧ y.name ≠ "<init>" ∧ (parseMethodDescriptor y.desc).map (fun d => d.parameters.length) = some n
/-- a new object -/
def v_nw (own : String) (idx ci N : Nat) : Prop :=
  ∃ (C : String) (T : u_T) (ty0 : Nat → FieldType), vwCl[ci]? = some (C, T, N) ∧ (∀ w ∈ u_ws C T N, w ∈ wsG) ∧ (∀ j, j < N → parseFieldDescriptor (T j).2.2.1 = some (ty0 j)) ∧ Cond.classLink own idx C ∈ wsG ∧ Cond.instantiable C N ∈ wsG ∧ Cond.initialized C ∈ wsG ∧ (∀ j, j < N → defaultValue (ty0 j) = if (v_fl ci).getD j false = true then Value.null else Value.int 0) ∧ (v_fl ci).length = N ∧ ci < 13
/-- what a call of arraycopy asks of the tables -/
def v_cA (own : String) (idx : Nat) : Prop := Cond.methodLink own idx arraycopyName ∈ wsG ∧ Cond.native arraycopyName ∈ wsG ∧ Cond.static arraycopyName ∈ wsG ∧ Cond.initialized "java/lang/System" ∈ wsG
/-- a class's castability, or itself -/
def v_cst (ci : Nat) (E : String) : Prop := ∃ q : vw_C, vwCl[ci]? = some q ∧ ci < 13 ∧ (q.1 = E ∨ Cond.castable q.1 E ∈ wsN)
end
section
/-! what the tables say, entry by entry -/
theorem wg_356 : Cond.methodLink "OneFriend$Mayor" (1) yX10_init ∈ wsG := v_i2 44 (by decide +kernel)
theorem wg_301 : Cond.instanceMethod yX10_init ∈ wsG := v_i1 229 (by decide +kernel)
theorem wg_81 : Cond.initialized "OneFriend$Weighty" ∈ wsG := v_i1 9 (by decide +kernel)
theorem wg_302 : Cond.code yX10_init prog_12_method_1_code (4) none ∈ wsG := v_i1 230 (by decide +kernel)
theorem np_X10_init : v_np yX10_init 3 := ⟨by decide, by decide, by decide +kernel⟩
theorem kI_X0_1 : v_cI RX0 1 yX10_init cX10_init 4 3 := ⟨wg_356, wg_301, wg_81, wg_302, rfl, np_X10_init⟩
theorem wg_311 : Cond.sameField "OneFriend$Mayor" "OneFriend$Person" "number" "I" ∈ wsG := v_i1 239 (by decide +kernel)
theorem wg_310 : Cond.fieldLink "OneFriend$Mayor" (7) "OneFriend$Mayor" "number" "I" ∈ wsG := v_i1 238 (by decide +kernel)
theorem fg_X0_7_0 : v_fg RX0 7 0 1 false := ⟨RX0, TX0, 3, "OneFriend$Mayor", rfl, igX0, by decide, wg_310, Or.inr wg_311, rfl, by decide⟩
theorem wg_442 : Cond.methodLink "OneFriend$Mayor" (13) yX9_isEverybodys ∈ wsG := v_i2 130 (by decide +kernel)
theorem wg_443 : Cond.instanceMethod yX9_isEverybodys ∈ wsG := v_i2 131 (by decide +kernel)
theorem wg_444 : Cond.selects "OneFriend$Village" yX9_isEverybodys yX9_isEverybodys ∈ wsG := v_i2 132 (by decide +kernel)
theorem wg_74 : Cond.initialized "OneFriend$Village" ∈ wsG := v_i1 2 (by decide +kernel)
theorem wg_445 : Cond.code yX9_isEverybodys prog_11_method_10_code (3) (some .boolean) ∈ wsG := v_i2 133 (by decide +kernel)
theorem np_X9_isEverybodys : v_np yX9_isEverybodys 1 := ⟨by decide, by decide, by decide +kernel⟩
theorem kV_X0_13 : v_cV RX0 13 RX9 yX9_isEverybodys cX9_isEverybodys 3 (some .boolean) 1 := ⟨wg_442, wg_443, wg_444, wg_74, wg_445, rfl, np_X9_isEverybodys⟩
theorem wg_446 : Cond.methodLink "OneFriend$Mayor" (19) yX10_worth ∈ wsG := v_i2 134 (by decide +kernel)
theorem wg_1575 : Cond.sameMethod "OneFriend$Weighty" "OneFriend$Weighty" "worth" "(LOneFriend$Village;Z)I" ∈ wsG := v_i7 63 (by decide +kernel)
theorem wg_360 : Cond.superclass "OneFriend$Mayor" "OneFriend$Weighty" ∈ wsG := v_i2 48 (by decide +kernel)
theorem wg_447 : Cond.instanceMethod yX10_worth ∈ wsG := v_i2 135 (by decide +kernel)
theorem wg_448 : Cond.code yX10_worth prog_12_method_2_code (3) (some .int) ∈ wsG := v_i2 136 (by decide +kernel)
theorem kP_X0_19 : v_cP RX0 19 yX10_worth cX10_worth 3 (some .int) 2 := ⟨wg_446, wg_1575, wg_360, wg_447, wg_81, wg_448, by decide, by decide +kernel⟩
theorem wg_879 : Cond.methodLink "OneFriend$Mayor" (23) yX8_begin ∈ wsG := v_i4 87 (by decide +kernel)
theorem wg_880 : Cond.instanceMethod yX8_begin ∈ wsG := v_i4 88 (by decide +kernel)
theorem wg_881 : Cond.selects "OneFriend$Trace" yX8_begin yX8_begin ∈ wsG := v_i4 89 (by decide +kernel)
theorem wg_77 : Cond.initialized "OneFriend$Trace" ∈ wsG := v_i1 5 (by decide +kernel)
theorem wg_882 : Cond.code yX8_begin prog_10_method_2_code (2) none ∈ wsG := v_i4 90 (by decide +kernel)
theorem np_X8_begin : v_np yX8_begin 1 := ⟨by decide, by decide, by decide +kernel⟩
theorem kV_X0_23 : v_cV RX0 23 RX8 yX8_begin cX8_begin 2 none 1 := ⟨wg_879, wg_880, wg_881, wg_77, wg_882, rfl, np_X8_begin⟩
theorem wg_873 : Cond.instanceMethod yX2_meets ∈ wsG := v_i4 81 (by decide +kernel)
theorem wg_900 : Cond.code yX2_meets prog_4_method_3_code (3) (some .int) ∈ wsG := v_i4 108 (by decide +kernel)
theorem wg_883 : Cond.methodLink "OneFriend$Mayor" (29) ⟨"OneFriend$Weighty", "meets", "(ILOneFriend$Trace;)I"⟩ ∈ wsG := v_i4 91 (by decide +kernel)
theorem wg_884 : Cond.sameMethod "OneFriend$Weighty" "OneFriend$Person" "meets" "(ILOneFriend$Trace;)I" ∈ wsG := v_i4 92 (by decide +kernel)
theorem wg_909 : Cond.methodLink "OneFriend$Mayor" (33) yX10_counts ∈ wsG := v_i4 117 (by decide +kernel)
theorem wg_1577 : Cond.sameMethod "OneFriend$Weighty" "OneFriend$Weighty" "counts" "(ILOneFriend$Trace;)I" ∈ wsG := v_i7 65 (by decide +kernel)
theorem wg_910 : Cond.instanceMethod yX10_counts ∈ wsG := v_i4 118 (by decide +kernel)
theorem wg_911 : Cond.code yX10_counts prog_12_method_3_code (3) (some .int) ∈ wsG := v_i4 119 (by decide +kernel)
theorem kP_X0_33 : v_cP RX0 33 yX10_counts cX10_counts 3 (some .int) 2 := ⟨wg_909, wg_1577, wg_360, wg_910, wg_81, wg_911, by decide, by decide +kernel⟩
theorem wg_346 : Cond.methodLink "OneFriend$Moody" (1) yX2_init ∈ wsG := v_i2 34 (by decide +kernel)
theorem wg_304 : Cond.instanceMethod yX2_init ∈ wsG := v_i1 232 (by decide +kernel)
theorem wg_80 : Cond.initialized "OneFriend$Person" ∈ wsG := v_i1 8 (by decide +kernel)
theorem wg_305 : Cond.code yX2_init prog_4_method_1_code (4) none ∈ wsG := v_i1 233 (by decide +kernel)
theorem np_X2_init : v_np yX2_init 3 := ⟨by decide, by decide, by decide +kernel⟩
theorem kI_X1_1 : v_cI RX1 1 yX2_init cX2_init 4 3 := ⟨wg_346, wg_304, wg_80, wg_305, rfl, np_X2_init⟩
theorem wg_320 : Cond.sameField "OneFriend$Moody" "OneFriend$Person" "v" "I" ∈ wsG := v_i2 8 (by decide +kernel)
theorem wg_319 : Cond.fieldLink "OneFriend$Moody" (7) "OneFriend$Moody" "v" "I" ∈ wsG := v_i2 7 (by decide +kernel)
theorem fg_X1_7_1 : v_fg RX1 7 1 2 false := ⟨RX1, TX1, 3, "OneFriend$Moody", rfl, igX1, by decide, wg_319, Or.inr wg_320, rfl, by decide⟩
theorem fg_X1_7_6 : v_fg RX1 7 6 2 false := ⟨RX6, TX6, 3, "OneFriend$Moody", rfl, igX6, by decide, wg_319, Or.inr wg_320, rfl, by decide⟩
theorem wg_125 : Cond.fieldLink "OneFriend$Moody" (13) "OneFriend$Village" "years" "I" ∈ wsG := v_i1 53 (by decide +kernel)
theorem fg_X1_13_9 : v_fg RX1 13 9 2 false := ⟨RX9, TX9, 15, "OneFriend$Village", rfl, igX9, by decide, wg_125, Or.inl rfl, rfl, by decide⟩
theorem wg_934 : Cond.methodLink "OneFriend$Moody" (18) yX8_begin ∈ wsG := v_i4 142 (by decide +kernel)
theorem kV_X1_18 : v_cV RX1 18 RX8 yX8_begin cX8_begin 2 none 1 := ⟨wg_934, wg_880, wg_881, wg_77, wg_882, rfl, np_X8_begin⟩
theorem wg_935 : Cond.methodLink "OneFriend$Moody" (24) yX2_tells ∈ wsG := v_i4 143 (by decide +kernel)
theorem wg_929 : Cond.sameMethod "OneFriend$Person" "OneFriend$Person" "tells" "(ILOneFriend$Trace;)I" ∈ wsG := v_i4 137 (by decide +kernel)
theorem wg_350 : Cond.superclass "OneFriend$Moody" "OneFriend$Person" ∈ wsG := v_i2 38 (by decide +kernel)
theorem wg_927 : Cond.instanceMethod yX2_tells ∈ wsG := v_i4 135 (by decide +kernel)
theorem wg_949 : Cond.code yX2_tells prog_4_method_5_code (3) (some .int) ∈ wsG := v_i4 157 (by decide +kernel)
theorem kP_X1_24 : v_cP RX1 24 yX2_tells cX2_tells 3 (some .int) 2 := ⟨wg_935, wg_929, wg_350, wg_927, wg_80, wg_949, by decide, by decide +kernel⟩
theorem wg_903 : Cond.instanceMethod yX2_counts ∈ wsG := v_i4 111 (by decide +kernel)
end
